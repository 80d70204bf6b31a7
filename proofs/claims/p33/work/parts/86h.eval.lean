/-! a RULE's signs, worked out by the reference and by the class's Machine -/
def vl_r (word : Int → Int64) : List Int → List Int64 → Option (List Int64)
  | [], st => some st
  | o :: l, st => match sp_op word o st with
    | some st' => if st'.length ≤ 60 then vl_r word l st' else none
    | none => none
def vm_1 (word : Int → Int64) (o : Int) (st : List Int64) : Option (List Int64) :=
  if 0 ≤ o then (if st.length < 32 then some (Int64.ofInt o :: st) else none)
  else if -12 ≤ o then (if st.length < 32 then some (word (-1 - o) :: st) else none)
  else if o = -33 then (match st with
    | y :: r => some ((if y = 0 then 1 else 0) :: r)
    | _ => none)
  else (match st with
    | y :: x :: r => some (sp_one (cs_sg o) x y :: r)
    | _ => none)
def vm_l (word : Int → Int64) : List Int → List Int64 → Option (List Int64)
  | [], st => some st
  | o :: l, st => match vm_1 word o st with
    | some st' => vm_l word l st'
    | none => none
def rb (word : Int → Int64) (l : List Int) (A C : List Int64) : Prop := vl_r word l A = some C ∧ vm_l word (l.map a_cd) A = some C ∧ ∀ x ∈ l.map a_cd, -33 ≤ x ∧ x ≤ 99999 ∧ (x ≤ -21 ∨ -12 ≤ x)
theorem vl_app (word : Int → Int64) : ∀ (l l2 : List Int) (A C : List Int64), vl_r word l A = some C → vl_r word (l ++ l2) A = vl_r word l2 C
  | [], _, A, C, h => by
    have e : A = C := Option.some.inj h
    rw [e]
    rfl
  | o :: l, l2, A, C, h => by
    have h2 : (match sp_op word o A with
      | some st' => if st'.length ≤ 60 then vl_r word l st' else none
      | none => none) = some C := h
    show (match sp_op word o A with
      | some st' => if st'.length ≤ 60 then vl_r word (l ++ l2) st' else none
      | none => none) = _
    rcases he : sp_op word o A with _ | A1
    · rw [he] at h2; cases h2
    · rw [he] at h2
      dsimp only at h2 ⊢
      by_cases hl : A1.length ≤ 60
      · rw [if_pos hl] at h2 ⊢
        exact vl_app word l l2 A1 C h2
      · rw [if_neg hl] at h2; cases h2
theorem vm_app (word : Int → Int64) : ∀ (l l2 : List Int) (A C : List Int64), vm_l word l A = some C → vm_l word (l ++ l2) A = vm_l word l2 C
  | [], _, A, C, h => by
    have e : A = C := Option.some.inj h
    rw [e]
    rfl
  | o :: l, l2, A, C, h => by
    have h2 : (match vm_1 word o A with
      | some st' => vm_l word l st'
      | none => none) = some C := h
    show (match vm_1 word o A with
      | some st' => vm_l word (l ++ l2) st'
      | none => none) = _
    rcases he : vm_1 word o A with _ | A1
    · rw [he] at h2; cases h2
    · rw [he] at h2
      exact vm_app word l l2 A1 C h2
section RB
variable {word : Int → Int64}
theorem rb_nil {A : List Int64} : rb word [] A A := ⟨rfl, rfl, fun x h => by cases h⟩
theorem rb_app {l l2 : List Int} {A C E : List Int64} (h : rb word l A C) (h2 : rb word l2 C E) : rb word (l ++ l2) A E := by
  refine ⟨(vl_app word l l2 A C h.1).trans h2.1, ?_, fun x hx => ?_⟩
  · rw [List.map_append]
    exact (vm_app word _ _ A C h.2.1).trans h2.2.1
  · rw [List.map_append] at hx
    rcases List.mem_append.mp hx with z | z
    · exact h.2.2 x z
    · exact h2.2.2 x z
def bop (s : Int) : Prop := s = 2 ∨ s = 3 ∨ s = 4 ∨ s = 5 ∨ s = 14 ∨ s = 6 ∨ s = 7 ∨ s = 8 ∨ s = 9 ∨ s = 10 ∨ s = 12 ∨ s = 13
theorem rb_1 {o : Int} {A C : List Int64} (h1 : sp_op word o A = some C) (hl : C.length ≤ 60) (h2 : vm_1 word (a_cd o) A = some C) (h3 : -33 ≤ a_cd o ∧ a_cd o ≤ 99999 ∧ (a_cd o ≤ -21 ∨ -12 ≤ a_cd o)) : rb word [o] A C := by
  refine ⟨?_, ?_, fun x hx => ?_⟩
  · show (match sp_op word o A with
      | some st' => if st'.length ≤ 60 then vl_r word [] st' else none
      | none => none) = _
    rw [h1]
    exact if_pos hl
  · show (match vm_1 word (a_cd o) A with
      | some st' => vm_l word [] st'
      | none => none) = _
    rw [h2]
    rfl
  · have e : x = a_cd o := List.mem_singleton.mp hx
    rw [e]; exact h3
theorem rb_op {s : Int} (hs : bop s) {x y : Int64} {r : List Int64} (hl : r.length ≤ 59) : rb word [s] (y :: x :: r) (sp_one s x y :: r) := by
  have hl2 : (sp_one s x y :: r).length ≤ 60 := by rw [List.length_cons]; omega
  rcases hs with rfl | rfl | rfl | rfl | rfl | rfl | rfl | rfl | rfl | rfl | rfl | rfl
  all_goals exact rb_1 rfl hl2 rfl (by decide)
theorem rb_num {v : Int} (h0 : 0 ≤ v) (h1 : v ≤ 99999) {A : List Int64} (hl : A.length < 32) : rb word [0 + 16 * v] A (Int64.ofInt v :: A) := by
  have ea : a_cd (0 + 16 * v) = v := by
    unfold a_cd
    rw [if_pos (by omega)]
    omega
  refine rb_1 ?_ (by rw [List.length_cons]; omega) ?_ (by rw [ea]; omega)
  · unfold sp_op
    rw [if_pos (by omega), if_pos (by omega), show (0 + 16 * v) / 16 = v by omega]
  · rw [ea]
    unfold vm_1
    rw [if_pos h0, if_pos hl]
theorem rb_wd {v : Int} (h0 : 0 ≤ v) (h1 : v ≤ 11) {A : List Int64} (hl : A.length < 32) : rb word [1 + 16 * v] A (word v :: A) := by
  have ea : a_cd (1 + 16 * v) = -1 - v := by
    unfold a_cd
    rw [if_neg (by omega), if_pos (by omega)]
    omega
  refine rb_1 ?_ (by rw [List.length_cons]; omega) ?_ (by rw [ea]; omega)
  · unfold sp_op
    rw [if_pos (by omega), if_neg (by omega), if_pos (by omega), show (1 + 16 * v) / 16 = v by omega, if_pos (by omega)]
  · rw [ea]
    unfold vm_1
    rw [if_neg (by omega), if_pos (by omega), if_pos hl, show -1 - (-1 - v) = v by omega]
theorem rb_not {y : Int64} (hy : y = 0 ∨ y = 1) {r : List Int64} (hl : r.length ≤ 59) : rb word [11 + 16 * 0] (y :: r) ((1 - y) :: r) := by
  refine rb_1 rfl (by rw [List.length_cons]; omega) ?_ (by decide)
  show some ((if y = 0 then 1 else 0) :: r) = some ((1 - y) :: r)
  rcases hy with rfl | rfl <;> rfl
end RB
def gq (l : List Int) (m u : Nat) (bi bo : Bool) : Prop := ∀ (word : Int → Int64) (P S : List Int64), P.length = m → (bi = true → ∀ y ∈ P, y = 0 ∨ y = 1) → S.length + u ≤ 32 → ∃ v : Int64, (bo = true → v = 0 ∨ v = 1) ∧ rb word l (P ++ S) (v :: S)
def gw_ok (m u : Nat) (bi bo : Bool) : c_R → Prop
  | .error _ => True
  | .ok (_, _, l) => gq l m u bi bo
theorem gw_pre {l : List Int} {m m2 u : Nat} {bi bo : Bool} {r : c_R} (h : gw_ok m2 u bi bo r) (hl : ∀ (word : Int → Int64) (P S : List Int64), P.length = m → (bi = true → ∀ y ∈ P, y = 0 ∨ y = 1) → S.length + u ≤ 32 → ∃ P2 : List Int64, P2.length = m2 ∧ (bi = true → ∀ y ∈ P2, y = 0 ∨ y = 1) ∧ rb word l (P ++ S) (P2 ++ S)) : gw_ok m u bi bo (c_pre l r) := by
  rcases r with e | ⟨p, c, ls⟩
  · trivial
  · intro word P S h1 h2 h3
    obtain ⟨P2, q1, q2, q3⟩ := hl word P S h1 h2 h3
    obtain ⟨v, q4, q5⟩ := h word P2 S q1 q2 h3
    exact ⟨v, q4, rb_app q3 q5⟩
section GV
variable {f : Int → Int} {L : Int}
/-- a VALUE -/
theorem gv_val {p c p1 c1 : Int} {l : List Int} (h : c_val f L p c = .ok (p1, c1, l)) (word : Int → Int64) : ∃ v : Int64, ∀ A : List Int64, A.length < 32 → rb word l A (v :: A) := by
  unfold c_val at h
  split at h
  · rcases hn : rs_num f L 0 99999 (tk_sk f L p) with e | ⟨n1, v⟩
    · rw [hn] at h; cases h
    · rw [hn] at h
      dsimp only at h
      split at h
      · cases h
      · have hb := rs_num_b hn
        cases h
        exact ⟨_, fun A hA => rb_num hb.1 hb.2 hA⟩
  · split at h
    · cases h
    · rename_i hw
      split at h
      · cases h
      · have hb := rs_word_b f L (tk_sk f L p)
        cases h
        exact ⟨_, fun A hA => rb_wd (by omega) (by omega) hA⟩
def m1 (x : Int) : Nat := if x = 0 then 0 else 1
theorem rb_oo {word : Int → Int64} {o : Int} (ho : o = 0 ∨ bop o) {v : Int64} {P S : List Int64} (hP : P.length = m1 o) (hl : S.length ≤ 59) : ∃ v2 : Int64, rb word (if o = 0 then [] else [o]) (v :: (P ++ S)) (v2 :: S) := by
  unfold m1 at hP
  by_cases z : o = 0
  · rw [if_pos z] at hP ⊢
    obtain rfl := List.length_eq_zero_iff.mp hP
    exact ⟨v, rb_nil⟩
  · rw [if_neg z] at hP ⊢
    obtain ⟨x, rfl⟩ := List.length_eq_one_iff.mp hP
    exact ⟨_, rb_op (ho.resolve_left z) hl⟩
theorem bop_top (b : Int) : bop (rs_top b + 16 * 0) := by unfold bop rs_top; split <;> (try split) <;> omega
theorem bop_sop (b : Int) : bop (rs_sop b + 16 * 0) := by unfold bop rs_sop; split <;> omega
theorem gv_sl : ∀ (n : Nat) (p c tim add : Int), (tim = 0 ∨ bop tim) → (add = 0 ∨ bop add) → gw_ok (m1 tim + m1 add) 3 false false (c_sl f L n p c tim add)
  | 0, _, _, _, _, _, _ => trivial
  | n + 1, p, c, tim, add, ht, ha => by
    unfold c_sl
    rcases hv : c_val f L p c with e | ⟨p1, c1, l1⟩
    · trivial
    · dsimp only
      have key : ∀ (word : Int → Int64) (P S : List Int64), P.length = m1 tim + m1 add → S.length + 3 ≤ 32 → ∃ (v : Int64) (Pa : List Int64), Pa.length = m1 add ∧ rb word (l1 ++ (if tim = 0 then [] else [tim])) (P ++ S) (v :: (Pa ++ S)) := by
        intro word P S hP hS
        obtain ⟨v0, hv0⟩ := gv_val hv word
        have b1 : m1 tim ≤ 1 := by unfold m1; split <;> omega
        have b2 : m1 add ≤ 1 := by unfold m1; split <;> omega
        have hA := hv0 (P ++ S) (by rw [List.length_append]; omega)
        have hsp : P = P.take (m1 tim) ++ P.drop (m1 tim) := (List.take_append_drop _ _).symm
        have hPt : (P.take (m1 tim)).length = m1 tim := by rw [List.length_take]; omega
        have hPd : (P.drop (m1 tim)).length = m1 add := by rw [List.length_drop]; omega
        obtain ⟨v2, h2⟩ := rb_oo (word := word) (o := tim) ht (v := v0) (P := P.take (m1 tim)) (S := P.drop (m1 tim) ++ S) hPt (by rw [List.length_append]; omega)
        refine ⟨v2, P.drop (m1 tim), hPd, rb_app hA ?_⟩
        rw [← List.append_assoc, ← hsp] at h2
        exact h2
      split
      · refine gw_pre (gv_sl n _ _ _ _ (Or.inr (bop_top _)) ha) (fun word P S h1 _ h3 => ?_)
        obtain ⟨v, Pa, q1, q2⟩ := key word P S h1 h3
        have e1 : m1 (rs_top (f (tk_sk f L p1)) + 16 * 0) = 1 := if_neg (rs_top_nz _)
        exact ⟨v :: Pa, by rw [List.length_cons, e1]; omega, fun z => (by cases z), q2⟩
      · split
        · refine gw_pre (gv_sl n _ _ _ _ (Or.inl rfl) (Or.inr (bop_sop _))) (fun word P S h1 _ h3 => ?_)
          obtain ⟨v, Pa, q1, q2⟩ := key word P S h1 h3
          obtain ⟨v2, q3⟩ := rb_oo (word := word) (o := add) ha (v := v) (P := Pa) (S := S) q1 (by omega)
          have e1 : m1 (rs_sop (f (tk_sk f L p1)) + 16 * 0) = 1 := if_neg (rs_sop_nz _)
          have e0 : m1 0 = 0 := rfl
          exact ⟨[v2], by rw [e1, e0]; rfl, fun z => (by cases z), rb_app q2 q3⟩
        · intro word P S h1 _ h3
          obtain ⟨v, Pa, q1, q2⟩ := key word P S h1 h3
          obtain ⟨v2, q3⟩ := rb_oo (word := word) (o := add) ha (v := v) (P := Pa) (S := S) q1 (by omega)
          exact ⟨v2, fun z => (by cases z), rb_app q2 q3⟩
theorem gv_sum {p c p1 c1 : Int} {l : List Int} (h : c_sum f L p c = .ok (p1, c1, l)) : gq l 0 3 false false := by
  have q := gv_sl (f := f) (L := L) 401 p c 0 0 (Or.inl rfl) (Or.inl rfl)
  unfold c_sum at h
  rw [h] at q
  exact q
theorem sp_one_b {s : Int} (hs : s = 6 ∨ s = 7 ∨ s = 8 ∨ s = 9 ∨ s = 10) (x y : Int64) : sp_one s x y = 0 ∨ sp_one s x y = 1 := by
  rcases hs with rfl | rfl | rfl | rfl | rfl
  · show (if x < y then 1 else 0 : Int64) = 0 ∨ (if x < y then 1 else 0 : Int64) = 1
    split <;> simp
  · show (if x ≤ y then 1 else 0 : Int64) = 0 ∨ (if x ≤ y then 1 else 0 : Int64) = 1
    split <;> simp
  · show (if x = y then 1 else 0 : Int64) = 0 ∨ (if x = y then 1 else 0 : Int64) = 1
    split <;> simp
  · show (if y ≤ x then 1 else 0 : Int64) = 0 ∨ (if y ≤ x then 1 else 0 : Int64) = 1
    split <;> simp
  · show (if y < x then 1 else 0 : Int64) = 0 ∨ (if y < x then 1 else 0 : Int64) = 1
    split <;> simp
theorem gv_cmp {p c p1 c1 : Int} {l : List Int} (h : c_cmp f L p c = .ok (p1, c1, l)) : gq l 0 4 true true := by
  unfold c_cmp at h
  rcases h1 : c_sum f L p c with e | ⟨q1, d1, l1⟩
  · rw [h1] at h; cases h
  · rw [h1] at h
    dsimp only at h
    split at h
    · split at h
      · cases h
      · rcases h2 : c_sum f L (tk_sk f L q1 + 1 + rs_also f L (tk_sk f L q1)) (d1 + 1) with e | ⟨q2, d2, l2⟩
        · rw [h2] at h; cases h
        · rw [h2] at h
          dsimp only at h
          cases h
          intro word P S hP _ hS
          obtain rfl := List.length_eq_zero_iff.mp hP
          obtain ⟨v1, -, r1⟩ := gv_sum h1 word [] S rfl (fun z => (by cases z)) (by omega)
          obtain ⟨v2, -, r2⟩ := gv_sum h2 word [] (v1 :: S) rfl (fun z => (by cases z)) (by rw [List.length_cons]; omega)
          have hb := rs_cs_b (tk_ch f L (tk_sk f L q1)) (rs_also f L (tk_sk f L q1))
          refine ⟨_, fun _ => sp_one_b (s := 6 + rs_cs (tk_ch f L (tk_sk f L q1)) (rs_also f L (tk_sk f L q1)) + 16 * 0) (by omega) v1 v2, rb_app r1 (rb_app r2 (rb_op (by unfold bop; omega) (by omega)))⟩
    · cases h
def b1 (b : Bool) : Nat := if b then 1 else 0
theorem and_b {x y : Int64} (hx : x = 0 ∨ x = 1) (hy : y = 0 ∨ y = 1) : sp_one 12 x y = 0 ∨ sp_one 12 x y = 1 := by
  rcases hx with rfl | rfl <;> rcases hy with rfl | rfl <;> decide
theorem or_b {x y : Int64} (hx : x = 0 ∨ x = 1) (hy : y = 0 ∨ y = 1) : sp_one 13 x y = 0 ∨ sp_one 13 x y = 1 := by
  rcases hx with rfl | rfl <;> rcases hy with rfl | rfl <;> decide
theorem rb_bb {word : Int → Int64} {o : Int} (ho : o = 12 ∨ o = 13) {b : Bool} {v : Int64} (hv : v = 0 ∨ v = 1) {P S : List Int64} (hP : P.length = b1 b) (hP2 : ∀ y ∈ P, y = 0 ∨ y = 1) (hl : S.length ≤ 59) : ∃ v2 : Int64, (v2 = 0 ∨ v2 = 1) ∧ rb word (if b then [o + 16 * 0] else []) (v :: (P ++ S)) (v2 :: S) := by
  cases b
  · obtain rfl := List.length_eq_zero_iff.mp hP
    exact ⟨v, hv, rb_nil⟩
  · obtain ⟨x, rfl⟩ := List.length_eq_one_iff.mp hP
    have hx := hP2 x (List.mem_singleton.mpr rfl)
    rcases ho with rfl | rfl
    · exact ⟨_, and_b hx hv, rb_op (s := 12) (by unfold bop; omega) hl⟩
    · exact ⟨_, or_b hx hv, rb_op (s := 13) (by unfold bop; omega) hl⟩
theorem gv_tst {F : Int → Int → c_R} {u : Nat} (hF : ∀ p c p1 c1 l, F p c = .ok (p1, c1, l) → gq l 0 u true true) : ∀ (n : Nat) (p c : Int) (aa oo : Bool), gw_ok (b1 aa + b1 oo) (u + 2) true true (c_tst f L F n p c aa oo)
  | 0, _, _, _, _ => trivial
  | n + 1, p, c, aa, oo => by
    unfold c_tst
    rcases hv : F p c with e | ⟨p1, c1, l1⟩
    · trivial
    · dsimp only
      have key : ∀ (word : Int → Int64) (P S : List Int64), P.length = b1 aa + b1 oo → (∀ y ∈ P, y = 0 ∨ y = 1) → S.length + (u + 2) ≤ 32 → ∃ (v : Int64) (Pa : List Int64), Pa.length = b1 oo ∧ (v = 0 ∨ v = 1) ∧ (∀ y ∈ Pa, y = 0 ∨ y = 1) ∧ rb word (l1 ++ (if aa then [12 + 16 * 0] else [])) (P ++ S) (v :: (Pa ++ S)) := by
        intro word P S hP hP2 hS
        have c1 : b1 aa ≤ 1 := by unfold b1; split <;> omega
        have c2 : b1 oo ≤ 1 := by unfold b1; split <;> omega
        obtain ⟨v0, k0, r0⟩ := hF _ _ _ _ _ hv word [] (P ++ S) rfl (fun _ y hy => (by cases hy)) (by rw [List.length_append]; omega)
        have hsp : P = P.take (b1 aa) ++ P.drop (b1 aa) := (List.take_append_drop _ _).symm
        have hPt : (P.take (b1 aa)).length = b1 aa := by rw [List.length_take]; omega
        have hPd : (P.drop (b1 aa)).length = b1 oo := by rw [List.length_drop]; omega
        obtain ⟨v2, k2, h2⟩ := rb_bb (word := word) (o := 12) (Or.inl rfl) (b := aa) (k0 rfl) (P := P.take (b1 aa)) (S := P.drop (b1 aa) ++ S) hPt (fun y hy => hP2 y (List.mem_of_mem_take hy)) (by rw [List.length_append]; omega)
        refine ⟨v2, P.drop (b1 aa), hPd, k2, fun y hy => hP2 y (List.mem_of_mem_drop hy), rb_app r0 ?_⟩
        rw [← List.append_assoc, ← hsp] at h2
        exact h2
      split
      · refine gw_pre (gv_tst hF n _ _ true oo) (fun word P S h1 h2 h3 => ?_)
        obtain ⟨v, Pa, q1, q2, q3, q4⟩ := key word P S h1 (h2 rfl) h3
        exact ⟨v :: Pa, by rw [List.length_cons, q1]; show _ = 1 + _; omega, fun _ y hy => (List.mem_cons.mp hy).elim (fun z => z ▸ q2) (q3 y), q4⟩
      · split
        · refine gw_pre (gv_tst hF n _ _ false true) (fun word P S h1 h2 h3 => ?_)
          obtain ⟨v, Pa, q1, q2, q3, q4⟩ := key word P S h1 (h2 rfl) h3
          obtain ⟨v2, k2, q5⟩ := rb_bb (word := word) (o := 13) (Or.inr rfl) (b := oo) q2 (P := Pa) (S := S) q1 q3 (by omega)
          exact ⟨[v2], rfl, fun _ y hy => (List.mem_singleton.mp hy) ▸ k2, rb_app q4 q5⟩
        · intro word P S h1 h2 h3
          obtain ⟨v, Pa, q1, q2, q3, q4⟩ := key word P S h1 (h2 rfl) h3
          obtain ⟨v2, k2, q5⟩ := rb_bb (word := word) (o := 13) (Or.inr rfl) (b := oo) q2 (P := Pa) (S := S) q1 q3 (by omega)
          exact ⟨v2, fun _ => k2, rb_app q4 q5⟩
theorem gq_mono {l : List Int} {m u u2 : Nat} {bi bo : Bool} (h : gq l m u bi bo) (hu : u ≤ u2) : gq l m u2 bi bo := fun word P S h1 h2 h3 => h word P S h1 h2 (by omega)
theorem gv_fact : ∀ (k : Nat) (p c p1 c1 : Int) (l : List Int), c_fact f L k p c = .ok (p1, c1, l) → gq l 0 (4 + 2 * k) true true
  | 0, p, c, p1, c1, l, h => by
    unfold c_fact at h
    split at h
    · cases h
    · split at h
      · cases h
      · exact gv_cmp h
  | k + 1, p, c, p1, c1, l, h => by
    unfold c_fact at h
    split at h
    · rcases hr : c_fact f L k (tk_le f L (tk_sk f L p)) c with e | ⟨q1, d1, l1⟩
      · rw [hr] at h; cases h
      · rw [hr] at h
        cases h
        intro word P S hP hP2 hS
        obtain ⟨v, hv, r⟩ := gv_fact k _ _ _ _ _ hr word P S hP hP2 (by omega)
        refine ⟨1 - v, fun _ => ?_, rb_app r (rb_not (hv rfl) (by omega))⟩
        rcases hv rfl with rfl | rfl <;> decide
    · split at h
      · have q := gv_tst (f := f) (L := L) (F := c_fact f L k) (u := 4 + 2 * k) (fun p c p1 c1 l h => gv_fact k p c p1 c1 l h) 401 (tk_sk f L p + 1) c false false
        rcases hr : c_tst f L (c_fact f L k) 401 (tk_sk f L p + 1) c false false with e | ⟨q1, d1, l1⟩
        · rw [hr] at h; cases h
        · rw [hr] at h q
          unfold c_br at h
          dsimp only at h
          split at h
          · cases h
            exact gq_mono q (by omega)
          · cases h
      · exact gq_mono (gv_cmp h) (by omega)
/-- a CLAUSE: its SUM, its TEST -/
def gc (k : c_C) : Prop := gq k.1 0 3 false false ∧ ∀ l, k.2 = some l → gq l 0 26 true true
theorem gv_turn {p c p1 c1 : Int} {k : c_C} (h : c_turn f L p c = .ok (p1, c1, k)) : gc k := by
  unfold c_turn at h
  rcases h1 : c_sum f L (tk_le f L p) c with e | ⟨q1, d1, l1⟩
  · rw [h1] at h; cases h
  · rw [h1] at h
    dsimp only at h
    split at h
    · have q := gv_tst (f := f) (L := L) (F := c_fact f L 10) (u := 24) (fun p c p1 c1 l h => gv_fact 10 p c p1 c1 l h) 401 (tk_le f L (tk_sk f L q1)) d1 false false
      rcases hr : c_tst f L (c_fact f L 10) 401 (tk_le f L (tk_sk f L q1)) d1 false false with e | ⟨q2, d2, l2⟩
      · rw [hr] at h; cases h
      · rw [hr] at h q
        cases h
        refine ⟨gv_sum h1, fun l hl => ?_⟩
        cases hl
        exact q
    · cases h
      exact ⟨gv_sum h1, fun l hl => (by cases hl)⟩
theorem gv_rcl {p lines c p1 c1 : Int} {k : c_C} (h : c_rcl f L p lines c = .ok (p1, c1, k)) : gc k := by
  unfold c_rcl at h
  split at h
  · split at h
    · cases h
    · exact gv_turn h
  · cases h
theorem gv_rgo : ∀ (n : Nat) (p lines c c3 : Int) (ks : List c_C), c_rgo f L n p lines c = .ok (c3, ks) → (∀ k ∈ ks, gc k) ∧ ks.length ≤ n
  | 0, _, _, _, _, _, h => by cases h
  | n + 1, p, lines, c, c3, ks, h => by
    unfold c_rgo at h
    split at h
    · rcases h1 : c_rcl f L (tk_sk f L p + 1) lines c with e | ⟨p2, c2, k⟩
      · rw [h1] at h; cases h
      · rw [h1] at h
        dsimp only at h
        rcases h2 : c_rgo f L n p2 (lines + 1) c2 with e | ⟨c4, ks2⟩
        · rw [h2] at h; cases h
        · rw [h2] at h
          cases h
          have q := gv_rgo n _ _ _ _ _ h2
          exact ⟨fun k hk => (List.mem_cons.mp hk).elim (fun z => z ▸ gv_rcl h1) (q.1 k), by rw [List.length_cons]; omega⟩
    · split at h
      · cases h
        exact ⟨fun k hk => (by cases hk), by simp⟩
      · cases h
theorem gv_rall {c3 : Int} {ks : List c_C} (h : c_rall f L = .ok (c3, ks)) : ∀ k ∈ ks, gc k := by
  unfold c_rall at h
  rcases h1 : c_rcl f L 0 0 0 with e | ⟨p2, c2, k⟩
  · rw [h1] at h; cases h
  · rw [h1] at h
    dsimp only at h
    rcases h2 : c_rgo f L 12 p2 1 c2 with e | ⟨c4, ks2⟩
    · rw [h2] at h; cases h
    · rw [h2] at h
      cases h
      exact fun k hk => (List.mem_cons.mp hk).elim (fun z => z ▸ gv_rcl h1) ((gv_rgo _ _ _ _ _ _ h2).1 k)
end GV

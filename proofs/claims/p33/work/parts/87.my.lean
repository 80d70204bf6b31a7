/-! the reference: what holds between calls, and that each call keeps it -/
def sgc (c : Int) (f : Int → Int) : Prop := sg_ok 23999 f ∧ f 8 ≤ c
def snc (c : Int) (s : Int → Int) : Prop := (∀ k, 0 ≤ k → k < 53 → sg_lo k ≤ s k ∧ s k ≤ sg_hi k) ∧ 24 * s 6 + s 5 ≤ 23999 ∧ (∀ k, 34 ≤ k → k < 46 → s k ≤ 3 * (24 * s 6 + s 5)) ∧ s 8 ≤ c
theorem sgc.mono {c : Int} {f : Int → Int} (h : sgc c f) : sgc (c + 1) f := ⟨h.1, by have := h.2; omega⟩
theorem snc.mono {c : Int} {f : Int → Int} (h : snc c f) : snc (c + 1) f := ⟨h.1, h.2.1, h.2.2.1, by have := h.2.2.2; omega⟩
theorem sgc.sn {c : Int} {f : Int → Int} (h : sgc c f) : snc c f := ⟨fun k h0 h1 => h.1.1 k h0 (by omega), h.1.2.1.1, h.1.2.2, h.2⟩
theorem sgc.cong {c : Int} {f g : Int → Int} (h : sgc c f) (e : ∀ k, 0 ≤ k → k < 191 → g k = f k) : sgc c g := by
  refine ⟨⟨fun k h0 h1 => by rw [e k h0 h1]; exact h.1.1 k h0 h1, ⟨?_, by decide⟩, fun k h0 h1 => ?_⟩, ?_⟩
  · rw [e 6 (by decide) (by decide), e 5 (by decide) (by decide)]; exact h.1.2.1.1
  · rw [e k (by omega) (by omega), e 6 (by decide) (by decide), e 5 (by decide) (by decide)]; exact h.1.2.2 k h0 h1
  · rw [e 8 (by decide) (by decide)]; exact h.2
theorem snc.cong {c : Int} {f g : Int → Int} (h : snc c f) (e : ∀ k, 0 ≤ k → k < 53 → g k = f k) : snc c g := by
  refine ⟨fun k h0 h1 => by rw [e k h0 h1]; exact h.1 k h0 h1, ?_, fun k h0 h1 => ?_, ?_⟩
  · rw [e 6 (by decide) (by decide), e 5 (by decide) (by decide)]; exact h.2.1
  · rw [e k (by omega) (by omega), e 6 (by decide) (by decide), e 5 (by decide) (by decide)]; exact h.2.2.1 k h0 h1
  · rw [e 8 (by decide) (by decide)]; exact h.2.2.2
theorem sgc.back {c : Int} {f s : Int → Int} (h : sgc c f) (hs : snc c s) : sgc c (sp_cp s f 53) := by
  have e : ∀ k, 0 ≤ k → k < 53 → sp_cp s f 53 k = s k := fun k h0 h1 => if_pos ⟨h0, h1⟩
  have e2 : ∀ k, 53 ≤ k → sp_cp s f 53 k = f k := fun k h0 => if_neg (fun z => by have := z.2; omega)
  refine ⟨⟨fun k h0 h1 => ?_, ⟨?_, by decide⟩, fun k h0 h1 => ?_⟩, ?_⟩
  · rcases Int.lt_or_le k 53 with h3 | h3
    · rw [e k h0 h3]; exact hs.1 k h0 h3
    · rw [e2 k h3]; exact h.1.1 k h0 h1
  · rw [e 6 (by decide) (by decide), e 5 (by decide) (by decide)]; exact hs.2.1
  · rw [e k (by omega) (by omega), e 6 (by decide) (by decide), e 5 (by decide) (by decide)]; exact hs.2.2.1 k h0 h1
  · rw [e 8 (by decide) (by decide)]; exact hs.2.2.2
theorem sg_least {B : Int} {f : Int → Int} (h : sg_ok B f) : sg_ok (24 * f 6 + f 5) f := ⟨h.1, ⟨by omega, by have := h.2.1; omega⟩, h.2.2⟩
theorem sg_more {B C : Int} {f : Int → Int} (h : sg_ok B f) (h1 : B ≤ C) (h2 : C ≤ 30000) : sg_ok C f := ⟨h.1, ⟨by have := h.2.1.1; omega, h2⟩, h.2.2⟩
theorem sp_pass8 {B r : Int} {f : Int → Int} (h : sg_ok B f) (hr : -3 ≤ r) (hr3 : r ≤ 3) : sp_passAt r f 8 = f 8 := by
  have hn : (sp_n f r).natAbs ≤ 3 := by unfold sp_n; split <;> omega
  have e : sp_turns (sp_by (sp_n f r)) (ab_up f 7 0) (sp_n f r).natAbs 8 = f 8 := by
    rw [sp_turns_keep (sg_mid0 h) _ hn 8 (by decide) (by decide), ab_upn _ _ (by decide)]
  unfold sp_passAt
  generalize sp_turns (sp_by (sp_n f r)) (ab_up f 7 0) (sp_n f r).natAbs = g at e
  unfold sp_goesOn
  split
  · rw [ab_upn _ _ (by decide), e]
  · rw [ab_upn _ _ (by decide), ab_upn _ _ (by decide), ab_upn _ _ (by decide), e]
theorem sgc.pass {c : Int} {f : Int → Int} (h : sgc c f) (hg : 24 * f 6 + f 5 + 1 < 24000) : sgc (c + 1) (sp_pass f) := by
  have hr := sg_rate h.1
  refine ⟨sg_more (sg_pass (sg_least h.1) (by omega)) (by omega) (by decide), ?_⟩
  have := h.2
  rw [show sp_pass f 8 = f 8 from sp_pass8 h.1 hr.1 hr.2]
  omega
theorem sp_run8 {B : Int} {f : Int → Int} (h : sg_ok B f) {E : (Int → Int) → Int} (hE : ∀ g, -3 ≤ E g ∧ E g ≤ 3) : ∀ n : Nat, B + n ≤ 30000 → sp_runN E f n 8 = f 8
  | 0, _ => rfl
  | n + 1, hn => by
    show sp_passAt (E (sp_runN E f n)) (sp_runN E f n) 8 = f 8
    rw [sp_pass8 (sg_runN h hE n (by omega)) (hE _).1 (hE _).2]
    exact sp_run8 h hE n (by omega)
theorem sgc.run {c : Int} {f : Int → Int} (h : sgc c f) {E : (Int → Int) → Int} (hE : ∀ g, -3 ≤ E g ∧ E g ≤ 3) {n : Int} (h0 : 1 ≤ n) (hg : 24 * f 6 + f 5 + n < 24000) : sgc (c + 1) (sp_runN E f n.toNat) := by
  refine ⟨sg_more (sg_runN (sg_least h.1) hE n.toNat (by omega)) (by omega) (by decide), ?_⟩
  have := h.2
  rw [sp_run8 (sg_least h.1) hE n.toNat (by omega)]
  omega
theorem sgc.up {c j v : Int} {f : Int → Int} (h : sgc c f) (hj : sg_lo j ≤ v ∧ v ≤ sg_hi j) (h5 : ¬ j = 5) (h6 : ¬ j = 6) (h8 : j = 8 → v ≤ c) (hw : ¬ (34 ≤ j ∧ j < 46)) : sgc c (ab_up f j v) := by
  refine ⟨⟨fun k h0 h1 => ?_, ⟨?_, by decide⟩, fun k h0 h1 => ?_⟩, ?_⟩
  · by_cases e : k = j
    · subst e; rw [ab_upe]; exact hj
    · rw [ab_upn _ _ e]; exact h.1.1 k h0 h1
  · rw [ab_upn _ _ (fun z => h6 z.symm), ab_upn _ _ (fun z => h5 z.symm)]; exact h.1.2.1.1
  · rw [ab_upn _ _ (fun z => hw (by omega)), ab_upn _ _ (fun z => h6 z.symm), ab_upn _ _ (fun z => h5 z.symm)]; exact h.1.2.2 k h0 h1
  · by_cases e : 8 = j
    · subst e; rw [ab_upe]; exact h8 rfl
    · rw [ab_upn _ _ e]; exact h.2
def snw (c undone : Int) (was : Int → Int) : Prop := ∀ u, 0 ≤ u → u < undone → snc c (sp_snap was u)
theorem snw.mono {c u : Int} {was : Int → Int} (h : snw c u was) : snw (c + 1) u was := fun k h0 h1 => (h k h0 h1).mono
theorem snw.keep {c u : Int} {was said : Int → Int} (h : snw c u was) (hs : sgc c said) (hu0 : 0 ≤ u) (hu : u ≤ 20) : snw c (sp_ku u + 1) (sp_kw said was u) := by
  intro k h0 h1
  have hk : sp_ku u = u ∧ u < 20 ∨ sp_ku u = 19 ∧ u = 20 := by unfold sp_ku; split <;> omega
  by_cases e : k = sp_ku u
  · refine hs.sn.cong (fun j g0 g1 => ?_)
    unfold sp_snap sp_kw sp_kp
    rw [if_pos (by omega)]
    congr 1
    omega
  · rcases hk with ⟨k1, k2⟩ | ⟨k1, k2⟩
    · refine (h k h0 (by omega)).cong (fun j g0 g1 => ?_)
      unfold sp_snap sp_kw sp_kp
      rw [if_neg (by omega), if_neg (by omega)]
    · refine (h (k + 1) (by omega) (by omega)).cong (fun j g0 g1 => ?_)
      unfold sp_snap sp_kw sp_kp
      rw [if_neg (by omega), if_pos k2]
      unfold sp_sh
      rw [if_pos (by omega)]
      congr 1
      omega
theorem sgc.dia {c h n s z : Int} {f : Int → Int} (hf : sgc c f) (g : (0 ≤ h ∧ h < f 1) ∧ (0 ≤ n ∧ n ≤ 99) ∧ (0 ≤ s ∧ s ≤ 4) ∧ ¬ f 190 = 10) (hz : z = 0 ∨ z = 1) : sgc c (sp_dia f h n s z) := by
  have b1 : f 1 ≤ 7 := (hf.1.1 1 (by decide) (by decide)).2
  have b2 := hf.1.1 190 (by decide) (by decide)
  have b2 : 0 ≤ f 190 ∧ f 190 ≤ 10 := b2
  have hl : ∀ k : Int, 150 ≤ k → k < 190 → sg_lo k = 0 ∧ sg_hi k = (if (k - 150) % 4 = 0 then 6 else if (k - 150) % 4 = 1 then 99 else if (k - 150) % 4 = 2 then 4 else 1) := fun k h0 h1 => by
    unfold sg_lo sg_hi
    rw [if_neg (by omega), if_neg (by omega), if_neg (by omega), if_neg (by omega), if_neg (by omega), if_neg (by omega), if_neg (by omega), if_neg (by omega), if_neg (by omega), if_pos (by omega)]
    exact ⟨rfl, rfl⟩
  have q0 := hl (150 + 4 * f 190) (by omega) (by omega)
  have q1 := hl (150 + 4 * f 190 + 1) (by omega) (by omega)
  have q2 := hl (150 + 4 * f 190 + 2) (by omega) (by omega)
  have q3 := hl (150 + 4 * f 190 + 3) (by omega) (by omega)
  rw [if_pos (by omega)] at q0
  rw [if_neg (by omega), if_pos (by omega)] at q1
  rw [if_neg (by omega), if_neg (by omega), if_pos (by omega)] at q2
  rw [if_neg (by omega), if_neg (by omega), if_neg (by omega)] at q3
  have q4 : sg_lo 190 = 0 ∧ sg_hi 190 = 10 := by decide
  unfold sp_dia
  refine sgc.up (sgc.up (sgc.up (sgc.up (sgc.up hf ?_ ?_ ?_ ?_ ?_) ?_ ?_ ?_ ?_ ?_) ?_ ?_ ?_ ?_ ?_) ?_ ?_ ?_ ?_ ?_) ?_ ?_ ?_ ?_ ?_ <;> omega
theorem sgc_said {c : Int} {rd sd : Int → Int} (h : rd_ok rd) (hc : 0 ≤ c) : sgc (c + 1) (rs_said rd sd 191) := by
  have e : ∀ k, 0 ≤ k → k < 191 → rs_said rd sd 191 k = if k < 150 then rd k else 0 := fun k h0 h1 => if_pos ⟨h0, h1⟩
  refine ⟨⟨fun k h0 h1 => ?_, ⟨?_, by decide⟩, fun k h0 h1 => ?_⟩, ?_⟩
  · rw [e k h0 h1]
    split
    · exact h.1 k h0 (by omega)
    · unfold sg_lo sg_hi
      rw [if_neg (by omega), if_neg (by omega), if_neg (by omega), if_neg (by omega), if_neg (by omega), if_neg (by omega), if_neg (by omega), if_neg (by omega), if_neg (by omega)]
      refine ⟨by decide, ?_⟩
      split
      · split
        · decide
        · split
          · decide
          · split <;> decide
      · decide
  · rw [e 6 (by decide) (by decide), e 5 (by decide) (by decide), if_pos (by decide), if_pos (by decide), h.2 6 (by decide), h.2 5 (by decide)]; decide
  · rw [e k (by omega) (by omega), e 6 (by decide) (by decide), e 5 (by decide) (by decide), if_pos (by omega), if_pos (by decide), if_pos (by decide), h.2 k (by omega), h.2 6 (by decide), h.2 5 (by decide)]; decide
  · rw [e 8 (by decide) (by decide), if_pos (by decide), h.2 8 (by decide)]; omega
theorem sp_feed_b {tape : Int → Int} {taped a b c d e : Int} (h : ∀ k, 0 ≤ k → k < 400 → -128 ≤ tape k ∧ tape k ≤ 127) : ∀ k, 0 ≤ k → k < 400 → -128 ≤ sp_feed tape taped a b c d e k ∧ sp_feed tape taped a b c d e k ≤ 127 := by
  have step : ∀ (n : Nat) (f : Int → Int) (t v : Int), (∀ k, 0 ≤ k → k < 400 → -128 ≤ f k ∧ f k ≤ 127) → ∀ k, 0 ≤ k → k < 400 → -128 ≤ sp_put f t v n k ∧ sp_put f t v n k ≤ 127 := by
    intro n
    induction n with
    | zero => intro f t v hf; exact hf
    | succ n ih =>
      intro f t v hf k h0 h1
      show -128 ≤ ab_up (sp_put f t v n) (t + (n : Int)) (sp_byte v n) k ∧ ab_up (sp_put f t v n) (t + (n : Int)) (sp_byte v n) k ≤ 127
      unfold ab_up
      split
      · unfold sp_byte
        exact ⟨Int.le_bmod (by decide), by have := @Int.bmod_lt (v / 2 ^ (24 - 8 * n)) 256 (by decide); omega⟩
      · exact ih f t v hf k h0 h1
  unfold sp_feed
  exact step _ _ _ _ (step _ _ _ _ (step _ _ _ _ (step _ _ _ _ (step _ _ _ _ h))))
/-- what both are told of: the draws' seed, those of the IMAGES, which are made, the TAPE, its length, how many RULES; the row said, the ACTS' rows and how many, the IMAGES, the RULES' CLAUSES -/
abbrev fs_S : Type := Int × (Int → Int) × (Int → Int) × (Int → Int) × Int × Int × (Int → Int) × (Int → Int) × Int × (Int → Int) × (Int → List c_C)
def ru_er (f : Int → Int) (L : Int) : Int := match c_rall f L with
  | .error e => e
  | .ok _ => 0
def ru_ks (f : Int → Int) (L : Int) : List c_C := match c_rall f L with
  | .error _ => []
  | .ok (_, ks) => ks
def fa_house : fs_S → Int → Int → Int
  | ⟨x, ix, im, tape, taped, rules, said, was, undone, images, ru⟩, h0, ww => (sp_house said h0 ww)
def fa_direction : fs_S → Int → Int → Int
  | ⟨x, ix, im, tape, taped, rules, said, was, undone, images, ru⟩, dd, ww => (sp_direction said dd ww)
def fa_rateOf : fs_S → Int → Int
  | ⟨x, ix, im, tape, taped, rules, said, was, undone, images, ru⟩, h0 => (sp_rateOf said h0)
def fa_worn : fs_S → Int → Int
  | ⟨x, ix, im, tape, taped, rules, said, was, undone, images, ru⟩, h0 => (sp_worn said h0)
def fa_count : fs_S → Int → Int
  | ⟨x, ix, im, tape, taped, rules, said, was, undone, images, ru⟩, ww => (sp_count said rules undone x taped ww)
def fa_faces : fs_S → Int → Int → Int
  | ⟨x, ix, im, tape, taped, rules, said, was, undone, images, ru⟩, h0, nn => (if (0 ≤ h0 ∧ h0 < said 1) ∧ 0 ≤ nn ∧ nn ≤ 200 then sp_facesOf (sp_passN said nn.toNat) h0 else -1)
def fa_sees : fs_S → Int → Int → Int
  | ⟨x, ix, im, tape, taped, rules, said, was, undone, images, ru⟩, h0, nn => (if (0 ≤ h0 ∧ h0 < said 1) ∧ 0 ≤ nn ∧ nn ≤ 200 then (sp_sortsAt (sp_passN said nn.toNat) (sp_facesOf (sp_passN said nn.toNat) h0) (sp_passN said nn.toNat 5) : Nat) else -1)
def fa_day : fs_S → Int → Int
  | ⟨x, ix, im, tape, taped, rules, said, was, undone, images, ru⟩, h0 => (if 0 ≤ h0 ∧ h0 < said 1 then sp_dayIn said h0 (said (46 + h0)) else -100000)
def fa_stay : fs_S → Int → Int
  | ⟨x, ix, im, tape, taped, rules, said, was, undone, images, ru⟩, ww => (if said 0 = 1 ∧ 0 ≤ ww ∧ ww ≤ 1 then sp_stay said ww else -1)
def fa_swings : fs_S → Int → Int
  | ⟨x, ix, im, tape, taped, rules, said, was, undone, images, ru⟩, h0 => (if 0 ≤ h0 ∧ h0 < said 1 then sp_swc said h0 (sp_every said + 1) else -1)
def fa_plan : fs_S → Int → Int → Int → Int
  | ⟨x, ix, im, tape, taped, rules, said, was, undone, images, ru⟩, nn, fr, ww => (if ¬ said 1 = 0 ∧ (1 ≤ nn ∧ nn ≤ 5) ∧ 0 ≤ ww ∧ ww ≤ 5 then sp_plan said nn fr ww else -100000)
def fa_spare : fs_S → Int → Int → Int → Int
  | ⟨x, ix, im, tape, taped, rules, said, was, undone, images, ru⟩, nn, tt, ww => (if said 0 = 1 ∧ (1 ≤ nn ∧ nn ≤ 5) ∧ (0 ≤ tt ∧ tt ≤ 10) ∧ 0 ≤ ww ∧ ww ≤ 5 then sp_spare said nn tt ww else -1)
def fa_turned : fs_S → Int → Int
  | ⟨x, ix, im, tape, taped, rules, said, was, undone, images, ru⟩, ww => (if said 0 = 1 ∧ 0 ≤ ww ∧ ww ≤ 2 then sp_turned said ww else -2000)
def fa_look : fs_S → Int → Int → Int
  | ⟨x, ix, im, tape, taped, rules, said, was, undone, images, ru⟩, nn, ww => (if said 0 = 1 ∧ (0 ≤ nn ∧ nn ≤ 99) ∧ 0 ≤ ww ∧ ww ≤ 2 then sp_look said nn ww else -1)
def fa_days : fs_S → Int → Int → Int → Int → Int
  | ⟨x, ix, im, tape, taped, rules, said, was, undone, images, ru⟩, mm, nn, pp, ww => (if said 0 = 1 ∧ (1 ≤ mm ∧ mm ≤ 10) ∧ (1 ≤ nn ∧ nn ≤ 96) ∧ (0 ≤ pp ∧ pp ≤ 100) ∧ 0 ≤ ww ∧ ww ≤ 1 then sp_days said x mm nn pp ww else -10000000)
def fa_hour : fs_S → Int
  | ⟨x, ix, im, tape, taped, rules, said, was, undone, images, ru⟩ => (if said 0 = 1 ∧ 24 * said 6 + said 5 + 1 < 24000 then sp_pass said 4 else -1)
def fa_rate : fs_S → Int → Int → Int
  | ⟨x, ix, im, tape, taped, rules, said, was, undone, images, ru⟩, hh, rr => (if said 0 = 1 ∧ (0 ≤ hh ∧ hh ≤ 23) ∧ -3 ≤ rr ∧ rr ≤ 3 then said (10 + hh) else -1000)
def fa_swap : fs_S → Int → Int → Int
  | ⟨x, ix, im, tape, taped, rules, said, was, undone, images, ru⟩, a, b => (if (0 ≤ a ∧ a < said 1) ∧ (0 ≤ b ∧ b < said 1) ∧ ¬ a = b then 1 else 0)
def fa_stop : fs_S → Int
  | ⟨x, ix, im, tape, taped, rules, said, was, undone, images, ru⟩ => (if said 0 = 1 ∧ said 7 = 0 then 1 else 0)
def fa_undo : fs_S → Int
  | ⟨x, ix, im, tape, taped, rules, said, was, undone, images, ru⟩ => (if undone = 0 then -1 else undone - 1)
def fa_diary : fs_S → Int → Int → Int → Int → Int
  | ⟨x, ix, im, tape, taped, rules, said, was, undone, images, ru⟩, h0, nn, ss, z => (if h0 = -1 then 0 else if (0 ≤ h0 ∧ h0 < said 1) ∧ (0 ≤ nn ∧ nn ≤ 99) ∧ (0 ≤ ss ∧ ss ≤ 4) ∧ ¬ said 190 = 10 then said 190 + 1 else -2)
def fa_image : fs_S → Int → Int
  | ⟨x, ix, im, tape, taped, rules, said, was, undone, images, ru⟩, kk => (if 0 ≤ kk ∧ kk ≤ 3 then said 6 else -1)
def fa_back : fs_S → Int → Int
  | ⟨x, ix, im, tape, taped, rules, said, was, undone, images, ru⟩, kk => (if (0 ≤ kk ∧ kk ≤ 3) ∧ im kk = 1 then sp_img images kk 6 else -1)
def fs_hour : fs_S → fs_S
  | ⟨x, ix, im, tape, taped, rules, said, was, undone, images, ru⟩ => ⟨x, ix, im, tape, taped, rules, if said 0 = 1 ∧ 24 * said 6 + said 5 + 1 < 24000 then sp_pass said else said, if said 0 = 1 ∧ 24 * said 6 + said 5 + 1 < 24000 then sp_kw said was undone else was, if said 0 = 1 ∧ 24 * said 6 + said 5 + 1 < 24000 then sp_ku undone + 1 else undone, images, ru⟩
def fs_rate : fs_S → Int → Int → fs_S
  | ⟨x, ix, im, tape, taped, rules, said, was, undone, images, ru⟩, hh, rr => ⟨x, ix, im, tape, taped, rules, if said 0 = 1 ∧ (0 ≤ hh ∧ hh ≤ 23) ∧ -3 ≤ rr ∧ rr ≤ 3 then ab_up said (10 + hh) rr else said, if said 0 = 1 ∧ (0 ≤ hh ∧ hh ≤ 23) ∧ -3 ≤ rr ∧ rr ≤ 3 then sp_kw said was undone else was, if said 0 = 1 ∧ (0 ≤ hh ∧ hh ≤ 23) ∧ -3 ≤ rr ∧ rr ≤ 3 then sp_ku undone + 1 else undone, images, ru⟩
def fs_swap : fs_S → Int → Int → fs_S
  | ⟨x, ix, im, tape, taped, rules, said, was, undone, images, ru⟩, a, b => ⟨x, ix, im, tape, taped, rules, if (0 ≤ a ∧ a < said 1) ∧ (0 ≤ b ∧ b < said 1) ∧ ¬ a = b then ab_up (ab_up said (46 + a) (said (46 + b))) (46 + b) (said (46 + a)) else said, if (0 ≤ a ∧ a < said 1) ∧ (0 ≤ b ∧ b < said 1) ∧ ¬ a = b then sp_kw said was undone else was, if (0 ≤ a ∧ a < said 1) ∧ (0 ≤ b ∧ b < said 1) ∧ ¬ a = b then sp_ku undone + 1 else undone, images, ru⟩
def fs_stop : fs_S → fs_S
  | ⟨x, ix, im, tape, taped, rules, said, was, undone, images, ru⟩ => ⟨x, ix, im, tape, taped, rules, if said 0 = 1 ∧ said 7 = 0 then ab_up (ab_up said 7 1) 8 (said 8 + 1) else said, if said 0 = 1 ∧ said 7 = 0 then sp_kw said was undone else was, if said 0 = 1 ∧ said 7 = 0 then sp_ku undone + 1 else undone, images, ru⟩
def fs_undo : fs_S → fs_S
  | ⟨x, ix, im, tape, taped, rules, said, was, undone, images, ru⟩ => ⟨x, ix, im, tape, taped, rules, if undone = 0 then said else sp_cp (sp_snap was (undone - 1)) said 53, was, if undone = 0 then 0 else undone - 1, images, ru⟩
def fs_run : fs_S → Int → Int → fs_S
  | ⟨x, ix, im, tape, taped, rules, said, was, undone, images, ru⟩, y1, y2 => ⟨x, ix, im, tape, taped, rules, if said 0 = 1 ∧ (0 ≤ y1 ∧ y1 < rules) ∧ (1 ≤ y2 ∧ y2 ≤ 96) ∧ 24 * said 6 + said 5 + y2 < 24000 then sp_runN (ck_E (ru y1)) said y2.toNat else said, was, if said 0 = 1 ∧ (0 ≤ y1 ∧ y1 < rules) ∧ (1 ≤ y2 ∧ y2 ≤ 96) ∧ 24 * said 6 + said 5 + y2 < 24000 then 0 else undone, images, ru⟩
def fa_run : fs_S → Int → Int → Int
  | ⟨x, ix, im, tape, taped, rules, said, was, undone, images, ru⟩, y1, y2 => if said 0 = 1 ∧ (0 ≤ y1 ∧ y1 < rules) ∧ (1 ≤ y2 ∧ y2 ≤ 96) ∧ 24 * said 6 + said 5 + y2 < 24000 then sp_runN (ck_E (ru y1)) said y2.toNat 4 else -1
def fs_diary : fs_S → Int → Int → Int → Int → fs_S
  | ⟨x, ix, im, tape, taped, rules, said, was, undone, images, ru⟩, h0, nn, ss, z => ⟨x, ix, im, tape, taped, rules, if h0 = -1 then ab_up said 190 0 else if (0 ≤ h0 ∧ h0 < said 1) ∧ (0 ≤ nn ∧ nn ≤ 99) ∧ (0 ≤ ss ∧ ss ≤ 4) ∧ ¬ said 190 = 10 then sp_dia said h0 nn ss z else said, was, undone, images, ru⟩
def fs_image : fs_S → Int → fs_S
  | ⟨x, ix, im, tape, taped, rules, said, was, undone, images, ru⟩, kk => ⟨x, if 0 ≤ kk ∧ kk ≤ 3 then ab_up ix kk x else ix, if 0 ≤ kk ∧ kk ≤ 3 then ab_up im kk 1 else im, tape, taped, rules, said, was, undone, if 0 ≤ kk ∧ kk ≤ 3 then sp_im said images kk 191 else images, ru⟩
def fs_back : fs_S → Int → fs_S
  | ⟨x, ix, im, tape, taped, rules, said, was, undone, images, ru⟩, kk => ⟨if (0 ≤ kk ∧ kk ≤ 3) ∧ im kk = 1 then ix kk else x, ix, im, tape, taped, rules, if (0 ≤ kk ∧ kk ≤ 3) ∧ im kk = 1 then sp_cp (sp_img images kk) said 191 else said, was, if (0 ≤ kk ∧ kk ≤ 3) ∧ im kk = 1 then 0 else undone, images, ru⟩
def fs_feed : fs_S → Int → Int → Int → Int → Int → fs_S
  | ⟨x, ix, im, tape, taped, rules, said, was, undone, images, ru⟩, y1, y2, y3, y4, y5 => ⟨x, ix, im, if taped ≤ 380 then sp_feed tape taped y1 y2 y3 y4 y5 else tape, if taped ≤ 380 then taped + 4 + 4 + 4 + 4 + 4 else taped, rules, said, was, undone, images, ru⟩
def fa_feed : fs_S → Int
  | ⟨x, ix, im, tape, taped, rules, said, was, undone, images, ru⟩ => if taped ≤ 380 then taped + 4 + 4 + 4 + 4 + 4 else -1
def fs_end : fs_S → Int → fs_S
  | ⟨x, ix, im, tape, taped, rules, said, was, undone, images, ru⟩, y1 => ⟨x, ix, im, tape, if 0 ≤ y1 ∧ y1 ≤ taped then y1 else taped, rules, said, was, undone, images, ru⟩
def fa_end : fs_S → Int → Int
  | ⟨x, ix, im, tape, taped, rules, said, was, undone, images, ru⟩, y1 => if 0 ≤ y1 ∧ y1 ≤ taped then y1 else -1
def fs_seed : fs_S → Int → fs_S
  | ⟨x, ix, im, tape, taped, rules, said, was, undone, images, ru⟩, y1 => ⟨if y1 < 0 then x else y1, ix, im, tape, taped, rules, said, was, undone, images, ru⟩
def fa_seed : fs_S → Int → Int
  | ⟨x, ix, im, tape, taped, rules, said, was, undone, images, ru⟩, y1 => if y1 < 0 then -1 else x
def fa_ring : fs_S → (Int → Int) → Int
  | ⟨x, ix, im, tape, taped, rules, said, was, undone, images, ru⟩, rd0 => b_ans (rs_all tape taped (rs_ini rd0 46))
def ring_to : fs_S → Except Int (Int → Int) → fs_S
  | ⟨x, ix, im, tape, taped, rules, said, was, undone, images, ru⟩, .error _ => ⟨x, ix, im, tape, 0, rules, said, was, undone, images, ru⟩
  | ⟨x, ix, im, tape, taped, rules, said, was, undone, images, ru⟩, .ok rd => ⟨x, ix, im, tape, 0, rules, rs_said rd said 191, was, 0, images, ru⟩
def fs_ring : fs_S → (Int → Int) → fs_S
  | ⟨x, ix, im, tape, taped, rules, said, was, undone, images, ru⟩, rd0 => ring_to ⟨x, ix, im, tape, taped, rules, said, was, undone, images, ru⟩ (rs_all tape taped (rs_ini rd0 46))
def fs_rule : fs_S → fs_S
  | ⟨x, ix, im, tape, taped, rules, said, was, undone, images, ru⟩ => if 6 ≤ rules then ⟨x, ix, im, tape, taped, rules, said, was, undone, images, ru⟩ else if ru_er tape taped = 0 then ⟨x, ix, im, tape, 0, rules + 1, said, was, undone, images, ab_up ru rules (ru_ks tape taped)⟩ else ⟨x, ix, im, tape, 0, rules, said, was, undone, images, ru⟩
def fa_rule : fs_S → Int
  | ⟨x, ix, im, tape, taped, rules, said, was, undone, images, ru⟩ => if 6 ≤ rules then -1 else if ru_er tape taped = 0 then rules else -2 - ru_er tape taped
def mi_C (c x : Int) (ix mk : Int → Int) (tape : Int → Int) (taped rules : Int) (sign clause clauses read : Int → Int) (number : Int) (said was : Int → Int) (undone : Int) (slotAt dayAt : Int → Int) (tMany tMost : Int) (images : Int → Int) : Prop :=
  (tp_ok tape taped ∧ rd_ok read ∧ ab_in number) ∧ ((0 ≤ rules ∧ rules ≤ 6) ∧ ∀ r, 0 ≤ r → r < rules → Rv r (clauses r) 400 sign clause) ∧ sgc c said ∧ (0 ≤ x ∧ x ≤ 2147483647) ∧ ((0 ≤ undone ∧ undone ≤ 20) ∧ snw c undone was) ∧ (td_s slotAt ∧ td_d dayAt ∧ ab_in tMany ∧ ab_in tMost) ∧ (∀ j, 0 ≤ j → j ≤ 3 → mk j = 0 ∨ mk j = 1) ∧ (∀ j, 0 ≤ j → j ≤ 3 → mk j = 1 → sgc c (sp_img images j)) ∧ ∀ j, 0 ≤ j → j ≤ 3 → 0 ≤ ix j ∧ ix j ≤ 2147483647
def my_I (c : Int) : fs_S → ab_W → Prop
  | ⟨x, ix, im, tape, taped, rules, said, was, undone, images, ru⟩, wm => ∃ (sign : Int → Int) (leng : Int → Int) (clause : Int → Int) (clauses : Int → Int) (read : Int → Int) (next : Int) (wrong : Int) (number : Int) (text : Int) (made : Int) (deep : Int) (lines : Int) (opn : Int → Int) (opened : Int) (stack : Int → Int64) (top : Int) (word : Int → Int64) (kept : Int → Int) (sumOf : Int → Int) (faced : Int → Int) (slotAt : Int → Int) (dayAt : Int → Int) (row : Int → Int) (bestRow : Int → Int) (tMany : Int) (tMost : Int) (drawX : Int64), wm = mo_W tape taped rules sign leng clause clauses read next wrong number text made deep lines opn opened stack top word said x was undone kept sumOf faced slotAt dayAt row bestRow tMany tMost drawX images ix im ∧ mi_C c x ix im tape taped rules sign clause clauses read number said was undone slotAt dayAt tMany tMost images ∧ ∀ r, 0 ≤ r → r < rules → (∀ k ∈ ru r, gc k) ∧ ∀ g, sp_E sign clause r (clauses r) g = ck_E (ru r) g
abbrev my_Q (c : Int) (S : fs_S) : Option ab_V → ab_W → Prop := fun r w2 => (∃ v, r = some (ab_I v)) ∧ my_I (c + 1) S w2
abbrev my_A (c : Int) (A : Int) (S : fs_S) : Option ab_V → ab_W → Prop := fun r w2 => r = some (ab_I A) ∧ my_I (c + 1) S w2
theorem rb_fr {word : Int → Int64} {t u : Int} {sg sg2 cl cl2 : Int → Int} (hu : t ≠ u) (hs : sg_fr u sg sg2) (hc : cl_fr u cl cl2) : ∀ (n : Nat) (c : Int), 0 ≤ c → c + n ≤ 12 → (∀ j, c ≤ j → j < c + n → (0 ≤ cl (48 * t + 4 * j) ∧ cl (48 * t + 4 * j + 1) ≤ 400) ∧ (cl (48 * t + 4 * j + 2) = -1 ∨ (0 ≤ cl (48 * t + 4 * j + 2) ∧ cl (48 * t + 4 * j + 3) ≤ 400))) → sp_rb word sg2 cl2 t n c = sp_rb word sg cl t n c
  | 0, _, _, _, _ => rfl
  | n + 1, c, h0, h1, h => by
    have ih := rb_fr (word := word) hu hs hc n (c + 1) (by omega) (by omega) (fun j a b => h j (by omega) (by omega))
    obtain ⟨q1, q2⟩ := h c (by omega) (by omega)
    have ev : ∀ b e : Int, 0 ≤ b → e ≤ 400 → sp_ev word (fun j => sg2 (400 * t + j)) b e = sp_ev word (fun j => sg (400 * t + j)) b e := by
      intro b e hb he
      have hk : ∀ (m : Nat) (i : Int) (S : List Int64), 0 ≤ i → i + m ≤ 400 → sp_rk word (fun j => sg2 (400 * t + j)) m i S = sp_rk word (fun j => sg (400 * t + j)) m i S := by
        intro m
        induction m with
        | zero => intro i S _ _; rfl
        | succ m ihm =>
          intro i S hi hm
          rw [sp_rk, sp_rk]
          have e1 : sg2 (400 * t + i) = sg (400 * t + i) := hs _ (by omega)
          show (match sp_op word (sg2 (400 * t + i)) S with | some st' => _ | none => _) = (match sp_op word (sg (400 * t + i)) S with | some st' => _ | none => _)
          rw [e1]
          rcases sp_op word (sg (400 * t + i)) S with _ | S1
          · rfl
          · dsimp only
            rw [ihm (i + 1) S1 (by omega) (by omega)]
      unfold sp_ev
      by_cases hle : b ≤ e
      · rw [hk (e - b).toNat b [] hb (by omega)]
      · rw [show (e - b).toNat = 0 by omega]
        rfl
    rw [sp_rb, sp_rb, hc (48 * t + 4 * c) (by omega), hc (48 * t + 4 * c + 1) (by omega), hc (48 * t + 4 * c + 2) (by omega), hc (48 * t + 4 * c + 3) (by omega), ih, ev _ _ q1.1 q1.2]
    rcases q2 with q2 | q2
    · rw [if_pos (by omega), if_pos (by omega)]
    · rw [ev _ _ q2.1 q2.2]
theorem E_fr {t u m : Int} {sg sg2 cl cl2 : Int → Int} (h : Rv t m 400 sg cl) (hu : t ≠ u) (hs : sg_fr u sg sg2) (hc : cl_fr u cl cl2) (g : Int → Int) : sp_E sg2 cl2 t m g = sp_E sg cl t m g := by
  obtain ⟨g0, g1, g2⟩ := h
  unfold sp_E
  rw [rb_fr hu hs hc m.toNat 0 (by omega) (by omega) (fun j a b => ?_)]
  obtain ⟨a1, a2, -⟩ := g2 j a (by omega)
  exact ⟨⟨a1.1, a1.2.2⟩, a2.elim Or.inl (fun q => Or.inr ⟨q.1, q.2.2⟩)⟩
set_option maxRecDepth 4000 in
theorem my_house {c : Int} {S : fs_S} {wm : ab_W} (hc : 0 ≤ c) (hcm : c ≤ 1000) (h : my_I c S wm) (y1 : Int) (hy1 : ab_in y1) (y2 : Int) (hy2 : ab_in y2) : ab_Mt g_G g_rs mt_Mo_house 4 0 0 [ab_R 0, ab_I y1, ab_I y2] wm (my_A c (fa_house S y1 y2) S) := by
  obtain ⟨x, ix, mk, tape, taped, rules, said, was, undone, images, ru⟩ := S
  obtain ⟨sign, leng, clause, clauses, read, next, wrong, number, hzz⟩ := h
  obtain ⟨text, made, deep, lines, opn, opened, stack, top, hzz⟩ := hzz
  obtain ⟨word, kept, sumOf, faced, slotAt, dayAt, row, bestRow, hzz⟩ := hzz
  obtain ⟨tMany, tMost, drawX, rfl, ⟨m1, m2, m3, m4, m5, m6, m7, m8, m9⟩, m10⟩ := hzz
  refine (co_Mo_house m3.1 y1 y2 hy1 hy2).conseq (fun r w2 h => ?_)
  obtain ⟨rfl, rfl⟩ := h
  exact ⟨rfl, ⟨_, _, _, _, _, _, _, _, _, _, _, _, _, _, _, _, _, _, _, _, _, _, _, _, _, _, _, rfl, ⟨m1, m2, m3.mono, m4, ⟨m5.1, m5.2.mono⟩, m6, m7, (fun j h0 h1 h2 => (m8 j h0 h1 h2).mono), m9⟩, m10⟩⟩
set_option maxRecDepth 4000 in
theorem my_direction {c : Int} {S : fs_S} {wm : ab_W} (hc : 0 ≤ c) (hcm : c ≤ 1000) (h : my_I c S wm) (y1 : Int) (hy1 : ab_in y1) (y2 : Int) (hy2 : ab_in y2) : ab_Mt g_G g_rs mt_Mo_direction 2 0 0 [ab_R 0, ab_I y1, ab_I y2] wm (my_A c (fa_direction S y1 y2) S) := by
  obtain ⟨x, ix, mk, tape, taped, rules, said, was, undone, images, ru⟩ := S
  obtain ⟨sign, leng, clause, clauses, read, next, wrong, number, hzz⟩ := h
  obtain ⟨text, made, deep, lines, opn, opened, stack, top, hzz⟩ := hzz
  obtain ⟨word, kept, sumOf, faced, slotAt, dayAt, row, bestRow, hzz⟩ := hzz
  obtain ⟨tMany, tMost, drawX, rfl, ⟨m1, m2, m3, m4, m5, m6, m7, m8, m9⟩, m10⟩ := hzz
  refine (co_Mo_direction m3.1 y1 y2 hy1 hy2).conseq (fun r w2 h => ?_)
  obtain ⟨rfl, rfl⟩ := h
  exact ⟨rfl, ⟨_, _, _, _, _, _, _, _, _, _, _, _, _, _, _, _, _, _, _, _, _, _, _, _, _, _, _, rfl, ⟨m1, m2, m3.mono, m4, ⟨m5.1, m5.2.mono⟩, m6, m7, (fun j h0 h1 h2 => (m8 j h0 h1 h2).mono), m9⟩, m10⟩⟩
set_option maxRecDepth 4000 in
theorem my_rateOf {c : Int} {S : fs_S} {wm : ab_W} (hc : 0 ≤ c) (hcm : c ≤ 1000) (h : my_I c S wm) (y1 : Int) (hy1 : ab_in y1) : ab_Mt g_G g_rs mt_Mo_rateOf 1 0 0 [ab_R 0, ab_I y1] wm (my_A c (fa_rateOf S y1) S) := by
  obtain ⟨x, ix, mk, tape, taped, rules, said, was, undone, images, ru⟩ := S
  obtain ⟨sign, leng, clause, clauses, read, next, wrong, number, hzz⟩ := h
  obtain ⟨text, made, deep, lines, opn, opened, stack, top, hzz⟩ := hzz
  obtain ⟨word, kept, sumOf, faced, slotAt, dayAt, row, bestRow, hzz⟩ := hzz
  obtain ⟨tMany, tMost, drawX, rfl, ⟨m1, m2, m3, m4, m5, m6, m7, m8, m9⟩, m10⟩ := hzz
  refine (co_Mo_rateOf m3.1 y1 hy1).conseq (fun r w2 h => ?_)
  obtain ⟨rfl, rfl⟩ := h
  exact ⟨rfl, ⟨_, _, _, _, _, _, _, _, _, _, _, _, _, _, _, _, _, _, _, _, _, _, _, _, _, _, _, rfl, ⟨m1, m2, m3.mono, m4, ⟨m5.1, m5.2.mono⟩, m6, m7, (fun j h0 h1 h2 => (m8 j h0 h1 h2).mono), m9⟩, m10⟩⟩
set_option maxRecDepth 4000 in
theorem my_worn {c : Int} {S : fs_S} {wm : ab_W} (hc : 0 ≤ c) (hcm : c ≤ 1000) (h : my_I c S wm) (y1 : Int) (hy1 : ab_in y1) : ab_Mt g_G g_rs mt_Mo_worn 1 0 0 [ab_R 0, ab_I y1] wm (my_A c (fa_worn S y1) S) := by
  obtain ⟨x, ix, mk, tape, taped, rules, said, was, undone, images, ru⟩ := S
  obtain ⟨sign, leng, clause, clauses, read, next, wrong, number, hzz⟩ := h
  obtain ⟨text, made, deep, lines, opn, opened, stack, top, hzz⟩ := hzz
  obtain ⟨word, kept, sumOf, faced, slotAt, dayAt, row, bestRow, hzz⟩ := hzz
  obtain ⟨tMany, tMost, drawX, rfl, ⟨m1, m2, m3, m4, m5, m6, m7, m8, m9⟩, m10⟩ := hzz
  refine (co_Mo_worn m3.1 y1 hy1).conseq (fun r w2 h => ?_)
  obtain ⟨rfl, rfl⟩ := h
  exact ⟨rfl, ⟨_, _, _, _, _, _, _, _, _, _, _, _, _, _, _, _, _, _, _, _, _, _, _, _, _, _, _, rfl, ⟨m1, m2, m3.mono, m4, ⟨m5.1, m5.2.mono⟩, m6, m7, (fun j h0 h1 h2 => (m8 j h0 h1 h2).mono), m9⟩, m10⟩⟩
set_option maxRecDepth 4000 in
theorem my_count {c : Int} {S : fs_S} {wm : ab_W} (hc : 0 ≤ c) (hcm : c ≤ 1000) (h : my_I c S wm) (y1 : Int) (hy1 : ab_in y1) : ab_Mt g_G g_rs mt_Mo_count 4 0 0 [ab_R 0, ab_I y1] wm (my_A c (fa_count S y1) S) := by
  obtain ⟨x, ix, mk, tape, taped, rules, said, was, undone, images, ru⟩ := S
  obtain ⟨sign, leng, clause, clauses, read, next, wrong, number, hzz⟩ := h
  obtain ⟨text, made, deep, lines, opn, opened, stack, top, hzz⟩ := hzz
  obtain ⟨word, kept, sumOf, faced, slotAt, dayAt, row, bestRow, hzz⟩ := hzz
  obtain ⟨tMany, tMost, drawX, rfl, ⟨m1, m2, m3, m4, m5, m6, m7, m8, m9⟩, m10⟩ := hzz
  refine (co_Mo_count m3.1 y1 hy1).conseq (fun r w2 h => ?_)
  obtain ⟨rfl, rfl⟩ := h
  exact ⟨rfl, ⟨_, _, _, _, _, _, _, _, _, _, _, _, _, _, _, _, _, _, _, _, _, _, _, _, _, _, _, rfl, ⟨m1, m2, m3.mono, m4, ⟨m5.1, m5.2.mono⟩, m6, m7, (fun j h0 h1 h2 => (m8 j h0 h1 h2).mono), m9⟩, m10⟩⟩
set_option maxRecDepth 4000 in
theorem my_faces {c : Int} {S : fs_S} {wm : ab_W} (hc : 0 ≤ c) (hcm : c ≤ 1000) (h : my_I c S wm) (y1 : Int) (hy1 : ab_in y1) (y2 : Int) (hy2 : ab_in y2) : ab_Mt g_G g_rs mt_Mo_faces 4 0 0 [ab_R 0, ab_I y1, ab_I y2] wm (my_A c (fa_faces S y1 y2) S) := by
  obtain ⟨x, ix, mk, tape, taped, rules, said, was, undone, images, ru⟩ := S
  obtain ⟨sign, leng, clause, clauses, read, next, wrong, number, hzz⟩ := h
  obtain ⟨text, made, deep, lines, opn, opened, stack, top, hzz⟩ := hzz
  obtain ⟨word, kept, sumOf, faced, slotAt, dayAt, row, bestRow, hzz⟩ := hzz
  obtain ⟨tMany, tMost, drawX, rfl, ⟨m1, m2, m3, m4, m5, m6, m7, m8, m9⟩, m10⟩ := hzz
  refine (co_Mo_faces m3.1 (by decide) y1 y2 hy1 hy2).conseq (fun r w2 h => ?_)
  obtain ⟨rfl, rfl⟩ := h
  exact ⟨rfl, ⟨_, _, _, _, _, _, _, _, _, _, _, _, _, _, _, _, _, _, _, _, _, _, _, _, _, _, _, rfl, ⟨m1, m2, m3.mono, m4, ⟨m5.1, m5.2.mono⟩, m6, m7, (fun j h0 h1 h2 => (m8 j h0 h1 h2).mono), m9⟩, m10⟩⟩
set_option maxRecDepth 4000 in
theorem my_sees {c : Int} {S : fs_S} {wm : ab_W} (hc : 0 ≤ c) (hcm : c ≤ 1000) (h : my_I c S wm) (y1 : Int) (hy1 : ab_in y1) (y2 : Int) (hy2 : ab_in y2) : ab_Mt g_G g_rs mt_Mo_sees 4 0 0 [ab_R 0, ab_I y1, ab_I y2] wm (my_A c (fa_sees S y1 y2) S) := by
  obtain ⟨x, ix, mk, tape, taped, rules, said, was, undone, images, ru⟩ := S
  obtain ⟨sign, leng, clause, clauses, read, next, wrong, number, hzz⟩ := h
  obtain ⟨text, made, deep, lines, opn, opened, stack, top, hzz⟩ := hzz
  obtain ⟨word, kept, sumOf, faced, slotAt, dayAt, row, bestRow, hzz⟩ := hzz
  obtain ⟨tMany, tMost, drawX, rfl, ⟨m1, m2, m3, m4, m5, m6, m7, m8, m9⟩, m10⟩ := hzz
  refine (co_Mo_sees m3.1 (by decide) y1 y2 hy1 hy2).conseq (fun r w2 h => ?_)
  obtain ⟨rfl, rfl⟩ := h
  exact ⟨rfl, ⟨_, _, _, _, _, _, _, _, _, _, _, _, _, _, _, _, _, _, _, _, _, _, _, _, _, _, _, rfl, ⟨m1, m2, m3.mono, m4, ⟨m5.1, m5.2.mono⟩, m6, m7, (fun j h0 h1 h2 => (m8 j h0 h1 h2).mono), m9⟩, m10⟩⟩
set_option maxRecDepth 4000 in
theorem my_day {c : Int} {S : fs_S} {wm : ab_W} (hc : 0 ≤ c) (hcm : c ≤ 1000) (h : my_I c S wm) (y1 : Int) (hy1 : ab_in y1) : ab_Mt g_G g_rs mt_Mo_day 5 0 0 [ab_R 0, ab_I y1] wm (my_A c (fa_day S y1) S) := by
  obtain ⟨x, ix, mk, tape, taped, rules, said, was, undone, images, ru⟩ := S
  obtain ⟨sign, leng, clause, clauses, read, next, wrong, number, hzz⟩ := h
  obtain ⟨text, made, deep, lines, opn, opened, stack, top, hzz⟩ := hzz
  obtain ⟨word, kept, sumOf, faced, slotAt, dayAt, row, bestRow, hzz⟩ := hzz
  obtain ⟨tMany, tMost, drawX, rfl, ⟨m1, m2, m3, m4, m5, m6, m7, m8, m9⟩, m10⟩ := hzz
  refine (co_Mo_day m3.1 (by decide) y1 hy1).conseq (fun r w2 h => ?_)
  obtain ⟨rfl, rfl⟩ := h
  exact ⟨rfl, ⟨_, _, _, _, _, _, _, _, _, _, _, _, _, _, _, _, _, _, _, _, _, _, _, _, _, _, _, rfl, ⟨m1, m2, m3.mono, m4, ⟨m5.1, m5.2.mono⟩, m6, m7, (fun j h0 h1 h2 => (m8 j h0 h1 h2).mono), m9⟩, m10⟩⟩
set_option maxRecDepth 4000 in
theorem my_errand {c : Int} {S : fs_S} {wm : ab_W} (hc : 0 ≤ c) (hcm : c ≤ 1000) (h : my_I c S wm) (y1 : Int) (hy1 : ab_in y1) (y2 : Int) (hy2 : ab_in y2) (y3 : Int) (hy3 : ab_in y3) (y4 : Int) (hy4 : ab_in y4) : ab_Mt g_G g_rs mt_Mo_errand 4 0 0 [ab_R 0, ab_I y1, ab_I y2, ab_I y3, ab_I y4] wm (my_Q c S) := by
  obtain ⟨x, ix, mk, tape, taped, rules, said, was, undone, images, ru⟩ := S
  obtain ⟨sign, leng, clause, clauses, read, next, wrong, number, hzz⟩ := h
  obtain ⟨text, made, deep, lines, opn, opened, stack, top, hzz⟩ := hzz
  obtain ⟨word, kept, sumOf, faced, slotAt, dayAt, row, bestRow, hzz⟩ := hzz
  obtain ⟨tMany, tMost, drawX, rfl, ⟨m1, m2, m3, m4, m5, m6, m7, m8, m9⟩, m10⟩ := hzz
  refine (co_Mo_errand m3.1 (by decide) y1 y2 y3 y4 hy1 hy2 hy3 hy4).conseq (fun r w2 h => ?_)
  obtain ⟨rfl, rfl⟩ := h
  exact ⟨⟨_, rfl⟩, ⟨_, _, _, _, _, _, _, _, _, _, _, _, _, _, _, _, _, _, _, _, _, _, _, _, _, _, _, rfl, ⟨m1, m2, m3.mono, m4, ⟨m5.1, m5.2.mono⟩, m6, m7, (fun j h0 h1 h2 => (m8 j h0 h1 h2).mono), m9⟩, m10⟩⟩
set_option maxRecDepth 4000 in
theorem my_stay {c : Int} {S : fs_S} {wm : ab_W} (hc : 0 ≤ c) (hcm : c ≤ 1000) (h : my_I c S wm) (y1 : Int) (hy1 : ab_in y1) : ab_Mt g_G g_rs mt_Mo_stay 5 0 0 [ab_R 0, ab_I y1] wm (my_A c (fa_stay S y1) S) := by
  obtain ⟨x, ix, mk, tape, taped, rules, said, was, undone, images, ru⟩ := S
  obtain ⟨sign, leng, clause, clauses, read, next, wrong, number, hzz⟩ := h
  obtain ⟨text, made, deep, lines, opn, opened, stack, top, hzz⟩ := hzz
  obtain ⟨word, kept, sumOf, faced, slotAt, dayAt, row, bestRow, hzz⟩ := hzz
  obtain ⟨tMany, tMost, drawX, rfl, ⟨m1, m2, m3, m4, m5, m6, m7, m8, m9⟩, m10⟩ := hzz
  refine (co_Mo_stay m3.1 y1 hy1).conseq (fun r w2 h => ?_)
  obtain ⟨rfl, rfl⟩ := h
  exact ⟨rfl, ⟨_, _, _, _, _, _, _, _, _, _, _, _, _, _, _, _, _, _, _, _, _, _, _, _, _, _, _, rfl, ⟨m1, m2, m3.mono, m4, ⟨m5.1, m5.2.mono⟩, m6, m7, (fun j h0 h1 h2 => (m8 j h0 h1 h2).mono), m9⟩, m10⟩⟩
set_option maxRecDepth 4000 in
theorem my_swings {c : Int} {S : fs_S} {wm : ab_W} (hc : 0 ≤ c) (hcm : c ≤ 1000) (h : my_I c S wm) (y1 : Int) (hy1 : ab_in y1) : ab_Mt g_G g_rs mt_Mo_swings 2 0 0 [ab_R 0, ab_I y1] wm (my_A c (fa_swings S y1) S) := by
  obtain ⟨x, ix, mk, tape, taped, rules, said, was, undone, images, ru⟩ := S
  obtain ⟨sign, leng, clause, clauses, read, next, wrong, number, hzz⟩ := h
  obtain ⟨text, made, deep, lines, opn, opened, stack, top, hzz⟩ := hzz
  obtain ⟨word, kept, sumOf, faced, slotAt, dayAt, row, bestRow, hzz⟩ := hzz
  obtain ⟨tMany, tMost, drawX, rfl, ⟨m1, m2, m3, m4, m5, m6, m7, m8, m9⟩, m10⟩ := hzz
  refine (co_Mo_swings m3.1 y1 hy1).conseq (fun r w2 h => ?_)
  obtain ⟨rfl, rfl⟩ := h
  exact ⟨rfl, ⟨_, _, _, _, _, _, _, _, _, _, _, _, _, _, _, _, _, _, _, _, _, _, _, _, _, _, _, rfl, ⟨m1, m2, m3.mono, m4, ⟨m5.1, m5.2.mono⟩, m6, m7, (fun j h0 h1 h2 => (m8 j h0 h1 h2).mono), m9⟩, m10⟩⟩
set_option maxRecDepth 4000 in
theorem my_plan {c : Int} {S : fs_S} {wm : ab_W} (hc : 0 ≤ c) (hcm : c ≤ 1000) (h : my_I c S wm) (y1 : Int) (hy1 : ab_in y1) (y2 : Int) (hy2 : ab_in y2) (y3 : Int) (hy3 : ab_in y3) : ab_Mt g_G g_rs mt_Mo_plan 5 0 0 [ab_R 0, ab_I y1, ab_I y2, ab_I y3] wm (my_A c (fa_plan S y1 y2 y3) S) := by
  obtain ⟨x, ix, mk, tape, taped, rules, said, was, undone, images, ru⟩ := S
  obtain ⟨sign, leng, clause, clauses, read, next, wrong, number, hzz⟩ := h
  obtain ⟨text, made, deep, lines, opn, opened, stack, top, hzz⟩ := hzz
  obtain ⟨word, kept, sumOf, faced, slotAt, dayAt, row, bestRow, hzz⟩ := hzz
  obtain ⟨tMany, tMost, drawX, rfl, ⟨m1, m2, m3, m4, m5, m6, m7, m8, m9⟩, m10⟩ := hzz
  refine (co_Mo_plan m3.1 (by decide) y1 y2 y3 hy1 hy2 hy3).conseq (fun r w2 h => ?_)
  obtain ⟨rfl, K, S, rfl⟩ := h
  exact ⟨rfl, ⟨_, _, _, _, _, _, _, _, _, _, _, _, _, _, _, _, _, _, _, _, _, _, _, _, _, _, _, rfl, ⟨m1, m2, m3.mono, m4, ⟨m5.1, m5.2.mono⟩, m6, m7, (fun j h0 h1 h2 => (m8 j h0 h1 h2).mono), m9⟩, m10⟩⟩
set_option maxRecDepth 4000 in
theorem my_spare {c : Int} {S : fs_S} {wm : ab_W} (hc : 0 ≤ c) (hcm : c ≤ 1000) (h : my_I c S wm) (y1 : Int) (hy1 : ab_in y1) (y2 : Int) (hy2 : ab_in y2) (y3 : Int) (hy3 : ab_in y3) : ab_Mt g_G g_rs mt_Mo_spare 4 0 0 [ab_R 0, ab_I y1, ab_I y2, ab_I y3] wm (my_A c (fa_spare S y1 y2 y3) S) := by
  obtain ⟨x, ix, mk, tape, taped, rules, said, was, undone, images, ru⟩ := S
  obtain ⟨sign, leng, clause, clauses, read, next, wrong, number, hzz⟩ := h
  obtain ⟨text, made, deep, lines, opn, opened, stack, top, hzz⟩ := hzz
  obtain ⟨word, kept, sumOf, faced, slotAt, dayAt, row, bestRow, hzz⟩ := hzz
  obtain ⟨tMany, tMost, drawX, rfl, ⟨m1, m2, m3, m4, m5, m6, m7, m8, m9⟩, m10⟩ := hzz
  refine (co_Mo_spare m3.1 (by decide) y1 y2 y3 hy1 hy2 hy3).conseq (fun r w2 h => ?_)
  obtain ⟨rfl, K, rfl⟩ := h
  exact ⟨rfl, ⟨_, _, _, _, _, _, _, _, _, _, _, _, _, _, _, _, _, _, _, _, _, _, _, _, _, _, _, rfl, ⟨m1, m2, m3.mono, m4, ⟨m5.1, m5.2.mono⟩, m6, m7, (fun j h0 h1 h2 => (m8 j h0 h1 h2).mono), m9⟩, m10⟩⟩
set_option maxRecDepth 4000 in
theorem my_trade {c : Int} {S : fs_S} {wm : ab_W} (hc : 0 ≤ c) (hcm : c ≤ 1000) (h : my_I c S wm) (y1 : Int) (hy1 : ab_in y1) : ab_Mt g_G g_rs mt_Mo_trade 6 0 0 [ab_R 0, ab_I y1] wm (my_Q c S) := by
  obtain ⟨x, ix, mk, tape, taped, rules, said, was, undone, images, ru⟩ := S
  obtain ⟨sign, leng, clause, clauses, read, next, wrong, number, hzz⟩ := h
  obtain ⟨text, made, deep, lines, opn, opened, stack, top, hzz⟩ := hzz
  obtain ⟨word, kept, sumOf, faced, slotAt, dayAt, row, bestRow, hzz⟩ := hzz
  obtain ⟨tMany, tMost, drawX, rfl, ⟨m1, m2, m3, m4, m5, m6, m7, m8, m9⟩, m10⟩ := hzz
  refine (co_Mo_trade m3.1 (by decide) m6.2.1 m6.1 m6.2.2.1 m6.2.2.2 y1 hy1).conseq (fun r w2 h => ?_)
  obtain ⟨⟨v, rfl⟩, sl, dy, kp, rw_, br, tm, to_, k1, k2, k3, k4, rfl⟩ := h
  exact ⟨⟨_, rfl⟩, ⟨_, _, _, _, _, _, _, _, _, _, _, _, _, _, _, _, _, _, _, _, _, _, _, _, _, _, _, rfl, ⟨m1, m2, m3.mono, m4, ⟨m5.1, m5.2.mono⟩, ⟨k1, k2, k3, k4⟩, m7, (fun j h0 h1 h2 => (m8 j h0 h1 h2).mono), m9⟩, m10⟩⟩
set_option maxRecDepth 4000 in
theorem my_apart {c : Int} {S : fs_S} {wm : ab_W} (hc : 0 ≤ c) (hcm : c ≤ 1000) (h : my_I c S wm) (y1 : Int) (hy1 : ab_in y1) (y2 : Int) (hy2 : ab_in y2) (y3 : Int) (hy3 : ab_in y3) (y4 : Int) (hy4 : ab_in y4) (y5 : Int) (hy5 : ab_in y5) : ab_Mt g_G g_rs mt_Mo_apart 8 0 0 [ab_R 0, ab_I y1, ab_I y2, ab_I y3, ab_I y4, ab_I y5] wm (my_Q c S) := by
  obtain ⟨x, ix, mk, tape, taped, rules, said, was, undone, images, ru⟩ := S
  obtain ⟨sign, leng, clause, clauses, read, next, wrong, number, hzz⟩ := h
  obtain ⟨text, made, deep, lines, opn, opened, stack, top, hzz⟩ := hzz
  obtain ⟨word, kept, sumOf, faced, slotAt, dayAt, row, bestRow, hzz⟩ := hzz
  obtain ⟨tMany, tMost, drawX, rfl, ⟨m1, m2, m3, m4, m5, m6, m7, m8, m9⟩, m10⟩ := hzz
  refine (co_Mo_apart m3.1 (by decide) m2.1 (fun r h0 h1 => Rv_rok (m2.2 r h0 h1)) y1 y2 y3 y4 y5 hy1 hy2 hy3 hy4 hy5).conseq (fun r w2 h => ?_)
  obtain ⟨rfl, K, W, S, T, rfl⟩ := h
  exact ⟨⟨_, rfl⟩, ⟨_, _, _, _, _, _, _, _, _, _, _, _, _, _, _, _, _, _, _, _, _, _, _, _, _, _, _, rfl, ⟨m1, m2, m3.mono, m4, ⟨m5.1, m5.2.mono⟩, m6, m7, (fun j h0 h1 h2 => (m8 j h0 h1 h2).mono), m9⟩, m10⟩⟩
set_option maxRecDepth 4000 in
theorem my_turned {c : Int} {S : fs_S} {wm : ab_W} (hc : 0 ≤ c) (hcm : c ≤ 1000) (h : my_I c S wm) (y1 : Int) (hy1 : ab_in y1) : ab_Mt g_G g_rs mt_Mo_turned 3 0 0 [ab_R 0, ab_I y1] wm (my_A c (fa_turned S y1) S) := by
  obtain ⟨x, ix, mk, tape, taped, rules, said, was, undone, images, ru⟩ := S
  obtain ⟨sign, leng, clause, clauses, read, next, wrong, number, hzz⟩ := h
  obtain ⟨text, made, deep, lines, opn, opened, stack, top, hzz⟩ := hzz
  obtain ⟨word, kept, sumOf, faced, slotAt, dayAt, row, bestRow, hzz⟩ := hzz
  obtain ⟨tMany, tMost, drawX, rfl, ⟨m1, m2, m3, m4, m5, m6, m7, m8, m9⟩, m10⟩ := hzz
  refine (co_Mo_turned m3.1 y1 hy1).conseq (fun r w2 h => ?_)
  obtain ⟨rfl, rfl⟩ := h
  exact ⟨rfl, ⟨_, _, _, _, _, _, _, _, _, _, _, _, _, _, _, _, _, _, _, _, _, _, _, _, _, _, _, rfl, ⟨m1, m2, m3.mono, m4, ⟨m5.1, m5.2.mono⟩, m6, m7, (fun j h0 h1 h2 => (m8 j h0 h1 h2).mono), m9⟩, m10⟩⟩
set_option maxRecDepth 4000 in
theorem my_look {c : Int} {S : fs_S} {wm : ab_W} (hc : 0 ≤ c) (hcm : c ≤ 1000) (h : my_I c S wm) (y1 : Int) (hy1 : ab_in y1) (y2 : Int) (hy2 : ab_in y2) : ab_Mt g_G g_rs mt_Mo_look 3 0 0 [ab_R 0, ab_I y1, ab_I y2] wm (my_A c (fa_look S y1 y2) S) := by
  obtain ⟨x, ix, mk, tape, taped, rules, said, was, undone, images, ru⟩ := S
  obtain ⟨sign, leng, clause, clauses, read, next, wrong, number, hzz⟩ := h
  obtain ⟨text, made, deep, lines, opn, opened, stack, top, hzz⟩ := hzz
  obtain ⟨word, kept, sumOf, faced, slotAt, dayAt, row, bestRow, hzz⟩ := hzz
  obtain ⟨tMany, tMost, drawX, rfl, ⟨m1, m2, m3, m4, m5, m6, m7, m8, m9⟩, m10⟩ := hzz
  refine (co_Mo_look m3.1 y1 y2 hy1 hy2).conseq (fun r w2 h => ?_)
  obtain ⟨rfl, rfl⟩ := h
  exact ⟨rfl, ⟨_, _, _, _, _, _, _, _, _, _, _, _, _, _, _, _, _, _, _, _, _, _, _, _, _, _, _, rfl, ⟨m1, m2, m3.mono, m4, ⟨m5.1, m5.2.mono⟩, m6, m7, (fun j h0 h1 h2 => (m8 j h0 h1 h2).mono), m9⟩, m10⟩⟩
set_option maxRecDepth 4000 in
theorem my_days {c : Int} {S : fs_S} {wm : ab_W} (hc : 0 ≤ c) (hcm : c ≤ 1000) (h : my_I c S wm) (y1 : Int) (hy1 : ab_in y1) (y2 : Int) (hy2 : ab_in y2) (y3 : Int) (hy3 : ab_in y3) (y4 : Int) (hy4 : ab_in y4) : ab_Mt g_G g_rs mt_Mo_days 4 0 0 [ab_R 0, ab_I y1, ab_I y2, ab_I y3, ab_I y4] wm (my_A c (fa_days S y1 y2 y3 y4) S) := by
  obtain ⟨x, ix, mk, tape, taped, rules, said, was, undone, images, ru⟩ := S
  obtain ⟨sign, leng, clause, clauses, read, next, wrong, number, hzz⟩ := h
  obtain ⟨text, made, deep, lines, opn, opened, stack, top, hzz⟩ := hzz
  obtain ⟨word, kept, sumOf, faced, slotAt, dayAt, row, bestRow, hzz⟩ := hzz
  obtain ⟨tMany, tMost, drawX, rfl, ⟨m1, m2, m3, m4, m5, m6, m7, m8, m9⟩, m10⟩ := hzz
  refine (co_Mo_days m3.1 (by decide) m4 y1 y2 y3 y4 hy1 hy2 hy3 hy4).conseq (fun r w2 h => ?_)
  obtain ⟨rfl, X, K, rfl⟩ := h
  exact ⟨rfl, ⟨_, _, _, _, _, _, _, _, _, _, _, _, _, _, _, _, _, _, _, _, _, _, _, _, _, _, _, rfl, ⟨m1, m2, m3.mono, m4, ⟨m5.1, m5.2.mono⟩, m6, m7, (fun j h0 h1 h2 => (m8 j h0 h1 h2).mono), m9⟩, m10⟩⟩
set_option maxRecDepth 4000 in
theorem my_feed {c : Int} {S : fs_S} {wm : ab_W} (hc : 0 ≤ c) (hcm : c ≤ 1000) (h : my_I c S wm) (y1 : Int) (hy1 : ab_in y1) (y2 : Int) (hy2 : ab_in y2) (y3 : Int) (hy3 : ab_in y3) (y4 : Int) (hy4 : ab_in y4) (y5 : Int) (hy5 : ab_in y5) : ab_Mt g_G g_rs mt_Mo_feed 1 0 0 [ab_R 0, ab_I y1, ab_I y2, ab_I y3, ab_I y4, ab_I y5] wm (my_A c (fa_feed S) (fs_feed S y1 y2 y3 y4 y5)) := by
  obtain ⟨x, ix, mk, tape, taped, rules, said, was, undone, images, ru⟩ := S
  obtain ⟨sign, leng, clause, clauses, read, next, wrong, number, hzz⟩ := h
  obtain ⟨text, made, deep, lines, opn, opened, stack, top, hzz⟩ := hzz
  obtain ⟨word, kept, sumOf, faced, slotAt, dayAt, row, bestRow, hzz⟩ := hzz
  obtain ⟨tMany, tMost, drawX, rfl, ⟨m1, m2, m3, m4, m5, m6, m7, m8, m9⟩, m10⟩ := hzz
  refine (co_Mo_feed m1.1.1 m1.1.2.1 y1 y2 y3 y4 y5 hy1 hy2 hy3 hy4 hy5).conseq (fun r w2 h => ?_)
  obtain ⟨rfl, rfl⟩ := h
  refine ⟨rfl, ⟨_, _, _, _, _, _, _, _, _, _, _, _, _, _, _, _, _, _, _, _, _, _, _, _, _, _, _, rfl, ⟨⟨?_, m1.2⟩, m2, m3.mono, m4, ⟨m5.1, m5.2.mono⟩, m6, m7, (fun j h0 h1 h2 => (m8 j h0 h1 h2).mono), m9⟩, m10⟩⟩
  by_cases g : taped ≤ 380
  · simp only [if_pos g]
    exact ⟨by have := m1.1.1; omega, by omega, fun k h0 h1 => sp_feed_b m1.1.2.2 k h0 h1⟩
  · simp only [if_neg g]
    exact m1.1
set_option maxRecDepth 4000 in
theorem my_end {c : Int} {S : fs_S} {wm : ab_W} (hc : 0 ≤ c) (hcm : c ≤ 1000) (h : my_I c S wm) (y1 : Int) (hy1 : ab_in y1) : ab_Mt g_G g_rs mt_Mo_end 0 0 0 [ab_R 0, ab_I y1] wm (my_A c (fa_end S y1) (fs_end S y1)) := by
  obtain ⟨x, ix, mk, tape, taped, rules, said, was, undone, images, ru⟩ := S
  obtain ⟨sign, leng, clause, clauses, read, next, wrong, number, hzz⟩ := h
  obtain ⟨text, made, deep, lines, opn, opened, stack, top, hzz⟩ := hzz
  obtain ⟨word, kept, sumOf, faced, slotAt, dayAt, row, bestRow, hzz⟩ := hzz
  obtain ⟨tMany, tMost, drawX, rfl, ⟨m1, m2, m3, m4, m5, m6, m7, m8, m9⟩, m10⟩ := hzz
  refine (co_Mo_end m1.1.1 m1.1.2.1 y1 hy1).conseq (fun r w2 h => ?_)
  obtain ⟨rfl, rfl⟩ := h
  refine ⟨rfl, ⟨_, _, _, _, _, _, _, _, _, _, _, _, _, _, _, _, _, _, _, _, _, _, _, _, _, _, _, rfl, ⟨⟨?_, m1.2⟩, m2, m3.mono, m4, ⟨m5.1, m5.2.mono⟩, m6, m7, (fun j h0 h1 h2 => (m8 j h0 h1 h2).mono), m9⟩, m10⟩⟩
  by_cases g : 0 ≤ y1 ∧ y1 ≤ taped
  · simp only [if_pos g]
    exact ⟨g.1, by have := m1.1.2.1; omega, m1.1.2.2⟩
  · simp only [if_neg g]
    exact m1.1
set_option maxRecDepth 4000 in
theorem my_hour {c : Int} {S : fs_S} {wm : ab_W} (hc : 0 ≤ c) (hcm : c ≤ 1000) (h : my_I c S wm) : ab_Mt g_G g_rs mt_Mo_hour 4 0 0 [ab_R 0] wm (my_A c (fa_hour S) (fs_hour S)) := by
  obtain ⟨x, ix, mk, tape, taped, rules, said, was, undone, images, ru⟩ := S
  obtain ⟨sign, leng, clause, clauses, read, next, wrong, number, hzz⟩ := h
  obtain ⟨text, made, deep, lines, opn, opened, stack, top, hzz⟩ := hzz
  obtain ⟨word, kept, sumOf, faced, slotAt, dayAt, row, bestRow, hzz⟩ := hzz
  obtain ⟨tMany, tMost, drawX, rfl, ⟨m1, m2, m3, m4, m5, m6, m7, m8, m9⟩, m10⟩ := hzz
  have m51 := m5.1
  refine (co_Mo_hour m3.1 m5.1.1 m5.1.2).conseq (fun r w2 h => ?_)
  obtain ⟨rfl, rfl⟩ := h
  by_cases g : said 0 = 1 ∧ 24 * said 6 + said 5 + 1 < 24000
  · simp only [fa_hour, fs_hour, if_pos g]
    exact ⟨rfl, ⟨_, _, _, _, _, _, _, _, _, _, _, _, _, _, _, _, _, _, _, _, _, _, _, _, _, _, _, rfl, ⟨m1, m2, m3.pass g.2, m4, ⟨⟨by unfold sp_ku; split <;> omega, by unfold sp_ku; split <;> omega⟩, (m5.2.keep m3 m5.1.1 m5.1.2).mono⟩, m6, m7, (fun j h0 h1 h2 => (m8 j h0 h1 h2).mono), m9⟩, m10⟩⟩
  · simp only [fa_hour, fs_hour, if_neg g]
    exact ⟨rfl, ⟨_, _, _, _, _, _, _, _, _, _, _, _, _, _, _, _, _, _, _, _, _, _, _, _, _, _, _, rfl, ⟨m1, m2, m3.mono, m4, ⟨m5.1, m5.2.mono⟩, m6, m7, (fun j h0 h1 h2 => (m8 j h0 h1 h2).mono), m9⟩, m10⟩⟩
set_option maxRecDepth 4000 in
theorem my_rate {c : Int} {S : fs_S} {wm : ab_W} (hc : 0 ≤ c) (hcm : c ≤ 1000) (h : my_I c S wm) (y1 : Int) (hy1 : ab_in y1) (y2 : Int) (hy2 : ab_in y2) : ab_Mt g_G g_rs mt_Mo_rate 1 0 0 [ab_R 0, ab_I y1, ab_I y2] wm (my_A c (fa_rate S y1 y2) (fs_rate S y1 y2)) := by
  obtain ⟨x, ix, mk, tape, taped, rules, said, was, undone, images, ru⟩ := S
  obtain ⟨sign, leng, clause, clauses, read, next, wrong, number, hzz⟩ := h
  obtain ⟨text, made, deep, lines, opn, opened, stack, top, hzz⟩ := hzz
  obtain ⟨word, kept, sumOf, faced, slotAt, dayAt, row, bestRow, hzz⟩ := hzz
  obtain ⟨tMany, tMost, drawX, rfl, ⟨m1, m2, m3, m4, m5, m6, m7, m8, m9⟩, m10⟩ := hzz
  have m51 := m5.1
  refine (co_Mo_rate m3.1 m5.1.1 m5.1.2 y1 y2 hy1 hy2).conseq (fun r w2 h => ?_)
  obtain ⟨rfl, rfl⟩ := h
  by_cases g : said 0 = 1 ∧ (0 ≤ y1 ∧ y1 ≤ 23) ∧ -3 ≤ y2 ∧ y2 ≤ 3
  · simp only [fa_rate, fs_rate, if_pos g]
    exact ⟨rfl, ⟨_, _, _, _, _, _, _, _, _, _, _, _, _, _, _, _, _, _, _, _, _, _, _, _, _, _, _, rfl, ⟨m1, m2, m3.mono.up (by unfold sg_lo sg_hi; rw [if_pos (by omega), if_neg (by omega), if_pos (by omega)]; omega) (by omega) (by omega) (by omega) (by omega), m4, ⟨⟨by unfold sp_ku; split <;> omega, by unfold sp_ku; split <;> omega⟩, (m5.2.keep m3 m5.1.1 m5.1.2).mono⟩, m6, m7, (fun j h0 h1 h2 => (m8 j h0 h1 h2).mono), m9⟩, m10⟩⟩
  · simp only [fa_rate, fs_rate, if_neg g]
    exact ⟨rfl, ⟨_, _, _, _, _, _, _, _, _, _, _, _, _, _, _, _, _, _, _, _, _, _, _, _, _, _, _, rfl, ⟨m1, m2, m3.mono, m4, ⟨m5.1, m5.2.mono⟩, m6, m7, (fun j h0 h1 h2 => (m8 j h0 h1 h2).mono), m9⟩, m10⟩⟩
set_option maxRecDepth 4000 in
theorem my_swap {c : Int} {S : fs_S} {wm : ab_W} (hc : 0 ≤ c) (hcm : c ≤ 1000) (h : my_I c S wm) (y1 : Int) (hy1 : ab_in y1) (y2 : Int) (hy2 : ab_in y2) : ab_Mt g_G g_rs mt_Mo_swap 1 0 0 [ab_R 0, ab_I y1, ab_I y2] wm (my_A c (fa_swap S y1 y2) (fs_swap S y1 y2)) := by
  obtain ⟨x, ix, mk, tape, taped, rules, said, was, undone, images, ru⟩ := S
  obtain ⟨sign, leng, clause, clauses, read, next, wrong, number, hzz⟩ := h
  obtain ⟨text, made, deep, lines, opn, opened, stack, top, hzz⟩ := hzz
  obtain ⟨word, kept, sumOf, faced, slotAt, dayAt, row, bestRow, hzz⟩ := hzz
  obtain ⟨tMany, tMost, drawX, rfl, ⟨m1, m2, m3, m4, m5, m6, m7, m8, m9⟩, m10⟩ := hzz
  have m51 := m5.1
  refine (co_Mo_swap m3.1 m5.1.1 m5.1.2 y1 y2 hy1 hy2).conseq (fun r w2 h => ?_)
  obtain ⟨rfl, rfl⟩ := h
  by_cases g : (0 ≤ y1 ∧ y1 < said 1) ∧ (0 ≤ y2 ∧ y2 < said 1) ∧ ¬ y1 = y2
  · simp only [fa_swap, fs_swap, if_pos g]
    have b1 := m3.1.1 1 (by decide) (by decide)
    have b1 : said 1 ≤ 7 := b1.2
    have hi : ∀ k : Int, 46 ≤ k → k < 53 → sg_lo k = 0 ∧ sg_hi k = 11 := fun k h0 h1 => by unfold sg_lo sg_hi; rw [if_neg (by omega), if_neg (by omega), if_neg (by omega), if_neg (by omega), if_neg (by omega), if_pos (by omega)]; exact ⟨rfl, rfl⟩
    have s1 := m3.1.1 (46 + y1) (by omega) (by omega)
    have s2 := m3.1.1 (46 + y2) (by omega) (by omega)
    have q1 := hi (46 + y1) (by omega) (by omega)
    have q2 := hi (46 + y2) (by omega) (by omega)
    exact ⟨rfl, ⟨_, _, _, _, _, _, _, _, _, _, _, _, _, _, _, _, _, _, _, _, _, _, _, _, _, _, _, rfl, ⟨m1, m2, (m3.mono.up (by omega) (by omega) (by omega) (by omega) (by omega)).up (by omega) (by omega) (by omega) (by omega) (by omega), m4, ⟨⟨by unfold sp_ku; split <;> omega, by unfold sp_ku; split <;> omega⟩, (m5.2.keep m3 m5.1.1 m5.1.2).mono⟩, m6, m7, (fun j h0 h1 h2 => (m8 j h0 h1 h2).mono), m9⟩, m10⟩⟩
  · simp only [fa_swap, fs_swap, if_neg g]
    exact ⟨rfl, ⟨_, _, _, _, _, _, _, _, _, _, _, _, _, _, _, _, _, _, _, _, _, _, _, _, _, _, _, rfl, ⟨m1, m2, m3.mono, m4, ⟨m5.1, m5.2.mono⟩, m6, m7, (fun j h0 h1 h2 => (m8 j h0 h1 h2).mono), m9⟩, m10⟩⟩
set_option maxRecDepth 4000 in
theorem my_stop {c : Int} {S : fs_S} {wm : ab_W} (hc : 0 ≤ c) (hcm : c ≤ 1000) (h : my_I c S wm) : ab_Mt g_G g_rs mt_Mo_stop 1 0 0 [ab_R 0] wm (my_A c (fa_stop S) (fs_stop S)) := by
  obtain ⟨x, ix, mk, tape, taped, rules, said, was, undone, images, ru⟩ := S
  obtain ⟨sign, leng, clause, clauses, read, next, wrong, number, hzz⟩ := h
  obtain ⟨text, made, deep, lines, opn, opened, stack, top, hzz⟩ := hzz
  obtain ⟨word, kept, sumOf, faced, slotAt, dayAt, row, bestRow, hzz⟩ := hzz
  obtain ⟨tMany, tMost, drawX, rfl, ⟨m1, m2, m3, m4, m5, m6, m7, m8, m9⟩, m10⟩ := hzz
  have m51 := m5.1
  refine (co_Mo_stop m3.1 m5.1.1 m5.1.2).conseq (fun r w2 h => ?_)
  obtain ⟨rfl, rfl⟩ := h
  by_cases g : said 0 = 1 ∧ said 7 = 0
  · simp only [fa_stop, fs_stop, if_pos g]
    have b8 := m3.1.1 8 (by decide) (by decide)
    have b8 : 0 ≤ said 8 := b8.1
    have c8 := m3.2
    have e7 : sg_lo 7 = 0 ∧ sg_hi 7 = 1 := by decide
    have e8 : sg_lo 8 = 0 ∧ sg_hi 8 = 100000 := by decide
    exact ⟨rfl, ⟨_, _, _, _, _, _, _, _, _, _, _, _, _, _, _, _, _, _, _, _, _, _, _, _, _, _, _, rfl, ⟨m1, m2, (m3.mono.up (by omega) (by omega) (by omega) (by omega) (by omega)).up (by omega) (by omega) (by omega) (by omega) (by omega), m4, ⟨⟨by unfold sp_ku; split <;> omega, by unfold sp_ku; split <;> omega⟩, (m5.2.keep m3 m5.1.1 m5.1.2).mono⟩, m6, m7, (fun j h0 h1 h2 => (m8 j h0 h1 h2).mono), m9⟩, m10⟩⟩
  · simp only [fa_stop, fs_stop, if_neg g]
    exact ⟨rfl, ⟨_, _, _, _, _, _, _, _, _, _, _, _, _, _, _, _, _, _, _, _, _, _, _, _, _, _, _, rfl, ⟨m1, m2, m3.mono, m4, ⟨m5.1, m5.2.mono⟩, m6, m7, (fun j h0 h1 h2 => (m8 j h0 h1 h2).mono), m9⟩, m10⟩⟩
set_option maxRecDepth 4000 in
theorem my_undo {c : Int} {S : fs_S} {wm : ab_W} (hc : 0 ≤ c) (hcm : c ≤ 1000) (h : my_I c S wm) : ab_Mt g_G g_rs mt_Mo_undo 0 0 0 [ab_R 0] wm (my_A c (fa_undo S) (fs_undo S)) := by
  obtain ⟨x, ix, mk, tape, taped, rules, said, was, undone, images, ru⟩ := S
  obtain ⟨sign, leng, clause, clauses, read, next, wrong, number, hzz⟩ := h
  obtain ⟨text, made, deep, lines, opn, opened, stack, top, hzz⟩ := hzz
  obtain ⟨word, kept, sumOf, faced, slotAt, dayAt, row, bestRow, hzz⟩ := hzz
  obtain ⟨tMany, tMost, drawX, rfl, ⟨m1, m2, m3, m4, m5, m6, m7, m8, m9⟩, m10⟩ := hzz
  have m51 := m5.1
  refine (co_Mo_undo m5.1.1 m5.1.2).conseq (fun r w2 h => ?_)
  obtain ⟨rfl, rfl⟩ := h
  by_cases g : undone = 0
  · simp only [fa_undo, fs_undo, if_pos g]
    exact ⟨rfl, ⟨_, _, _, _, _, _, _, _, _, _, _, _, _, _, _, _, _, _, _, _, _, _, _, _, _, _, _, rfl, ⟨m1, m2, m3.mono, m4, ⟨⟨by decide, by decide⟩, fun u h0 h1 => by omega⟩, m6, m7, (fun j h0 h1 h2 => (m8 j h0 h1 h2).mono), m9⟩, m10⟩⟩
  · simp only [fa_undo, fs_undo, if_neg g]
    exact ⟨rfl, ⟨_, _, _, _, _, _, _, _, _, _, _, _, _, _, _, _, _, _, _, _, _, _, _, _, _, _, _, rfl, ⟨m1, m2, (m3.back (m5.2 (undone - 1) (by omega) (by omega))).mono, m4, ⟨⟨by omega, by omega⟩, fun u h0 h1 => (m5.2 u h0 (by omega)).mono⟩, m6, m7, (fun j h0 h1 h2 => (m8 j h0 h1 h2).mono), m9⟩, m10⟩⟩
set_option maxRecDepth 4000 in
theorem my_run {c : Int} {S : fs_S} {wm : ab_W} (hc : 0 ≤ c) (hcm : c ≤ 1000) (h : my_I c S wm) (y1 : Int) (hy1 : ab_in y1) (y2 : Int) (hy2 : ab_in y2) : ab_Mt g_G g_rs mt_Mo_run 7 0 0 [ab_R 0, ab_I y1, ab_I y2] wm (my_A c (fa_run S y1 y2) (fs_run S y1 y2)) := by
  obtain ⟨x, ix, mk, tape, taped, rules, said, was, undone, images, ru⟩ := S
  obtain ⟨sign, leng, clause, clauses, read, next, wrong, number, hzz⟩ := h
  obtain ⟨text, made, deep, lines, opn, opened, stack, top, hzz⟩ := hzz
  obtain ⟨word, kept, sumOf, faced, slotAt, dayAt, row, bestRow, hzz⟩ := hzz
  obtain ⟨tMany, tMost, drawX, rfl, ⟨m1, m2, m3, m4, m5, m6, m7, m8, m9⟩, m10⟩ := hzz
  refine (co_Mo_run m3.1 (by decide) m2.1 (fun r h0 h1 => Rv_rok (m2.2 r h0 h1)) y1 y2 hy1 hy2).conseq (fun r w2 h => ?_)
  obtain ⟨rfl, W, S9, T, rfl⟩ := h
  by_cases g : said 0 = 1 ∧ (0 ≤ y1 ∧ y1 < rules) ∧ (1 ≤ y2 ∧ y2 ≤ 96) ∧ 24 * said 6 + said 5 + y2 < 24000
  · have eE : sp_E sign clause y1 (clauses y1) = ck_E (ru y1) := funext (m10 y1 g.2.1.1 g.2.1.2).2
    rw [eE]
    simp only [fa_run, fs_run, if_pos g]
    exact ⟨rfl, ⟨_, _, _, _, _, _, _, _, _, _, _, _, _, _, _, _, _, _, _, _, _, _, _, _, _, _, _, rfl, ⟨m1, m2, m3.run (ck_E_b _) g.2.2.1.1 g.2.2.2, m4, ⟨⟨by decide, by decide⟩, fun u h0 h1 => by omega⟩, m6, m7, (fun j h0 h1 h2 => (m8 j h0 h1 h2).mono), m9⟩, m10⟩⟩
  · simp only [fa_run, fs_run, if_neg g]
    exact ⟨rfl, ⟨_, _, _, _, _, _, _, _, _, _, _, _, _, _, _, _, _, _, _, _, _, _, _, _, _, _, _, rfl, ⟨m1, m2, m3.mono, m4, ⟨m5.1, m5.2.mono⟩, m6, m7, (fun j h0 h1 h2 => (m8 j h0 h1 h2).mono), m9⟩, m10⟩⟩
set_option maxRecDepth 4000 in
theorem my_diary {c : Int} {S : fs_S} {wm : ab_W} (hc : 0 ≤ c) (hcm : c ≤ 1000) (h : my_I c S wm) (y1 : Int) (hy1 : ab_in y1) (y2 : Int) (hy2 : ab_in y2) (y3 : Int) (hy3 : ab_in y3) (y4 : Int) (hy4 : ab_in y4) (hz : y4 = 0 ∨ y4 = 1) : ab_Mt g_G g_rs mt_Mo_diary 1 0 0 [ab_R 0, ab_I y1, ab_I y2, ab_I y3, ab_I y4] wm (my_A c (fa_diary S y1 y2 y3 y4) (fs_diary S y1 y2 y3 y4)) := by
  obtain ⟨x, ix, mk, tape, taped, rules, said, was, undone, images, ru⟩ := S
  obtain ⟨sign, leng, clause, clauses, read, next, wrong, number, hzz⟩ := h
  obtain ⟨text, made, deep, lines, opn, opened, stack, top, hzz⟩ := hzz
  obtain ⟨word, kept, sumOf, faced, slotAt, dayAt, row, bestRow, hzz⟩ := hzz
  obtain ⟨tMany, tMost, drawX, rfl, ⟨m1, m2, m3, m4, m5, m6, m7, m8, m9⟩, m10⟩ := hzz
  refine (co_Mo_diary m3.1 y1 y2 y3 y4 hy1 hy2 hy3 hz).conseq (fun r w2 h => ?_)
  obtain ⟨rfl, rfl⟩ := h
  have hl : sg_lo 190 = 0 ∧ sg_hi 190 = 10 := by decide
  by_cases g0 : y1 = -1
  · simp only [fa_diary, fs_diary, if_pos g0]
    exact ⟨rfl, ⟨_, _, _, _, _, _, _, _, _, _, _, _, _, _, _, _, _, _, _, _, _, _, _, _, _, _, _, rfl, ⟨m1, m2, m3.mono.up (by omega) (by omega) (by omega) (by omega) (by omega), m4, ⟨m5.1, m5.2.mono⟩, m6, m7, (fun j h0 h1 h2 => (m8 j h0 h1 h2).mono), m9⟩, m10⟩⟩
  · simp only [fa_diary, fs_diary, if_neg g0]
    by_cases g : (0 ≤ y1 ∧ y1 < said 1) ∧ (0 ≤ y2 ∧ y2 ≤ 99) ∧ (0 ≤ y3 ∧ y3 ≤ 4) ∧ ¬ said 190 = 10
    · simp only [fa_diary, fs_diary, if_pos g]
      exact ⟨rfl, ⟨_, _, _, _, _, _, _, _, _, _, _, _, _, _, _, _, _, _, _, _, _, _, _, _, _, _, _, rfl, ⟨m1, m2, m3.mono.dia g hz, m4, ⟨m5.1, m5.2.mono⟩, m6, m7, (fun j h0 h1 h2 => (m8 j h0 h1 h2).mono), m9⟩, m10⟩⟩
    · simp only [fa_diary, fs_diary, if_neg g]
      exact ⟨rfl, ⟨_, _, _, _, _, _, _, _, _, _, _, _, _, _, _, _, _, _, _, _, _, _, _, _, _, _, _, rfl, ⟨m1, m2, m3.mono, m4, ⟨m5.1, m5.2.mono⟩, m6, m7, (fun j h0 h1 h2 => (m8 j h0 h1 h2).mono), m9⟩, m10⟩⟩
set_option maxRecDepth 4000 in
theorem my_seed {c : Int} {S : fs_S} {wm : ab_W} (hc : 0 ≤ c) (hcm : c ≤ 1000) (h : my_I c S wm) (y1 : Int) (hy1 : ab_in y1) : ab_Mt g_G g_rs mt_Mo_seed 0 0 0 [ab_R 0, ab_I y1] wm (my_A c (fa_seed S y1) (fs_seed S y1)) := by
  obtain ⟨x, ix, mk, tape, taped, rules, said, was, undone, images, ru⟩ := S
  obtain ⟨sign, leng, clause, clauses, read, next, wrong, number, hzz⟩ := h
  obtain ⟨text, made, deep, lines, opn, opened, stack, top, hzz⟩ := hzz
  obtain ⟨word, kept, sumOf, faced, slotAt, dayAt, row, bestRow, hzz⟩ := hzz
  obtain ⟨tMany, tMost, drawX, rfl, ⟨m1, m2, m3, m4, m5, m6, m7, m8, m9⟩, m10⟩ := hzz
  refine (co_Mo_seed y1 hy1).conseq (fun r w2 h => ?_)
  obtain ⟨rfl, rfl⟩ := h
  exact ⟨rfl, ⟨_, _, _, _, _, _, _, _, _, _, _, _, _, _, _, _, _, _, _, _, _, _, _, _, _, _, _, rfl, ⟨m1, m2, m3.mono, (by split <;> omega), ⟨m5.1, m5.2.mono⟩, m6, m7, (fun j h0 h1 h2 => (m8 j h0 h1 h2).mono), m9⟩, m10⟩⟩
set_option maxRecDepth 4000 in
theorem my_image {c : Int} {S : fs_S} {wm : ab_W} (hc : 0 ≤ c) (hcm : c ≤ 1000) (h : my_I c S wm) (y1 : Int) (hy1 : ab_in y1) : ab_Mt g_G g_rs mt_Mo_image 1 0 0 [ab_R 0, ab_I y1] wm (my_A c (fa_image S y1) (fs_image S y1)) := by
  obtain ⟨x, ix, mk, tape, taped, rules, said, was, undone, images, ru⟩ := S
  obtain ⟨sign, leng, clause, clauses, read, next, wrong, number, hzz⟩ := h
  obtain ⟨text, made, deep, lines, opn, opened, stack, top, hzz⟩ := hzz
  obtain ⟨word, kept, sumOf, faced, slotAt, dayAt, row, bestRow, hzz⟩ := hzz
  obtain ⟨tMany, tMost, drawX, rfl, ⟨m1, m2, m3, m4, m5, m6, m7, m8, m9⟩, m10⟩ := hzz
  refine (co_Mo_image m3.1 y1 hy1).conseq (fun r w2 h => ?_)
  obtain ⟨rfl, rfl⟩ := h
  by_cases g : 0 ≤ y1 ∧ y1 ≤ 3
  · simp only [fa_image, fs_image, if_pos g]
    refine ⟨rfl, ⟨_, _, _, _, _, _, _, _, _, _, _, _, _, _, _, _, _, _, _, _, _, _, _, _, _, _, _, rfl, ⟨m1, m2, m3.mono, m4, ⟨m5.1, m5.2.mono⟩, m6, ?_, ?_, ?_⟩, m10⟩⟩
    · intro j h0 h1
      by_cases e : j = y1
      · subst e; rw [ab_upe]; exact Or.inr rfl
      · rw [ab_upn _ _ e]; exact m7 j h0 h1
    · intro j h0 h1 h2
      by_cases e : j = y1
      · subst e
        refine m3.mono.cong (fun k q0 q1 => ?_)
        unfold sp_img sp_im
        rw [if_pos (by omega)]
        congr 1
        omega
      · rw [ab_upn _ _ e] at h2
        refine ((m8 j h0 h1 h2).mono).cong (fun k q0 q1 => ?_)
        unfold sp_img sp_im
        rw [if_neg (by omega)]
    · intro j h0 h1
      by_cases e : j = y1
      · subst e; rw [ab_upe]; exact m4
      · rw [ab_upn _ _ e]; exact m9 j h0 h1
  · simp only [fa_image, fs_image, if_neg g]
    exact ⟨rfl, ⟨_, _, _, _, _, _, _, _, _, _, _, _, _, _, _, _, _, _, _, _, _, _, _, _, _, _, _, rfl, ⟨m1, m2, m3.mono, m4, ⟨m5.1, m5.2.mono⟩, m6, m7, (fun j h0 h1 h2 => (m8 j h0 h1 h2).mono), m9⟩, m10⟩⟩
set_option maxRecDepth 4000 in
theorem my_back {c : Int} {S : fs_S} {wm : ab_W} (hc : 0 ≤ c) (hcm : c ≤ 1000) (h : my_I c S wm) (y1 : Int) (hy1 : ab_in y1) : ab_Mt g_G g_rs mt_Mo_back 1 0 0 [ab_R 0, ab_I y1] wm (my_A c (fa_back S y1) (fs_back S y1)) := by
  obtain ⟨x, ix, mk, tape, taped, rules, said, was, undone, images, ru⟩ := S
  obtain ⟨sign, leng, clause, clauses, read, next, wrong, number, hzz⟩ := h
  obtain ⟨text, made, deep, lines, opn, opened, stack, top, hzz⟩ := hzz
  obtain ⟨word, kept, sumOf, faced, slotAt, dayAt, row, bestRow, hzz⟩ := hzz
  obtain ⟨tMany, tMost, drawX, rfl, ⟨m1, m2, m3, m4, m5, m6, m7, m8, m9⟩, m10⟩ := hzz
  refine (co_Mo_back m7 y1 hy1).conseq (fun r w2 h => ?_)
  obtain ⟨rfl, rfl⟩ := h
  by_cases g : (0 ≤ y1 ∧ y1 ≤ 3) ∧ mk y1 = 1
  · simp only [fa_back, fs_back, if_pos g]
    refine ⟨rfl, ⟨_, _, _, _, _, _, _, _, _, _, _, _, _, _, _, _, _, _, _, _, _, _, _, _, _, _, _, rfl, ⟨m1, m2, ?_, m9 y1 g.1.1 g.1.2, ⟨⟨by decide, by decide⟩, fun u h0 h1 => by omega⟩, m6, m7, (fun j h0 h1 h2 => (m8 j h0 h1 h2).mono), m9⟩, m10⟩⟩
    refine ((m8 y1 g.1.1 g.1.2 g.2).mono).cong (fun k q0 q1 => ?_)
    exact if_pos ⟨q0, q1⟩
  · simp only [fa_back, fs_back, if_neg g]
    exact ⟨rfl, ⟨_, _, _, _, _, _, _, _, _, _, _, _, _, _, _, _, _, _, _, _, _, _, _, _, _, _, _, rfl, ⟨m1, m2, m3.mono, m4, ⟨m5.1, m5.2.mono⟩, m6, m7, (fun j h0 h1 h2 => (m8 j h0 h1 h2).mono), m9⟩, m10⟩⟩
set_option maxRecDepth 4000 in
theorem my_ring {c : Int} {S : fs_S} {wm : ab_W} (hc : 0 ≤ c) (hcm : c ≤ 1000) (h : my_I c S wm) : ∃ rd0 : Int → Int, rd_ok rd0 ∧ ab_Mt g_G g_rs mt_Mo_ring 11 0 0 [ab_R 0] wm (my_A c (fa_ring S rd0) (fs_ring S rd0)) := by
  obtain ⟨x, ix, mk, tape, taped, rules, said, was, undone, images, ru⟩ := S
  obtain ⟨sign, leng, clause, clauses, read, next, wrong, number, hzz⟩ := h
  obtain ⟨text, made, deep, lines, opn, opened, stack, top, hzz⟩ := hzz
  obtain ⟨word, kept, sumOf, faced, slotAt, dayAt, row, bestRow, hzz⟩ := hzz
  obtain ⟨tMany, tMost, drawX, rfl, ⟨m1, m2, m3, m4, m5, m6, m7, m8, m9⟩, m10⟩ := hzz
  refine ⟨read, m1.2.1, (co_Mo_ring m1.1 m1.2.1 m1.2.2).conseq (fun r w2 h => ?_)⟩
  obtain ⟨nx, nu, wr, ln, rd, k1, k2, k3, k4, h⟩ := h
  rcases h with ⟨rfl, rfl, hX⟩ | ⟨rfl, -, rfl, hX⟩
  · have eA : fa_ring ⟨x, ix, mk, tape, taped, rules, said, was, undone, images, ru⟩ read = rd 1 := by
      show b_ans (rs_all tape taped (rs_ini read 46)) = _
      rw [hX]
      rfl
    have eS : fs_ring ⟨x, ix, mk, tape, taped, rules, said, was, undone, images, ru⟩ read = ⟨x, ix, mk, tape, 0, rules, rs_said rd said 191, was, 0, images, ru⟩ := by
      show ring_to ⟨x, ix, mk, tape, taped, rules, said, was, undone, images, ru⟩ (rs_all tape taped (rs_ini read 46)) = _
      rw [hX]
      rfl
    rw [eA, eS]
    exact ⟨rfl, ⟨_, _, _, _, _, _, _, _, _, _, _, _, _, _, _, _, _, _, _, _, _, _, _, _, _, _, _, rfl, ⟨⟨⟨by decide, by decide, m1.1.2.2⟩, k2, k3⟩, m2, sgc_said k2 hc, m4, ⟨⟨by decide, by decide⟩, fun u h0 h1 => by omega⟩, m6, m7, (fun j h0 h1 h2 => (m8 j h0 h1 h2).mono), m9⟩, m10⟩⟩
  · have eA : fa_ring ⟨x, ix, mk, tape, taped, rules, said, was, undone, images, ru⟩ read = -2 - wr := by
      show b_ans (rs_all tape taped (rs_ini read 46)) = _
      rw [hX]
      rfl
    have eS : fs_ring ⟨x, ix, mk, tape, taped, rules, said, was, undone, images, ru⟩ read = ⟨x, ix, mk, tape, 0, rules, said, was, undone, images, ru⟩ := by
      show ring_to ⟨x, ix, mk, tape, taped, rules, said, was, undone, images, ru⟩ (rs_all tape taped (rs_ini read 46)) = _
      rw [hX]
      rfl
    rw [eA, eS]
    exact ⟨rfl, ⟨_, _, _, _, _, _, _, _, _, _, _, _, _, _, _, _, _, _, _, _, _, _, _, _, _, _, _, rfl, ⟨⟨⟨by decide, by decide, m1.1.2.2⟩, k2, k3⟩, m2, m3.mono, m4, ⟨m5.1, m5.2.mono⟩, m6, m7, (fun j h0 h1 h2 => (m8 j h0 h1 h2).mono), m9⟩, m10⟩⟩
set_option maxRecDepth 4000 in
theorem my_rule {c : Int} {S : fs_S} {wm : ab_W} (hc : 0 ≤ c) (hcm : c ≤ 1000) (h : my_I c S wm) : ∃ d, d ≤ 12 ∧ ab_Mt g_G g_rs mt_Mo_rule d 0 0 [ab_R 0] wm (my_A c (fa_rule S) (fs_rule S)) := by
  obtain ⟨x, ix, mk, tape, taped, rules, said, was, undone, images, ru⟩ := S
  obtain ⟨sign, leng, clause, clauses, read, next, wrong, number, hzz⟩ := h
  obtain ⟨text, made, deep, lines, opn, opened, stack, top, hzz⟩ := hzz
  obtain ⟨word, kept, sumOf, faced, slotAt, dayAt, row, bestRow, hzz⟩ := hzz
  obtain ⟨tMany, tMost, drawX, rfl, ⟨m1, m2, m3, m4, m5, m6, m7, m8, m9⟩, m10⟩ := hzz
  by_cases h6 : rules = 6
  · refine ⟨0, by decide, (c6_Mo_rule h6).conseq (fun r w2 h => ?_)⟩
    obtain ⟨rfl, rfl⟩ := h
    have e1 : fa_rule ⟨x, ix, mk, tape, taped, rules, said, was, undone, images, ru⟩ = -1 := if_pos (by omega)
    have e2 : fs_rule ⟨x, ix, mk, tape, taped, rules, said, was, undone, images, ru⟩ = ⟨x, ix, mk, tape, taped, rules, said, was, undone, images, ru⟩ := if_pos (by omega)
    rw [e1, e2]
    exact ⟨rfl, ⟨_, _, _, _, _, _, _, _, _, _, _, _, _, _, _, _, _, _, _, _, _, _, _, _, _, _, _, rfl, ⟨m1, m2, m3.mono, m4, ⟨m5.1, m5.2.mono⟩, m6, m7, (fun j h0 h1 h2 => (m8 j h0 h1 h2).mono), m9⟩, m10⟩⟩
  · refine ⟨12, by decide, (co_Mo_rule m1.1 m2.1.1 (by have := m2.1.2; omega) m1.2.2).conseq (fun r w2 h => ?_)⟩
    obtain ⟨nx, nu, wr, mk2, ln, le, sg, op, hzz⟩ := h
    obtain ⟨od, dp, cl, cs, k1, k2, k3, k4, hzz⟩ := hzz
    obtain ⟨k5, k6, k7, h⟩ := hzz
    have hrl := rall_eq (f := tape) (L := taped) (t := rules) (le := leng) (sg := sign) (cl := clause) m1.1.1 m1.1.2.1
    have m21 := m2.1
    rcases h with ⟨rfl, rfl, k8, k9, kx⟩ | ⟨rfl, rfl, kw, kx⟩
    · have hE : ru_er tape taped = 0 := by
        unfold ru_er
        rcases hq : c_rall tape taped with e | z
        · rw [hq, kx] at hrl; cases hrl
        · rfl
      have e1 : fa_rule ⟨x, ix, mk, tape, taped, rules, said, was, undone, images, ru⟩ = rules := (if_neg (by omega)).trans (if_pos hE)
      have e2 : fs_rule ⟨x, ix, mk, tape, taped, rules, said, was, undone, images, ru⟩ = ⟨x, ix, mk, tape, 0, rules + 1, said, was, undone, images, ab_up ru rules (ru_ks tape taped)⟩ := (if_neg (by omega)).trans (if_pos hE)
      rw [e1, e2]
      refine ⟨rfl, ⟨_, _, _, _, _, _, _, _, _, _, _, _, _, _, _, _, _, _, _, _, _, _, _, _, _, _, _, rfl, ⟨⟨⟨by decide, by decide, m1.1.2.2⟩, m1.2.1, k2⟩, ⟨⟨by have := m2.1.1; omega, by have := m2.1.2; omega⟩, fun r h0 h1 => ?_⟩, m3.mono, m4, ⟨m5.1, m5.2.mono⟩, m6, m7, (fun j h0 h1 h2 => (m8 j h0 h1 h2).mono), m9⟩, fun r h0 h1 => ?_⟩⟩
      · by_cases e : r = rules
        · subst e; rw [k8]; exact k9
        · rw [k7 r e]; exact Rv_fr (m2.2 r h0 (by omega)) e k4 k5
      · by_cases e : r = rules
        · subst e
          rcases hq : c_rall tape taped with e3 | ⟨c3, ks⟩
          · rw [hq, kx] at hrl; cases hrl
          · rw [hq, kx] at hrl
            have eks : ru_ks tape taped = ks := by unfold ru_ks; rw [hq]
            have hg := gv_rall hq
            rw [ab_upe, eks, k8]
            refine ⟨hg, fun g => ?_⟩
            injection hrl with hrl
            injection hrl with e1 hrl
            injection hrl with e2 hrl
            injection hrl with e3 hrl
            injection hrl with e4 e5
            rw [e1, e4, e5]
            exact lay_E hg (by rw [show ((ab_up leng r 0, sign) : (Int → Int) × (Int → Int)).1 r = 0 from ab_upe _ _ _]; decide) g
        · rw [ab_upn _ _ e, k7 r e]
          have q := m10 r h0 (by omega)
          exact ⟨q.1, fun g => (E_fr (m2.2 r h0 (by omega)) e k4 k5 g).trans (q.2 g)⟩
    · have hE : ru_er tape taped = wr := by
        unfold ru_er
        rcases hq : c_rall tape taped with e | ⟨z1, z2⟩
        · rw [hq, kx] at hrl; cases hrl; rfl
        · rw [hq, kx] at hrl; cases hrl
      have e1 : fa_rule ⟨x, ix, mk, tape, taped, rules, said, was, undone, images, ru⟩ = -2 - wr := (if_neg (by omega)).trans ((if_neg (by omega)).trans (by rw [hE]))
      have e2 : fs_rule ⟨x, ix, mk, tape, taped, rules, said, was, undone, images, ru⟩ = ⟨x, ix, mk, tape, 0, rules, said, was, undone, images, ru⟩ := (if_neg (by omega)).trans (if_neg (by omega))
      rw [e1, e2]
      refine ⟨rfl, ⟨_, _, _, _, _, _, _, _, _, _, _, _, _, _, _, _, _, _, _, _, _, _, _, _, _, _, _, rfl, ⟨⟨⟨by decide, by decide, m1.1.2.2⟩, m1.2.1, k2⟩, ⟨m2.1, fun r h0 h1 => ?_⟩, m3.mono, m4, ⟨m5.1, m5.2.mono⟩, m6, m7, (fun j h0 h1 h2 => (m8 j h0 h1 h2).mono), m9⟩, fun r h0 h1 => ?_⟩⟩
      · rw [k7 r (by omega)]; exact Rv_fr (m2.2 r h0 h1) (by omega) k4 k5
      · rw [k7 r (by omega)]
        have q := m10 r h0 h1
        exact ⟨q.1, fun g => (E_fr (m2.2 r h0 h1) (by omega) k4 k5 g).trans (q.2 g)⟩

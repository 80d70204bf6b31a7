/-! words: as the class looks them up, and as the reference packs them -/
theorem k_or {a b : Nat} (ha : a < 2 ^ 48) (hb : b < 256) : (Int64.ofInt (a : Int) <<< ((Int32.ofInt 8).toInt64 &&& 63)) ||| Int64.ofInt (b : Int) = Int64.ofInt ((256 * a + b : Nat) : Int) := by
  have e : ((Int32.ofInt 8).toInt64 &&& 63) = 8 := by decide
  rw [e]
  apply Int64.toBitVec_inj.mp
  apply BitVec.eq_of_toNat_eq
  have e8 : ((8 : Int64).toBitVec.smod 64).toNat = 8 := by decide
  have t : ∀ n : Nat, (Int64.ofInt (n : Int)).toBitVec = BitVec.ofNat 64 n := fun n => by
    show BitVec.ofInt 64 (n : Int) = _
    exact BitVec.ofInt_natCast 64 n
  rw [Int64.toBitVec_or, Int64.toBitVec_shiftLeft, t, t, t, BitVec.toNat_or]
  show (BitVec.ofNat 64 a <<< ((8 : Int64).toBitVec.smod 64).toNat).toNat ||| _ = _
  rw [e8, BitVec.toNat_shiftLeft, BitVec.toNat_ofNat, BitVec.toNat_ofNat, BitVec.toNat_ofNat, Nat.mod_eq_of_lt (a := a) (by omega), Nat.mod_eq_of_lt (a := b) (by omega)]
  have h1 : a <<< 8 = a * 256 := by rw [Nat.shiftLeft_eq]
  have h2 := Nat.shiftLeft_add_eq_or_of_lt (i := 8) (show b < 2 ^ 8 from hb) a
  rw [h1] at h2
  rw [h1, Nat.mod_eq_of_lt (by omega), ← h2, Nat.mod_eq_of_lt (by omega)]
  omega

def k_pv (f : Int → Int) (s : Int) : Nat → Int
  | 0 => 0
  | n + 1 => 256 * k_pv f s n + f (s + (n : Int))
theorem k_pv_b {f : Int → Int} {s : Int} : ∀ n : Nat, n ≤ 7 → (∀ k : Nat, k < n → 0 ≤ f (s + k) ∧ f (s + k) ≤ 255) → 0 ≤ k_pv f s n ∧ k_pv f s n < 256 ^ n
  | 0, _, _ => by unfold k_pv; decide
  | n + 1, hn, h => by
    have ih := k_pv_b n (by omega) (fun k hk => h k (by omega))
    have hb := h n (by omega)
    unfold k_pv
    have hp : (256 : Int) ^ (n + 1) = 256 ^ n * 256 := Int.pow_succ 256 n
    rw [hp]
    omega
theorem k_p48 : ∀ n : Nat, n ≤ 6 → (256 : Int) ^ n ≤ 2 ^ 48 := by decide
theorem k_wv {f : Int → Int} {s : Int} : ∀ n : Nat, n ≤ 7 → (∀ k : Nat, k < n → 0 ≤ f (s + k) ∧ f (s + k) ≤ 255) → tk_wv f s n = Int64.ofInt (k_pv f s n)
  | 0, _, _ => rfl
  | n + 1, hn, h => by
    have ih := k_wv n (by omega) (fun k hk => h k (by omega))
    have ib := k_pv_b n (by omega) (fun k hk => h k (by omega))
    have hb := h n (by omega)
    have h48 := k_p48 n (by omega)
    unfold tk_wv k_pv
    rw [if_pos (by omega), ih]
    have e1 : k_pv f s n = ((k_pv f s n).toNat : Int) := by omega
    have e2 : f (s + (n : Int)) = ((f (s + (n : Int))).toNat : Int) := by omega
    have := k_or (a := (k_pv f s n).toNat) (b := (f (s + (n : Int))).toNat) (by omega) (by omega)
    rw [← e1, ← e2] at this
    rw [this]
    congr 1
    omega
theorem k_o64 {a b : Int} (ha : 0 ≤ a) (ha2 : a < 2 ^ 56) (hb : 0 ≤ b) (hb2 : b < 2 ^ 56) (h : Int64.ofInt a = Int64.ofInt b) : a = b := by
  have h1 := congrArg Int64.toInt h
  rw [Int64.toInt_ofInt_of_le (by omega) (by omega), Int64.toInt_ofInt_of_le (by omega) (by omega)] at h1
  exact h1
/-- the least byte first -/
def k_pr : List Int → Int
  | [] => 0
  | x :: r => x + 256 * k_pr r
theorem k_pr_b : ∀ u : List Int, (∀ x, x ∈ u → 1 ≤ x ∧ x ≤ 255) → 0 ≤ k_pr u
  | [], _ => by unfold k_pr; omega
  | x :: r, h => by
    have := k_pr_b r (fun y hy => h y (List.mem_cons_of_mem _ hy))
    have := h x (List.mem_cons_self ..)
    unfold k_pr
    omega
theorem k_pr_inj : ∀ u w : List Int, (∀ x, x ∈ u → 1 ≤ x ∧ x ≤ 255) → (∀ x, x ∈ w → 1 ≤ x ∧ x ≤ 255) → k_pr u = k_pr w → u = w
  | [], [], _, _, _ => rfl
  | [], y :: v, _, hw, h => by
    have := k_pr_b v (fun z hz => hw z (List.mem_cons_of_mem _ hz))
    have := hw y (List.mem_cons_self ..)
    unfold k_pr at h
    omega
  | x :: r, [], hu, _, h => by
    have := k_pr_b r (fun z hz => hu z (List.mem_cons_of_mem _ hz))
    have := hu x (List.mem_cons_self ..)
    unfold k_pr at h
    omega
  | x :: r, y :: v, hu, hw, h => by
    have h1 := hu x (List.mem_cons_self ..)
    have h2 := hw y (List.mem_cons_self ..)
    unfold k_pr at h
    have e1 : x = y := by omega
    have e2 := k_pr_inj r v (fun z hz => hu z (List.mem_cons_of_mem _ hz)) (fun z hz => hw z (List.mem_cons_of_mem _ hz)) (by omega)
    rw [e1, e2]
def k_fl (f : Int → Int) (s : Int) : Nat → List Int
  | 0 => []
  | n + 1 => k_fl f s n ++ [f (s + (n : Int))]
theorem k_fl_pv (f : Int → Int) (s : Int) : ∀ n : Nat, k_pv f s n = k_pr (k_fl f s n).reverse
  | 0 => rfl
  | n + 1 => by
    unfold k_pv k_fl
    rw [List.reverse_append, k_fl_pv f s n]
    show _ = f (s + (n : Int)) + 256 * k_pr (k_fl f s n).reverse
    omega
theorem k_fl_c (f : Int → Int) : ∀ (n : Nat) (s : Int), k_fl f s (n + 1) = f s :: k_fl f (s + 1) n
  | 0, s => by
    show [f (s + ((0 : Nat) : Int))] = [f s]
    rw [show s + ((0 : Nat) : Int) = s by omega]
  | n + 1, s => by
    show k_fl f s (n + 1) ++ [f (s + ((n + 1 : Nat) : Int))] = f s :: (k_fl f (s + 1) n ++ [f (s + 1 + (n : Int))])
    rw [k_fl_c f n s, show s + ((n + 1 : Nat) : Int) = s + 1 + (n : Int) by omega]
    rfl
theorem k_fl_l (f : Int → Int) (s : Int) : ∀ n : Nat, (k_fl f s n).length = n
  | 0 => rfl
  | n + 1 => by unfold k_fl; rw [List.length_append, k_fl_l f s n]; rfl
theorem k_fl_m {f : Int → Int} {s : Int} : ∀ n : Nat, (∀ k : Nat, k < n → 1 ≤ f (s + k) ∧ f (s + k) ≤ 255) → ∀ x, x ∈ k_fl f s n → 1 ≤ x ∧ x ≤ 255
  | 0, _, x, hx => by cases hx
  | n + 1, h, x, hx => by
    unfold k_fl at hx
    rcases List.mem_append.mp hx with h1 | h1
    · exact k_fl_m n (fun k hk => h k (by omega)) x h1
    · rw [List.mem_singleton.mp h1]
      exact h n (by omega)
def k_mb (f : Int → Int) (s e : Int) : List Int → Bool
  | [] => decide (s = e)
  | x :: r => decide (f s = x) && k_mb f (s + 1) e r
abbrev k_mt (f : Int → Int) (s e : Int) (w : List Int) : Prop := k_mb f s e w = true
theorem k_mt_c {f : Int → Int} {s e x : Int} {r : List Int} : k_mt f s e (x :: r) ↔ (f s = x ∧ k_mt f (s + 1) e r) := by
  show (decide (f s = x) && k_mb f (s + 1) e r) = true ↔ _
  rw [Bool.and_eq_true, decide_eq_true_eq]
theorem k_mt_n {f : Int → Int} {s e : Int} : k_mt f s e [] ↔ s = e := decide_eq_true_iff
theorem k_mt_i {f : Int → Int} {e : Int} : ∀ (w : List Int) (s : Int), k_mt f s e w ↔ (k_fl f s w.length = w ∧ s + w.length = e)
  | [], s => by
    rw [k_mt_n]
    constructor
    · intro h; exact ⟨rfl, by simp only [List.length_nil]; omega⟩
    · rintro ⟨-, h⟩; simp only [List.length_nil] at h; omega
  | x :: r, s => by
    rw [k_mt_c, k_mt_i r (s + 1), List.length_cons, k_fl_c]
    constructor
    · rintro ⟨h1, h2, h3⟩; exact ⟨by rw [h1, h2], by omega⟩
    · rintro ⟨h1, h2⟩
      injection h1 with h3 h4
      exact ⟨h3, h4, by omega⟩
theorem k_mt_u {f : Int → Int} {s e : Int} {w v : List Int} (h : k_mt f s e w) (h2 : k_mt f s e v) : w = v := by
  obtain ⟨a1, a2⟩ := (k_mt_i w s).mp h
  obtain ⟨b1, b2⟩ := (k_mt_i v s).mp h2
  have : w.length = v.length := by omega
  rw [this] at a1
  rw [← a1, b1]
def k_pl (w : List Int) : Int := k_pr w.reverse
theorem k_lets {f : Int → Int} {L s : Int} (h : s ≤ L) (k : Nat) (hk : (k : Int) < tk_le f L s - s) : 97 ≤ f (s + k) ∧ f (s + k) ≤ 122 := by
  have hm := tk_to_mid (p := tk_lt f L) (taped := L) (i := s) k (by unfold tk_le at hk; omega) h
  by_cases c : tk_lt f L (s + k) = true
  · have := of_decide_eq_true c
    omega
  · rw [tk_to_e (by simpa using c)] at hm
    unfold tk_le at hk
    omega
/-- a word of letters, packed: the reference finds it just where it stands -/
theorem k_isI {f : Int → Int} {L s : Int} {w : List Int} (h : s ≤ L) (hw : ∀ x, x ∈ w → 1 ≤ x ∧ x ≤ 255) (hl : 0 < w.length ∧ w.length < 8) (hp : k_pl w < 2 ^ 56) : tk_isI f L s (Int64.ofInt (k_pl w)) = 1 ↔ k_mt f s (tk_le f L s) w := by
  have hb := tk_le_b f h
  have hp0 : 0 ≤ k_pl w := k_pr_b _ (fun x hx => hw x (List.mem_reverse.mp hx))
  have hwv : tk_le f L s - s < 8 → tk_wv f s (tk_le f L s - s).toNat = Int64.ofInt (k_pv f s (tk_le f L s - s).toNat) := fun h8 => k_wv _ (by omega) (fun k hk => by have := k_lets (f := f) h k (by omega); omega)
  have hpb : tk_le f L s - s < 8 → 0 ≤ k_pv f s (tk_le f L s - s).toNat ∧ k_pv f s (tk_le f L s - s).toNat < 2 ^ 56 := fun h8 => by
    have hpb := k_pv_b (f := f) (s := s) (tk_le f L s - s).toNat (by omega) (fun k hk => by have := k_lets (f := f) h k (by omega); omega)
    have : ∀ n : Nat, n ≤ 7 → (256 : Int) ^ n ≤ 2 ^ 56 := by decide
    have := this (tk_le f L s - s).toNat (by omega)
    omega
  rw [k_mt_i]
  constructor
  · intro hI
    unfold tk_isI at hI
    have c := Decidable.byContradiction (fun z => by rw [if_neg z] at hI; exact absurd hI (by decide))
    obtain ⟨c1, c2, c3⟩ := c
    rw [hwv c2] at c3
    have e := k_o64 (hpb c2).1 (hpb c2).2 hp0 hp c3
    rw [k_fl_pv] at e
    have e2 := k_pr_inj _ _ (fun x hx => k_fl_m _ (fun k hk => by have := k_lets (f := f) h k (by omega); omega) x (List.mem_reverse.mp hx)) (fun x hx => hw x (List.mem_reverse.mp hx)) e
    have e3 := List.reverse_inj.mp e2
    have e4 : w.length = (tk_le f L s - s).toNat := by rw [← e3, k_fl_l]
    rw [e4]
    exact ⟨e3, by omega⟩
  · rintro ⟨h1, h2⟩
    have e4 : (tk_le f L s - s).toNat = w.length := by omega
    unfold tk_isI
    refine if_pos ⟨by omega, by omega, ?_⟩
    rw [hwv (by omega), k_fl_pv, e4, h1]
    rfl
/-- along the words -/
theorem k_wl_sk {f : Int → Int} {s e i : Int} {r : List Int} : ∀ (w : List Int), (∀ x, x ∈ w → ¬ x = 32) → k_wl f s e (w ++ 32 :: r) i (-1) = k_wl f s e r (i + 1) 0
  | [], _ => k_wl_bl
  | x :: v, h => by
    show k_wl f s e (x :: (v ++ 32 :: r)) i (-1) = _
    rw [k_wl_no (h x (List.mem_cons_self ..)) (by omega)]
    exact k_wl_sk v (fun y hy => h y (List.mem_cons_of_mem _ hy))
theorem k_wl_ske {f : Int → Int} {s e i : Int} : ∀ (w : List Int), (∀ x, x ∈ w → ¬ x = 32) → k_wl f s e w i (-1) = -1
  | [], _ => rfl
  | x :: v, h => by
    rw [k_wl_no (h x (List.mem_cons_self ..)) (by omega)]
    exact k_wl_ske v (fun y hy => h y (List.mem_cons_of_mem _ hy))
theorem k_mt_l {f : Int → Int} {s e : Int} {w : List Int} (h : k_mt f s e w) : s + w.length = e := ((k_mt_i w s).mp h).2
theorem k_wl_w {f : Int → Int} {s e i : Int} {r : List Int} : ∀ (w : List Int) (x m : Int), (∀ y, y ∈ x :: w → ¬ y = 32) → 0 ≤ m → k_wl f s e (x :: w ++ 32 :: r) i m = if k_mt f (s + m) e (x :: w) then i else k_wl f s e r (i + 1) 0
  | [], x, m, h, hm => by
    have hx := h x (List.mem_cons_self ..)
    show k_wl f s e (x :: 32 :: r) i m = _
    by_cases c : 0 ≤ m ∧ s + m < e ∧ f (s + m) = x
    · by_cases c2 : s + m + 1 = e
      · rw [k_wl_yes hx c ⟨Or.inr rfl, c2⟩, if_pos (k_mt_c.mpr ⟨c.2.2, k_mt_n.mpr c2⟩)]
      · rw [k_wl_on hx c (fun z => c2 z.2), k_wl_bl, if_neg (fun z => c2 (k_mt_n.mp (k_mt_c.mp z).2))]
    · rw [k_wl_no hx c, k_wl_bl, if_neg (fun z => c ⟨hm, by have := k_mt_n.mp (k_mt_c.mp z).2; omega, (k_mt_c.mp z).1⟩)]
  | x2 :: w, x, m, h, hm => by
    have hx := h x (List.mem_cons_self ..)
    have hx2 := h x2 (List.mem_cons_of_mem _ (List.mem_cons_self ..))
    show k_wl f s e (x :: (x2 :: w ++ 32 :: r)) i m = _
    by_cases c : 0 ≤ m ∧ s + m < e ∧ f (s + m) = x
    · rw [k_wl_on hx c (fun z => by
        rcases z.1 with z1 | z1
        · cases z1
        · exact hx2 (Option.some.inj z1)), k_wl_w w x2 (m + 1) (fun y hy => h y (List.mem_cons_of_mem _ hy)) (by omega), show s + (m + 1) = s + m + 1 by omega]
      by_cases d : k_mt f (s + m + 1) e (x2 :: w)
      · rw [if_pos d, if_pos (k_mt_c.mpr ⟨c.2.2, d⟩)]
      · rw [if_neg d, if_neg (fun z => d (k_mt_c.mp z).2)]
    · rw [k_wl_no hx c, k_wl_sk (x2 :: w) (fun y hy => h y (List.mem_cons_of_mem _ hy)), if_neg (fun z => c ⟨hm, by have := k_mt_l (k_mt_c.mp z).2; simp only [List.length_cons] at this; omega, (k_mt_c.mp z).1⟩)]
theorem k_wl_we {f : Int → Int} {s e i : Int} : ∀ (w : List Int) (x m : Int), (∀ y, y ∈ x :: w → ¬ y = 32) → 0 ≤ m → k_wl f s e (x :: w) i m = if k_mt f (s + m) e (x :: w) then i else -1
  | [], x, m, h, hm => by
    have hx := h x (List.mem_cons_self ..)
    by_cases c : 0 ≤ m ∧ s + m < e ∧ f (s + m) = x
    · by_cases c2 : s + m + 1 = e
      · rw [k_wl_yes hx c ⟨Or.inl rfl, c2⟩, if_pos (k_mt_c.mpr ⟨c.2.2, k_mt_n.mpr c2⟩)]
      · rw [k_wl_on hx c (fun z => c2 z.2), if_neg (fun z => c2 (k_mt_n.mp (k_mt_c.mp z).2))]
        rfl
    · rw [k_wl_no hx c, if_neg (fun z => c ⟨hm, by have := k_mt_n.mp (k_mt_c.mp z).2; omega, (k_mt_c.mp z).1⟩)]
      rfl
  | x2 :: w, x, m, h, hm => by
    have hx := h x (List.mem_cons_self ..)
    have hx2 := h x2 (List.mem_cons_of_mem _ (List.mem_cons_self ..))
    by_cases c : 0 ≤ m ∧ s + m < e ∧ f (s + m) = x
    · rw [k_wl_on hx c (fun z => by
        rcases z.1 with z1 | z1
        · cases z1
        · exact hx2 (Option.some.inj z1)), k_wl_we w x2 (m + 1) (fun y hy => h y (List.mem_cons_of_mem _ hy)) (by omega), show s + (m + 1) = s + m + 1 by omega]
      by_cases d : k_mt f (s + m + 1) e (x2 :: w)
      · rw [if_pos d, if_pos (k_mt_c.mpr ⟨c.2.2, d⟩)]
      · rw [if_neg d, if_neg (fun z => d (k_mt_c.mp z).2)]
    · rw [k_wl_no hx c, k_wl_ske (x2 :: w) (fun y hy => h y (List.mem_cons_of_mem _ hy)), if_neg (fun z => c ⟨hm, by have := k_mt_l (k_mt_c.mp z).2; simp only [List.length_cons] at this; omega, (k_mt_c.mp z).1⟩)]
def k_j : List (List Int) → List Int
  | [] => []
  | [w] => w
  | w :: v :: ws => w ++ 32 :: k_j (v :: ws)
def k_ws (f : Int → Int) (s e : Int) : List (List Int) → Int → Int
  | [], _ => -1
  | w :: ws, i => if k_mt f s e w then i else k_ws f s e ws (i + 1)
def k_good (ws : List (List Int)) : Bool := ws.all (fun w => decide (0 < w.length ∧ w.length < 8 ∧ k_pl w < 2 ^ 56) && w.all (fun x => decide (97 ≤ x ∧ x ≤ 122)))
theorem k_wl_ws {f : Int → Int} {s e : Int} : ∀ (ws : List (List Int)) (i : Int), k_good ws = true → k_wl f s e (k_j ws) i 0 = k_ws f s e ws i
  | [], i, _ => rfl
  | [w], i, h => by
    unfold k_good at h
    simp only [List.all_cons, List.all_nil, Bool.and_true, Bool.and_eq_true, decide_eq_true_eq, List.all_eq_true] at h
    obtain ⟨h1, h2⟩ := h
    match w, h1, h2 with
    | x :: r, h1, h2 =>
      show k_wl f s e (x :: r) i 0 = _
      rw [k_wl_we r x 0 (fun y hy => by have := h2 y hy; omega) (Int.le_refl _), show s + 0 = s by omega]
      rfl
  | w :: v :: ws, i, h => by
    have hg : k_good (v :: ws) = true := by
      unfold k_good at h ⊢
      rw [List.all_cons, Bool.and_eq_true] at h
      exact h.2
    unfold k_good at h
    rw [List.all_cons, Bool.and_eq_true, Bool.and_eq_true, decide_eq_true_eq] at h
    obtain ⟨⟨h1, h2⟩, -⟩ := h
    simp only [List.all_eq_true, decide_eq_true_eq] at h2
    match w, h1, h2 with
    | x :: r, h1, h2 =>
      show k_wl f s e (x :: r ++ 32 :: k_j (v :: ws)) i 0 = _
      rw [k_wl_w r x 0 (fun y hy => by have := h2 y hy; omega) (Int.le_refl _), show s + 0 = s by omega, k_wl_ws (v :: ws) (i + 1) hg]
      rfl
theorem k_ws_at {f : Int → Int} {s e : Int} {w : List Int} (hm : k_mt f s e w) : ∀ (ws : List (List Int)) (i : Int) (j : Nat), ws[j]? = some w → (∀ k, k < j → ¬ ws[k]? = some w) → k_ws f s e ws i = i + j
  | [], _, j, h, _ => by simp at h
  | v :: ws, i, 0, h, _ => by
    have : v = w := Option.some.inj h
    subst this
    show (if _ then _ else _) = _
    rw [if_pos hm]
    omega
  | v :: ws, i, j + 1, h, hn => by
    show (if _ then _ else _) = _
    rw [if_neg (fun z => hn 0 (by omega) (congrArg some (k_mt_u z hm))), k_ws_at hm ws (i + 1) j h (fun k hk => hn (k + 1) (by omega))]
    omega
theorem k_ws_of {f : Int → Int} {s e : Int} : ∀ (ws : List (List Int)) (i : Int), k_ws f s e ws i = -1 ∨ ∃ (j : Nat) (w : List Int), ws[j]? = some w ∧ k_ws f s e ws i = i + j ∧ k_mt f s e w
  | [], _ => Or.inl rfl
  | v :: ws, i => by
    by_cases c : k_mt f s e v
    · exact Or.inr ⟨0, v, rfl, by show (if _ then _ else _) = _; rw [if_pos c]; omega, c⟩
    · have e1 : k_ws f s e (v :: ws) i = k_ws f s e ws (i + 1) := if_neg c
      rw [e1]
      rcases k_ws_of (f := f) (s := s) (e := e) ws (i + 1) with h | ⟨j, w, h1, h2, h3⟩
      · exact Or.inl h
      · exact Or.inr ⟨j + 1, w, h1, by rw [h2]; omega, h3⟩
theorem k_wd_is {f : Int → Int} {L s : Int} {K : Nat} {ws : List (List Int)} (h : s ≤ L) (hb : k_bs K = k_j ws) (hg : k_good ws = true) (hd : ∀ j, j < ws.length → ∀ k, k < j → ¬ ws[k]? = ws[j]?) {j : Nat} {w : List Int} (hj : ws[j]? = some w) : tk_isI f L s (Int64.ofInt (k_pl w)) = 1 ↔ k_wd K f L s = (j : Int) := by
  have hgw : (0 < w.length ∧ w.length < 8 ∧ k_pl w < 2 ^ 56) ∧ ∀ x, x ∈ w → 97 ≤ x ∧ x ≤ 122 := by
    unfold k_good at hg
    have := (List.all_eq_true.mp hg) w (List.mem_of_getElem? hj)
    rw [Bool.and_eq_true, decide_eq_true_eq] at this
    obtain ⟨a, b⟩ := this
    simp only [List.all_eq_true, decide_eq_true_eq] at b
    exact ⟨a, b⟩
  rw [k_isI h (fun x hx => by have := hgw.2 x hx; omega) ⟨hgw.1.1, hgw.1.2.1⟩ hgw.1.2.2]
  have hle := tk_le_b f h
  constructor
  · intro hm
    have hl := k_mt_l hm
    have h0 := k_lets (f := f) h 0 (by omega)
    rw [show s + ((0 : Nat) : Int) = s by omega] at h0
    unfold k_wd
    rw [if_pos (kk_2 (by omega) h0), hb, k_wl_ws ws 0 hg, k_ws_at hm ws 0 j hj (fun k hk hz => by
      have hjl : j < ws.length := (List.getElem?_eq_some_iff.mp hj).1
      exact hd j hjl k hk (hz.trans hj.symm))]
    omega
  · intro hw
    unfold k_wd at hw
    split at hw
    · rw [hb, k_wl_ws ws 0 hg] at hw
      rcases k_ws_of (f := f) (s := s) (e := tk_le f L s) ws 0 with h2 | ⟨j2, w2, h1, h2, h3⟩
      · omega
      · have : j2 = j := by omega
        subst this
        rw [hj] at h1
        rw [Option.some.inj h1]
        exact h3
    · omega
theorem k_wd_r {f : Int → Int} {L s : Int} {K : Nat} {ws : List (List Int)} (hb : k_bs K = k_j ws) (hg : k_good ws = true) : -1 ≤ k_wd K f L s ∧ k_wd K f L s < ws.length := by
  unfold k_wd
  split
  · rw [hb, k_wl_ws ws 0 hg]
    rcases k_ws_of (f := f) (s := s) (e := tk_le f L s) ws 0 with h2 | ⟨j2, w2, h1, h2, h3⟩
    · omega
    · have := (List.getElem?_eq_some_iff.mp h1).1
      omega
  · omega
def k_W2 : List (List Int) := [[104, 111, 117, 114], [100, 97, 121], [97, 110, 103, 108, 101], [114, 97, 116, 101], [119, 111, 114, 110], [108, 105, 107, 101, 100], [98, 101, 115, 116], [108, 101, 97, 115, 116], [115, 116, 97, 121, 115], [118, 111, 116, 101, 115], [103, 97, 116, 101, 115], [115, 116, 111, 112, 115], [116, 117, 114, 110], [105, 102], [110, 111, 116], [97, 110, 100], [111, 114]]
def k_W1 : List (List Int) := [[114, 105, 110, 103], [104, 111, 117, 115, 101], [115, 105, 103, 104, 116], [108, 105, 107, 101, 115], [108, 111, 97, 116, 104, 101, 115], [103, 97, 116, 101], [114, 97, 116, 101]]
theorem k_B2 : k_bs 2 = k_j k_W2 ∧ k_good k_W2 = true ∧ (∀ j, j < k_W2.length → ∀ k, k < j → ¬ k_W2[k]? = k_W2[j]?) := by decide +kernel
theorem k_B1 : k_bs 1 = k_j k_W1 ∧ k_good k_W1 = true ∧ (∀ j, j < k_W1.length → ∀ k, k < j → ¬ k_W1[k]? = k_W1[j]?) := by decide +kernel
theorem k_2_0 {f : Int → Int} {L s : Int} (h : s ≤ L) : tk_isI f L s (Int64.ofInt 1752135026) = 1 ↔ k_wd 2 f L s = 0 := k_wd_is (j := 0) (w := [104, 111, 117, 114]) h k_B2.1 k_B2.2.1 k_B2.2.2 rfl
theorem k_2_1 {f : Int → Int} {L s : Int} (h : s ≤ L) : tk_isI f L s (Int64.ofInt 6578553) = 1 ↔ k_wd 2 f L s = 1 := k_wd_is (j := 1) (w := [100, 97, 121]) h k_B2.1 k_B2.2.1 k_B2.2.2 rfl
theorem k_2_2 {f : Int → Int} {L s : Int} (h : s ≤ L) : tk_isI f L s (Int64.ofInt 418464099429) = 1 ↔ k_wd 2 f L s = 2 := k_wd_is (j := 2) (w := [97, 110, 103, 108, 101]) h k_B2.1 k_B2.2.1 k_B2.2.2 rfl
theorem k_2_3 {f : Int → Int} {L s : Int} (h : s ≤ L) : tk_isI f L s (Int64.ofInt 1918989413) = 1 ↔ k_wd 2 f L s = 3 := k_wd_is (j := 3) (w := [114, 97, 116, 101]) h k_B2.1 k_B2.2.1 k_B2.2.2 rfl
theorem k_2_4 {f : Int → Int} {L s : Int} (h : s ≤ L) : tk_isI f L s (Int64.ofInt 2003792494) = 1 ↔ k_wd 2 f L s = 4 := k_wd_is (j := 4) (w := [119, 111, 114, 110]) h k_B2.1 k_B2.2.1 k_B2.2.2 rfl
theorem k_2_5 {f : Int → Int} {L s : Int} (h : s ≤ L) : tk_isI f L s (Int64.ofInt 465625113956) = 1 ↔ k_wd 2 f L s = 5 := k_wd_is (j := 5) (w := [108, 105, 107, 101, 100]) h k_B2.1 k_B2.2.1 k_B2.2.2 rfl
theorem k_2_6 {f : Int → Int} {L s : Int} (h : s ≤ L) : tk_isI f L s (Int64.ofInt 1650815860) = 1 ↔ k_wd 2 f L s = 6 := k_wd_is (j := 6) (w := [98, 101, 115, 116]) h k_B2.1 k_B2.2.1 k_B2.2.2 rfl
theorem k_2_7 {f : Int → Int} {L s : Int} (h : s ≤ L) : tk_isI f L s (Int64.ofInt 465557353332) = 1 ↔ k_wd 2 f L s = 7 := k_wd_is (j := 7) (w := [108, 101, 97, 115, 116]) h k_B2.1 k_B2.2.1 k_B2.2.2 rfl
theorem k_2_8 {f : Int → Int} {L s : Int} (h : s ≤ L) : tk_isI f L s (Int64.ofInt 495873784179) = 1 ↔ k_wd 2 f L s = 8 := k_wd_is (j := 8) (w := [115, 116, 97, 121, 115]) h k_B2.1 k_B2.2.1 k_B2.2.2 rfl
theorem k_2_9 {f : Int → Int} {L s : Int} (h : s ≤ L) : tk_isI f L s (Int64.ofInt 508676040051) = 1 ↔ k_wd 2 f L s = 9 := k_wd_is (j := 9) (w := [118, 111, 116, 101, 115]) h k_B2.1 k_B2.2.1 k_B2.2.2 rfl
theorem k_2_10 {f : Int → Int} {L s : Int} (h : s ≤ L) : tk_isI f L s (Int64.ofInt 444016649587) = 1 ↔ k_wd 2 f L s = 10 := k_wd_is (j := 10) (w := [103, 97, 116, 101, 115]) h k_B2.1 k_B2.2.1 k_B2.2.2 rfl
theorem k_2_11 {f : Int → Int} {L s : Int} (h : s ≤ L) : tk_isI f L s (Int64.ofInt 495874699379) = 1 ↔ k_wd 2 f L s = 11 := k_wd_is (j := 11) (w := [115, 116, 111, 112, 115]) h k_B2.1 k_B2.2.1 k_B2.2.2 rfl
theorem k_2_12 {f : Int → Int} {L s : Int} (h : s ≤ L) : tk_isI f L s (Int64.ofInt 1953854062) = 1 ↔ k_wd 2 f L s = 12 := k_wd_is (j := 12) (w := [116, 117, 114, 110]) h k_B2.1 k_B2.2.1 k_B2.2.2 rfl
theorem k_2_13 {f : Int → Int} {L s : Int} (h : s ≤ L) : tk_isI f L s (Int64.ofInt 26982) = 1 ↔ k_wd 2 f L s = 13 := k_wd_is (j := 13) (w := [105, 102]) h k_B2.1 k_B2.2.1 k_B2.2.2 rfl
theorem k_2_14 {f : Int → Int} {L s : Int} (h : s ≤ L) : tk_isI f L s (Int64.ofInt 7237492) = 1 ↔ k_wd 2 f L s = 14 := k_wd_is (j := 14) (w := [110, 111, 116]) h k_B2.1 k_B2.2.1 k_B2.2.2 rfl
theorem k_2_15 {f : Int → Int} {L s : Int} (h : s ≤ L) : tk_isI f L s (Int64.ofInt 6385252) = 1 ↔ k_wd 2 f L s = 15 := k_wd_is (j := 15) (w := [97, 110, 100]) h k_B2.1 k_B2.2.1 k_B2.2.2 rfl
theorem k_2_16 {f : Int → Int} {L s : Int} (h : s ≤ L) : tk_isI f L s (Int64.ofInt 28530) = 1 ↔ k_wd 2 f L s = 16 := k_wd_is (j := 16) (w := [111, 114]) h k_B2.1 k_B2.2.1 k_B2.2.2 rfl
theorem k_1_0 {f : Int → Int} {L s : Int} (h : s ≤ L) : tk_isI f L s (Int64.ofInt 1919512167) = 1 ↔ k_wd 1 f L s = 0 := k_wd_is (j := 0) (w := [114, 105, 110, 103]) h k_B1.1 k_B1.2.1 k_B1.2.2 rfl
theorem k_1_1 {f : Int → Int} {L s : Int} (h : s ≤ L) : tk_isI f L s (Int64.ofInt 448546567013) = 1 ↔ k_wd 1 f L s = 1 := k_wd_is (j := 1) (w := [104, 111, 117, 115, 101]) h k_B1.1 k_B1.2.1 k_B1.2.2 rfl
theorem k_1_2 {f : Int → Int} {L s : Int} (h : s ≤ L) : tk_isI f L s (Int64.ofInt 495689623668) = 1 ↔ k_wd 1 f L s = 2 := k_wd_is (j := 2) (w := [115, 105, 103, 104, 116]) h k_B1.1 k_B1.2.1 k_B1.2.2 rfl
theorem k_1_3 {f : Int → Int} {L s : Int} (h : s ≤ L) : tk_isI f L s (Int64.ofInt 465625113971) = 1 ↔ k_wd 1 f L s = 3 := k_wd_is (j := 3) (w := [108, 105, 107, 101, 115]) h k_B1.1 k_B1.2.1 k_B1.2.2 rfl
theorem k_1_4 {f : Int → Int} {L s : Int} (h : s ≤ L) : tk_isI f L s (Int64.ofInt 30521761840260467) = 1 ↔ k_wd 1 f L s = 4 := k_wd_is (j := 4) (w := [108, 111, 97, 116, 104, 101, 115]) h k_B1.1 k_B1.2.1 k_B1.2.2 rfl
theorem k_1_5 {f : Int → Int} {L s : Int} (h : s ≤ L) : tk_isI f L s (Int64.ofInt 1734440037) = 1 ↔ k_wd 1 f L s = 5 := k_wd_is (j := 5) (w := [103, 97, 116, 101]) h k_B1.1 k_B1.2.1 k_B1.2.2 rfl
theorem k_1_6 {f : Int → Int} {L s : Int} (h : s ≤ L) : tk_isI f L s (Int64.ofInt 1918989413) = 1 ↔ k_wd 1 f L s = 6 := k_wd_is (j := 6) (w := [114, 97, 116, 101]) h k_B1.1 k_B1.2.1 k_B1.2.2 rfl
theorem k_ic {b c : Prop} [Decidable b] [Decidable c] {x y v : Int} (h : b ↔ c) (e : y = v) : (if b then x else y) = (if c then x else v) := by
  by_cases hb : b
  · rw [if_pos hb, if_pos (h.mp hb)]
  · rw [if_neg hb, if_neg (fun z => hb (h.mpr z)), e]
theorem k_word {f : Int → Int} {L s : Int} (h : s ≤ L) : rs_word f L s = if k_wd 2 f L s < 12 then k_wd 2 f L s else -1 := by
  have hr := k_wd_r (f := f) (L := L) (s := s) k_B2.1 k_B2.2.1
  unfold rs_word
  refine (k_ic (k_2_0 h) (k_ic (k_2_1 h) (k_ic (k_2_2 h) (k_ic (k_2_3 h) (k_ic (k_2_4 h) (k_ic (k_2_5 h) (k_ic (k_2_6 h) (k_ic (k_2_7 h) (k_ic (k_2_8 h) (k_ic (k_2_9 h) (k_ic (k_2_10 h) (k_ic (k_2_11 h) rfl)))))))))))).trans ?_
  obtain ⟨hr0, -⟩ := hr
  generalize k_wd 2 f L s = k at hr0 ⊢
  by_cases c : k < 12
  · rcases (by omega : k = -1 ∨ k = 0 ∨ k = 1 ∨ k = 2 ∨ k = 3 ∨ k = 4 ∨ k = 5 ∨ k = 6 ∨ k = 7 ∨ k = 8 ∨ k = 9 ∨ k = 10 ∨ k = 11) with rfl | rfl | rfl | rfl | rfl | rfl | rfl | rfl | rfl | rfl | rfl | rfl | rfl <;> rfl
  · rw [if_neg (by omega), if_neg (by omega), if_neg (by omega), if_neg (by omega), if_neg (by omega), if_neg (by omega), if_neg (by omega), if_neg (by omega), if_neg (by omega), if_neg (by omega), if_neg (by omega), if_neg (by omega), if_neg (by omega)]

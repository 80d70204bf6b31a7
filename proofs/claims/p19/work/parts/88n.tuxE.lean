/-! what would be best to turn by, a row of rates after the other: exactly -/
theorem dg_0e (c : Int) : sp_dig c 0 = c % 3 := by
  show c / 1 % 3 = c % 3
  omega
theorem dg_1e (c : Int) : sp_dig c 1 = c / 3 % 3 := rfl
theorem dg_2e (c : Int) : sp_dig c 2 = c / 9 % 3 := rfl
theorem dg_3e (c : Int) : sp_dig c 3 = c / 27 % 3 := rfl
theorem dg_4e (c : Int) : sp_dig c 4 = c / 81 % 3 := rfl
/-- one more: the digits behind are 2, then 0 -/
theorem nx_d {i : Int} {m : Nat} (hm : m ≤ 4) (h0 : 0 ≤ i) (h : ∀ e : Nat, e < m → sp_dig i e = 2) (hd : sp_dig i m < 2) : (∀ e : Nat, e < m → sp_dig (i + 1) e = 0) ∧ sp_dig (i + 1) m = sp_dig i m + 1 ∧ ∀ e : Nat, m < e → e ≤ 4 → sp_dig (i + 1) e = sp_dig i e := by
  have k0 := h 0
  have k1 := h 1
  have k2 := h 2
  have k3 := h 3
  rw [dg_0e] at k0
  rw [dg_1e] at k1
  rw [dg_2e] at k2
  rw [dg_3e] at k3
  rcases (by omega : m = 0 ∨ m = 1 ∨ m = 2 ∨ m = 3 ∨ m = 4) with rfl | rfl | rfl | rfl | rfl
  · rw [dg_0e] at hd
    refine ⟨fun e he => by omega, by rw [dg_0e, dg_0e]; omega, fun e e0 e1 => ?_⟩
    rcases (by omega : e = 1 ∨ e = 2 ∨ e = 3 ∨ e = 4) with rfl | rfl | rfl | rfl
    · rw [dg_1e, dg_1e]; omega
    · rw [dg_2e, dg_2e]; omega
    · rw [dg_3e, dg_3e]; omega
    · rw [dg_4e, dg_4e]; omega
  · rw [dg_1e] at hd
    have q0 := k0 (by decide)
    refine ⟨fun e he => ?_, by rw [dg_1e, dg_1e]; omega, fun e e0 e1 => ?_⟩
    · rcases (by omega : e = 0) with rfl
      rw [dg_0e]; omega
    · rcases (by omega : e = 2 ∨ e = 3 ∨ e = 4) with rfl | rfl | rfl
      · rw [dg_2e, dg_2e]; omega
      · rw [dg_3e, dg_3e]; omega
      · rw [dg_4e, dg_4e]; omega
  · rw [dg_2e] at hd
    have q0 := k0 (by decide)
    have q1 := k1 (by decide)
    refine ⟨fun e he => ?_, by rw [dg_2e, dg_2e]; omega, fun e e0 e1 => ?_⟩
    · rcases (by omega : e = 0 ∨ e = 1) with rfl | rfl
      · rw [dg_0e]; omega
      · rw [dg_1e]; omega
    · rcases (by omega : e = 3 ∨ e = 4) with rfl | rfl
      · rw [dg_3e, dg_3e]; omega
      · rw [dg_4e, dg_4e]; omega
  · rw [dg_3e] at hd
    have q0 := k0 (by decide)
    have q1 := k1 (by decide)
    have q2 := k2 (by decide)
    refine ⟨fun e he => ?_, by rw [dg_3e, dg_3e]; omega, fun e e0 e1 => ?_⟩
    · rcases (by omega : e = 0 ∨ e = 1 ∨ e = 2) with rfl | rfl | rfl
      · rw [dg_0e]; omega
      · rw [dg_1e]; omega
      · rw [dg_2e]; omega
    · rcases (by omega : e = 4) with rfl
      rw [dg_4e, dg_4e]; omega
  · rw [dg_4e] at hd
    have q0 := k0 (by decide)
    have q1 := k1 (by decide)
    have q2 := k2 (by decide)
    have q3 := k3 (by decide)
    refine ⟨fun e he => ?_, by rw [dg_4e, dg_4e]; omega, fun e e0 e1 => by omega⟩
    rcases (by omega : e = 0 ∨ e = 1 ∨ e = 2 ∨ e = 3) with rfl | rfl | rfl | rfl
    · rw [dg_0e]; omega
    · rw [dg_1e]; omega
    · rw [dg_2e]; omega
    · rw [dg_3e]; omega
theorem nx_end {i n : Nat} (hn : n ≤ 5) (hi : i < 3 ^ n) (h : ∀ e : Nat, e < n → sp_dig (i : Int) e = 2) : i + 1 = 3 ^ n := by
  have k0 := h 0
  have k1 := h 1
  have k2 := h 2
  have k3 := h 3
  have k4 := h 4
  rw [dg_0e] at k0
  rw [dg_1e] at k1
  rw [dg_2e] at k2
  rw [dg_3e] at k3
  rw [dg_4e] at k4
  rcases (by omega : n = 0 ∨ n = 1 ∨ n = 2 ∨ n = 3 ∨ n = 4 ∨ n = 5) with rfl | rfl | rfl | rfl | rfl | rfl
  · have hi : i < 1 := hi
    show i + 1 = 1
    omega
  · have hi : i < 3 := hi
    have q0 := k0 (by decide)
    show i + 1 = 3
    omega
  · have hi : i < 9 := hi
    have q0 := k0 (by decide)
    have q1 := k1 (by decide)
    show i + 1 = 9
    omega
  · have hi : i < 27 := hi
    have q0 := k0 (by decide)
    have q1 := k1 (by decide)
    have q2 := k2 (by decide)
    show i + 1 = 27
    omega
  · have hi : i < 81 := hi
    have q0 := k0 (by decide)
    have q1 := k1 (by decide)
    have q2 := k2 (by decide)
    have q3 := k3 (by decide)
    show i + 1 = 81
    omega
  · have hi : i < 243 := hi
    have q0 := k0 (by decide)
    have q1 := k1 (by decide)
    have q2 := k2 (by decide)
    have q3 := k3 (by decide)
    have q4 := k4 (by decide)
    show i + 1 = 243
    omega
theorem nx_lt {i n m : Nat} (hn : n ≤ 5) (hi : i < 3 ^ n) (hm : m < n) (hd : sp_dig (i : Int) m < 2) : i + 1 < 3 ^ n := by
  refine Nat.lt_of_le_of_ne hi (fun e => ?_)
  have a : ∀ n : Nat, n ≤ 5 → ∀ m : Nat, m < n → ¬ sp_dig (((3 ^ n - 1 : Nat)) : Int) m < 2 := by decide
  refine a n hn m hm ?_
  rw [show (3 ^ n - 1 : Nat) = i by omega]
  exact hd
/-- what the ring is behind k HOURS of a row -/
theorem pc_all {B : Int} {f : Int → Int} (hI : sg_ok B f) (code : Int) (n : Nat) : ∀ k : Nat, (0 ≤ sp_pc f code 1 n k 4 ∧ sp_pc f code 1 n k 4 ≤ 11) ∧ sp_pc f code 1 n k 5 = (f 5 + (k : Int)) % 24 ∧ sp_pc f code 1 n k 7 = 0 ∧ ∀ j, j ≠ 4 → j ≠ 5 → j ≠ 6 → j ≠ 7 → (j < 34 ∨ 46 ≤ j) → sp_pc f code 1 n k j = f j := by
  have b4 := (sg_all hI).2.2.2.2.1
  have b5 := (sg_all hI).2.2.2.2.2.1
  intro k
  induction k with
  | zero =>
    refine ⟨?_, ?_, ab_upe _ _ _, fun j _ _ _ h _ => ab_upn _ _ h⟩
    · show 0 ≤ ab_up f 7 0 4 ∧ ab_up f 7 0 4 ≤ 11
      rw [ab_upn _ _ (by decide)]
      exact b4
    · show ab_up f 7 0 5 = (f 5 + ((0 : Nat) : Int)) % 24
      rw [ab_upn _ _ (by decide)]
      omega
  | succ k ih =>
    obtain ⟨e4, e5, e7, ej⟩ := ih
    refine ⟨?_, ?_, pa_7 e4, fun j a b c d e => ?_⟩
    · show 0 ≤ sp_passAt _ (sp_pc f code 1 n k) 4 ∧ sp_passAt _ (sp_pc f code 1 n k) 4 ≤ 11
      rw [pa_4 e4]
      split
      · exact e4
      · omega
    · show sp_passAt _ (sp_pc f code 1 n k) 5 = _
      rw [pa_5 e4, e5]
      split <;> omega
    · show sp_passAt _ (sp_pc f code 1 n k) j = _
      rw [pa_j e4 a b c d e]
      exact ej j a b c d e
theorem pc_s {B : Int} {f : Int → Int} (hI : sg_ok B f) (code : Int) (n k : Nat) : sp_pc f code 1 n (k + 1) 4 = (sp_pc f code 1 n k 4 + (sp_dig code (n - 1 - k) - 1)) % 12 := by
  obtain ⟨e4, e5, e7, ej⟩ := pc_all hI code n k
  show sp_passAt _ (sp_pc f code 1 n k) 4 = _
  rw [pa_4 e4, if_neg (by omega)]
theorem so_s {B : Int} {f : Int → Int} (hI : sg_ok B f) (code : Int) (n k : Nat) {h : Int} (h0 : 0 ≤ h) (h1 : h < f 1) : sp_so f code n h (k + 1) = sp_so f code n h k + sp_likesAt f h ((f (46 + h) + sp_pc f code 1 n (k + 1) 4) % 12) ((f 5 + ((k : Int) + 1)) % 24) := by
  obtain ⟨e4, e5, e7, ej⟩ := pc_all hI code n (k + 1)
  have b1 := (sg_all hI).2.1
  show sp_so f code n h k + sp_likesOf (sp_pc f code 1 n (k + 1)) h = _
  unfold sp_likesOf sp_facesOf
  rw [ej (46 + h) (by omega) (by omega) (by omega) (by omega) (by omega), e5, li_cg h0 (by omega) (sg_all hI).2.2.1 (fun j hj => ej j (by omega) (by omega) (by omega) (by omega) (by omega))]
  rfl
theorem pc_cg (f : Int → Int) {c1 c2 : Int} {n : Nat} : ∀ k : Nat, (∀ t : Nat, t < k → sp_dig c1 (n - 1 - t) = sp_dig c2 (n - 1 - t)) → sp_pc f c1 1 n k = sp_pc f c2 1 n k
  | 0, _ => rfl
  | k + 1, h => by
    have ih := pc_cg f k (fun t ht => h t (by omega))
    show sp_passAt (sp_dig c1 (n - 1 - k) - 1) (sp_pc f c1 1 n k) = sp_passAt (sp_dig c2 (n - 1 - k) - 1) (sp_pc f c2 1 n k)
    rw [ih, h k (by omega)]
theorem so_cg (f : Int → Int) {c1 c2 : Int} {n : Nat} (x : Int) : ∀ k : Nat, (∀ t : Nat, t < k → sp_dig c1 (n - 1 - t) = sp_dig c2 (n - 1 - t)) → sp_so f c1 n x k = sp_so f c2 n x k
  | 0, _ => rfl
  | k + 1, h => by
    have ih := so_cg f x k (fun t ht => h t (by omega))
    show sp_so f c1 n x k + sp_likesOf (sp_pc f c1 1 n (k + 1)) x = sp_so f c2 n x k + sp_likesOf (sp_pc f c2 1 n (k + 1)) x
    rw [ih, pc_cg f (k + 1) h]
def rw_ (n : Nat) (i : Int) (row : Int → Int) : Prop := ∀ t : Nat, t < n → row (t : Int) = sp_dig i (n - 1 - t) - 1
def wt_ (f : Int → Int) (n : Nat) (i : Int) (m : Nat) (angs had : Int → Int) : Prop := (∀ t : Nat, t ≤ m → angs (t : Int) = sp_pc f i 1 n t 4) ∧ (∀ t : Nat, t ≤ m → ∀ h : Int, 0 ≤ h → h < f 1 → had (7 * (t : Int) + h) = sp_so f i n h t) ∧ ∀ h : Int, 0 ≤ h → h < 7 → had h = 0
theorem wt_nx {f : Int → Int} {n c m : Nat} {i j : Int} {angs had : Int → Int} (h : wt_ f n i m angs had) (hc : c ≤ m) (e : ∀ t : Nat, t < c → sp_dig j (n - 1 - t) = sp_dig i (n - 1 - t)) : wt_ f n j c angs had := by
  obtain ⟨h1, h2, h3⟩ := h
  refine ⟨fun t ht => ?_, fun t ht x x0 x1 => ?_, h3⟩
  · rw [h1 t (by omega), pc_cg f t (fun u hu => e u (by omega))]
  · rw [h2 t (by omega) x x0 x1, so_cg f x t (fun u hu => e u (by omega))]
def pla (p : Nat) (row best : Int → Int) (wv : Int) (angs had : Int → Int) (w : ab_W) : Prop := w[p]? = some (ab_ob 4 [ab_R (p + 1), ab_R (p + 2), ab_I wv, ab_R (p + 3), ab_R (p + 4)]) ∧ w[p + 1]? = some (ab_ai 0 5 row) ∧ w[p + 2]? = some (ab_ai 0 5 best) ∧ w[p + 3]? = some (ab_ai 0 6 angs) ∧ w[p + 4]? = some (ab_ai 0 42 had)
section PLA
variable {p : Nat} {row best angs had g : Int → Int} {wv wo2 : Int} {w : ab_W}
theorem pla_o (h : pla p row best wv angs had w) : pla p row best wo2 angs had (w.set p (ab_ob 4 [ab_R (p + 1), ab_R (p + 2), ab_I wo2, ab_R (p + 3), ab_R (p + 4)])) := ⟨ab_gs h.1, ab_gn h.2.1 (by omega), ab_gn h.2.2.1 (by omega), ab_gn h.2.2.2.1 (by omega), ab_gn h.2.2.2.2 (by omega)⟩
theorem pla_1 (h : pla p row best wv angs had w) : pla p g best wv angs had (w.set (p + 1) (ab_ai 0 5 g)) := ⟨ab_gn h.1 (by omega), ab_gs h.2.1, ab_gn h.2.2.1 (by omega), ab_gn h.2.2.2.1 (by omega), ab_gn h.2.2.2.2 (by omega)⟩
theorem pla_2 (h : pla p row best wv angs had w) : pla p row g wv angs had (w.set (p + 2) (ab_ai 0 5 g)) := ⟨ab_gn h.1 (by omega), ab_gn h.2.1 (by omega), ab_gs h.2.2.1, ab_gn h.2.2.2.1 (by omega), ab_gn h.2.2.2.2 (by omega)⟩
theorem pla_3 (h : pla p row best wv angs had w) : pla p row best wv g had (w.set (p + 3) (ab_ai 0 6 g)) := ⟨ab_gn h.1 (by omega), ab_gn h.2.1 (by omega), ab_gn h.2.2.1 (by omega), ab_gs h.2.2.2.1, ab_gn h.2.2.2.2 (by omega)⟩
theorem pla_4 (h : pla p row best wv angs had w) : pla p row best wv angs g (w.set (p + 4) (ab_ai 0 42 g)) := ⟨ab_gn h.1 (by omega), ab_gn h.2.1 (by omega), ab_gn h.2.2.1 (by omega), ab_gn h.2.2.2.1 (by omega), ab_gs h.2.2.2.2⟩
end PLA
theorem de_Pl_weighFrom_0 : decode prog_6_method_3_code 0 = .ok (.iload_n 2, 1) := by decide +kernel
theorem de_Pl_weighFrom_1 : decode prog_6_method_3_code 1 = .ok (.istore 4, 2) := by decide +kernel
theorem de_Pl_weighFrom_3 : decode prog_6_method_3_code 3 = .ok (.iload 4, 2) := by decide +kernel
theorem de_Pl_weighFrom_5 : decode prog_6_method_3_code 5 = .ok (.iload_n 3, 1) := by decide +kernel
theorem de_Pl_weighFrom_6 : decode prog_6_method_3_code 6 = .ok (.if_icmp .ge 113, 3) := by decide +kernel
theorem de_Pl_weighFrom_9 : decode prog_6_method_3_code 9 = .ok (.aload_n 0, 1) := by decide +kernel
theorem de_Pl_weighFrom_10 : decode prog_6_method_3_code 10 = .ok (.getfield 18, 3) := by decide +kernel
theorem de_Pl_weighFrom_13 : decode prog_6_method_3_code 13 = .ok (.iload 4, 2) := by decide +kernel
theorem de_Pl_weighFrom_15 : decode prog_6_method_3_code 15 = .ok (.iconst 1, 1) := by decide +kernel
theorem de_Pl_weighFrom_16 : decode prog_6_method_3_code 16 = .ok (.iadd, 1) := by decide +kernel
theorem de_Pl_weighFrom_17 : decode prog_6_method_3_code 17 = .ok (.aload_n 0, 1) := by decide +kernel
theorem de_Pl_weighFrom_18 : decode prog_6_method_3_code 18 = .ok (.getfield 18, 3) := by decide +kernel
theorem de_Pl_weighFrom_21 : decode prog_6_method_3_code 21 = .ok (.iload 4, 2) := by decide +kernel
theorem de_Pl_weighFrom_23 : decode prog_6_method_3_code 23 = .ok (.iaload, 1) := by decide +kernel
theorem de_Pl_weighFrom_24 : decode prog_6_method_3_code 24 = .ok (.aload_n 0, 1) := by decide +kernel
theorem de_Pl_weighFrom_25 : decode prog_6_method_3_code 25 = .ok (.getfield 11, 3) := by decide +kernel
theorem de_Pl_weighFrom_28 : decode prog_6_method_3_code 28 = .ok (.iload 4, 2) := by decide +kernel
theorem de_Pl_weighFrom_30 : decode prog_6_method_3_code 30 = .ok (.iaload, 1) := by decide +kernel
theorem de_Pl_weighFrom_31 : decode prog_6_method_3_code 31 = .ok (.iadd, 1) := by decide +kernel
theorem de_Pl_weighFrom_32 : decode prog_6_method_3_code 32 = .ok (.invokestatic 60, 3) := by decide +kernel
theorem de_Pl_weighFrom_35 : decode prog_6_method_3_code 35 = .ok (.iastore, 1) := by decide +kernel
theorem de_Pl_weighFrom_36 : decode prog_6_method_3_code 36 = .ok (.iconst 0, 1) := by decide +kernel
theorem de_Pl_weighFrom_37 : decode prog_6_method_3_code 37 = .ok (.istore 5, 2) := by decide +kernel
theorem de_Pl_weighFrom_39 : decode prog_6_method_3_code 39 = .ok (.iload 5, 2) := by decide +kernel
theorem de_Pl_weighFrom_41 : decode prog_6_method_3_code 41 = .ok (.aload_n 1, 1) := by decide +kernel
theorem de_Pl_weighFrom_42 : decode prog_6_method_3_code 42 = .ok (.getfield 63, 3) := by decide +kernel
theorem de_Pl_weighFrom_45 : decode prog_6_method_3_code 45 = .ok (.if_icmp .ge 68, 3) := by decide +kernel
theorem de_Pl_weighFrom_48 : decode prog_6_method_3_code 48 = .ok (.aload_n 0, 1) := by decide +kernel
theorem de_Pl_weighFrom_49 : decode prog_6_method_3_code 49 = .ok (.getfield 21, 3) := by decide +kernel
theorem de_Pl_weighFrom_52 : decode prog_6_method_3_code 52 = .ok (.iload 4, 2) := by decide +kernel
theorem de_Pl_weighFrom_54 : decode prog_6_method_3_code 54 = .ok (.iconst 1, 1) := by decide +kernel
theorem de_Pl_weighFrom_55 : decode prog_6_method_3_code 55 = .ok (.iadd, 1) := by decide +kernel
theorem de_Pl_weighFrom_56 : decode prog_6_method_3_code 56 = .ok (.bipush 7, 2) := by decide +kernel
theorem de_Pl_weighFrom_58 : decode prog_6_method_3_code 58 = .ok (.imul, 1) := by decide +kernel
theorem de_Pl_weighFrom_59 : decode prog_6_method_3_code 59 = .ok (.iload 5, 2) := by decide +kernel
theorem de_Pl_weighFrom_61 : decode prog_6_method_3_code 61 = .ok (.iadd, 1) := by decide +kernel
theorem de_Pl_weighFrom_62 : decode prog_6_method_3_code 62 = .ok (.aload_n 0, 1) := by decide +kernel
theorem de_Pl_weighFrom_63 : decode prog_6_method_3_code 63 = .ok (.getfield 21, 3) := by decide +kernel
theorem de_Pl_weighFrom_66 : decode prog_6_method_3_code 66 = .ok (.iload 4, 2) := by decide +kernel
theorem de_Pl_weighFrom_68 : decode prog_6_method_3_code 68 = .ok (.bipush 7, 2) := by decide +kernel
theorem de_Pl_weighFrom_70 : decode prog_6_method_3_code 70 = .ok (.imul, 1) := by decide +kernel
theorem de_Pl_weighFrom_71 : decode prog_6_method_3_code 71 = .ok (.iload 5, 2) := by decide +kernel
theorem de_Pl_weighFrom_73 : decode prog_6_method_3_code 73 = .ok (.iadd, 1) := by decide +kernel
theorem de_Pl_weighFrom_74 : decode prog_6_method_3_code 74 = .ok (.iaload, 1) := by decide +kernel
theorem de_Pl_weighFrom_75 : decode prog_6_method_3_code 75 = .ok (.aload_n 1, 1) := by decide +kernel
theorem de_Pl_weighFrom_76 : decode prog_6_method_3_code 76 = .ok (.iload 5, 2) := by decide +kernel
theorem de_Pl_weighFrom_78 : decode prog_6_method_3_code 78 = .ok (.aload_n 1, 1) := by decide +kernel
theorem de_Pl_weighFrom_79 : decode prog_6_method_3_code 79 = .ok (.getfield 66, 3) := by decide +kernel
theorem de_Pl_weighFrom_82 : decode prog_6_method_3_code 82 = .ok (.iload 5, 2) := by decide +kernel
theorem de_Pl_weighFrom_84 : decode prog_6_method_3_code 84 = .ok (.iaload, 1) := by decide +kernel
theorem de_Pl_weighFrom_85 : decode prog_6_method_3_code 85 = .ok (.aload_n 0, 1) := by decide +kernel
theorem de_Pl_weighFrom_86 : decode prog_6_method_3_code 86 = .ok (.getfield 18, 3) := by decide +kernel
theorem de_Pl_weighFrom_89 : decode prog_6_method_3_code 89 = .ok (.iload 4, 2) := by decide +kernel
theorem de_Pl_weighFrom_91 : decode prog_6_method_3_code 91 = .ok (.iconst 1, 1) := by decide +kernel
theorem de_Pl_weighFrom_92 : decode prog_6_method_3_code 92 = .ok (.iadd, 1) := by decide +kernel
theorem de_Pl_weighFrom_93 : decode prog_6_method_3_code 93 = .ok (.iaload, 1) := by decide +kernel
theorem de_Pl_weighFrom_94 : decode prog_6_method_3_code 94 = .ok (.aload_n 1, 1) := by decide +kernel
theorem de_Pl_weighFrom_95 : decode prog_6_method_3_code 95 = .ok (.iload 4, 2) := by decide +kernel
theorem de_Pl_weighFrom_97 : decode prog_6_method_3_code 97 = .ok (.iconst 1, 1) := by decide +kernel
theorem de_Pl_weighFrom_98 : decode prog_6_method_3_code 98 = .ok (.iadd, 1) := by decide +kernel
theorem de_Pl_weighFrom_99 : decode prog_6_method_3_code 99 = .ok (.invokevirtual 69, 3) := by decide +kernel
theorem de_Pl_weighFrom_102 : decode prog_6_method_3_code 102 = .ok (.invokevirtual 72, 3) := by decide +kernel
theorem de_Pl_weighFrom_105 : decode prog_6_method_3_code 105 = .ok (.iadd, 1) := by decide +kernel
theorem de_Pl_weighFrom_106 : decode prog_6_method_3_code 106 = .ok (.iastore, 1) := by decide +kernel
theorem de_Pl_weighFrom_107 : decode prog_6_method_3_code 107 = .ok (.iinc 5 1, 3) := by decide +kernel
theorem de_Pl_weighFrom_110 : decode prog_6_method_3_code 110 = .ok (.goto (-71), 3) := by decide +kernel
theorem de_Pl_weighFrom_113 : decode prog_6_method_3_code 113 = .ok (.iinc 4 1, 3) := by decide +kernel
theorem de_Pl_weighFrom_116 : decode prog_6_method_3_code 116 = .ok (.goto (-113), 3) := by decide +kernel
theorem de_Pl_weighFrom_119 : decode prog_6_method_3_code 119 = .ok (.return_, 1) := by decide +kernel
set_option maxHeartbeats 4000000 in
set_option maxRecDepth 10000 in
theorem lh_Pl_weighFrom {o p : Nat} {f : Int → Int} {x B : Int} {w0 : ab_W} (hI : sg_ok B f) (hRb : ri_at_j o f x w0) (hdj : o + 13 ≤ p ∨ p + 5 ≤ o) (n : Nat) (hn0 : 1 ≤ n) (hn1 : n ≤ 5) (i : Int) (row best : Int → Int) (wv : Int) (t : Nat) (ht : t < n) (cc : Option ab_V) (Q : Option ab_V → ab_W → Prop) (hq : ∀ (angs had : Int → Int) (x5 : Option ab_V) (w : ab_W), pla p row best wv angs had w → wt_ f n i (t + 1) angs had → fr_at p 5 w0 w → ab_Ev g_G g_rs mt_Pl_weighFrom 2 0 0 113 [some (ab_R p), some (ab_R o), cc, some (ab_I (n : Int)), some (ab_I (t : Int)), x5] [] w Q) : ∀ (n0 : Nat) (h : Nat) (angs had : Int → Int) (w : ab_W), (h : Int) ≤ f 1 → f 1 < h + n0 → pla p row best wv angs had w → wt_ f n i t angs had → (∀ h' : Int, 0 ≤ h' → h' < (h : Int) → had (7 * ((t : Int) + 1) + h') = sp_so f i n h' (t + 1)) → angs ((t : Int) + 1) = sp_pc f i 1 n (t + 1) 4 → fr_at p 5 w0 w → ab_Ev g_G g_rs mt_Pl_weighFrom 2 0 0 39 [some (ab_R p), some (ab_R o), cc, some (ab_I (n : Int)), some (ab_I (t : Int)), some (ab_I (h : Int))] [] w Q := by
  intro n0
  induction n0 with
  | zero =>
    intro h angs had w
    intro y1 y2 hG hT hP hA hf; omega
  | succ n0 ih =>
    intro h angs had w
    intro y1 y2 hG hT hP hA hf
    obtain ⟨p0, p1, p2, p3, p4⟩ := id hG
    have hRw := rj_fr hRb hf (by omega)
    have hR := hRw
    obtain ⟨sl, fs, vo, li, ra, wo, dh, da, hzz⟩ := hR
    obtain ⟨ds, dn, vw, q0, q1, q2, q3, q4, hzz⟩ := hzz
    obtain ⟨q5, q6, q7, q8, q9, q10, q11, q12, hzz⟩ := hzz
    obtain ⟨e1, e2, e3, e4, e5, e6, e7, e8, e9⟩ := hzz
    obtain ⟨i0, i1, i2, i3, i4, i5, i6, i7, hzz⟩ := sg_all hI
    obtain ⟨i8, i9, i10, i11, i12, i13, i14, i15, hzz⟩ := hzz
    obtain ⟨i16, i17⟩ := hzz
    obtain ⟨t1, t2, t3⟩ := hT
    have ap := (pc_all hI i n (t + 1)).1
    refine ev_iload de_Pl_weighFrom_39 rfl ?_
    refine ev_aload_n de_Pl_weighFrom_41 rfl rfl ?_
    refine ev_getfield de_Pl_weighFrom_42 q0 fl_Pl_63 rfl ?_
    refine ev_icmp_ge (tgt := 113) de_Pl_weighFrom_45 (by decide) (by omega) (by omega) (fun h45 => ?_) (fun h45 => ?_)
    · skip
      have eh : (h : Int) = f 1 := by omega
      exact hq _ _ _ _ hG ⟨fun u hu => by rcases Nat.lt_or_ge u (t + 1) with z | z; (exact t1 u (by omega)); (rw [show u = t + 1 by omega]; exact hA), fun u hu y y0 y1 => by rcases Nat.lt_or_ge u (t + 1) with z | z; (exact t2 u (by omega) y y0 y1); (rw [show u = t + 1 by omega]; exact hP y y0 (by omega)), t3⟩ hf
    · skip
      have z2 := (e2 (h : Int) (by omega) (by omega)).1
      have z1 := (e1 (h : Int) (by omega) (by omega)).1
      have th := t2 t (Nat.le_refl _) (h : Int) (by omega) (by omega)
      refine ev_aload_n de_Pl_weighFrom_48 rfl rfl ?_
      refine ev_getfield de_Pl_weighFrom_49 p0 fl_Pl_21 rfl ?_
      refine ev_iload de_Pl_weighFrom_52 rfl ?_
      refine ev_iconst de_Pl_weighFrom_54 ?_
      refine ev_iadd de_Pl_weighFrom_55 ?_
      refine ev_bipush de_Pl_weighFrom_56 rfl ?_
      refine ev_imul de_Pl_weighFrom_58 ?_
      refine ev_iload de_Pl_weighFrom_59 rfl ?_
      refine ev_iadd de_Pl_weighFrom_61 ?_
      refine ev_top (congrArg Sum.inl (show _ = 7 * ((t : Int) + 1) + (h : Int) by omega)) ?_
      refine ev_aload_n de_Pl_weighFrom_62 rfl rfl ?_
      refine ev_getfield de_Pl_weighFrom_63 p0 fl_Pl_21 rfl ?_
      refine ev_iload de_Pl_weighFrom_66 rfl ?_
      refine ev_bipush de_Pl_weighFrom_68 rfl ?_
      refine ev_imul de_Pl_weighFrom_70 ?_
      refine ev_iload de_Pl_weighFrom_71 rfl ?_
      refine ev_iadd de_Pl_weighFrom_73 ?_
      refine ev_top (congrArg Sum.inl (show _ = 7 * (t : Int) + (h : Int) by omega)) ?_
      refine ev_iaload de_Pl_weighFrom_74 p4 (by omega) (by omega) (by omega) ?_
      refine ev_top (congrArg Sum.inl th) ?_
      refine ev_aload_n de_Pl_weighFrom_75 rfl rfl ?_
      refine ev_iload de_Pl_weighFrom_76 rfl ?_
      refine ev_aload_n de_Pl_weighFrom_78 rfl rfl ?_
      refine ev_getfield de_Pl_weighFrom_79 q0 fl_Pl_66 rfl ?_
      refine ev_iload de_Pl_weighFrom_82 rfl ?_
      refine ev_iaload de_Pl_weighFrom_84 q1 (by omega) (by omega) (by omega) ?_
      refine ev_top (congrArg Sum.inl z2) ?_
      refine ev_aload_n de_Pl_weighFrom_85 rfl rfl ?_
      refine ev_getfield de_Pl_weighFrom_86 p0 fl_Pl_18 rfl ?_
      refine ev_iload de_Pl_weighFrom_89 rfl ?_
      refine ev_iconst de_Pl_weighFrom_91 ?_
      refine ev_iadd de_Pl_weighFrom_92 ?_
      refine ev_iaload de_Pl_weighFrom_93 p3 (by omega) (by omega) (by omega) ?_
      refine ev_top (congrArg Sum.inl hA) ?_
      refine ev_aload_n de_Pl_weighFrom_94 rfl rfl ?_
      refine ev_iload de_Pl_weighFrom_95 rfl ?_
      refine ev_iconst de_Pl_weighFrom_97 ?_
      refine ev_iadd de_Pl_weighFrom_98 ?_
      refine ev_vv (ci := 5) de_Pl_weighFrom_99 (co_Ri_hourOn_j hI hRw _ (by omega) (by omega)) kb_Pl_69 ⟨im_Ri_hourOn, se_Ri_hourOn⟩ rfl q0 rfl (Nat.le_of_ble_eq_true rfl) (by decide) rfl ?_
      refine ev_vv (ci := 5) de_Pl_weighFrom_102 (co_Ri_likesIn_j hI hRw _ _ _ _ (by omega) (by omega) (by omega) (by omega) (by omega) (by omega) (by omega) (by omega)) kb_Pl_72 ⟨im_Ri_likesIn, se_Ri_likesIn⟩ rfl q0 rfl (Nat.le_of_ble_eq_true rfl) (by decide) rfl ?_
      refine ev_iadd de_Pl_weighFrom_105 ?_
      have eV : sp_so f i n (h : Int) t + sp_likesAt f (h : Int) ((f (46 + (h : Int)) + sp_pc f i 1 n (t + 1) 4) % 12) ((f 5 + ((t : Int) + 1)) % 24) = sp_so f i n (h : Int) (t + 1) := (so_s hI i n t (by omega) (by omega)).symm
      refine ev_iastore de_Pl_weighFrom_106 p4 (by omega) (by omega) (by omega) ?_
      refine ev_gen (P := fun w1 => pla p row best wv angs (ab_up had (7 * ((t : Int) + 1) + (h : Int)) (sp_so f i n (h : Int) t + sp_likesAt f (h : Int) ((f (46 + (h : Int)) + sp_pc f i 1 n (t + 1) 4) % 12) ((f 5 + ((t : Int) + 1)) % 24))) w1 ∧ fr_at p 5 w0 w1) ⟨pla_4 hG, fr_set hf (by omega) (by omega)⟩ (fun w1 hm1 => ?_)
      obtain ⟨hG, hf⟩ := hm1
      have hRw := rj_fr hRb hf (by omega)
      have hR := hRw
      obtain ⟨sl, fs, vo, li, ra, wo, dh, da, hzz⟩ := hR
      obtain ⟨ds, dn, vw, q0, q1, q2, q3, q4, hzz⟩ := hzz
      obtain ⟨q5, q6, q7, q8, q9, q10, q11, q12, hzz⟩ := hzz
      obtain ⟨e1, e2, e3, e4, e5, e6, e7, e8, e9⟩ := hzz
      obtain ⟨p0, p1, p2, p3, p4⟩ := id hG
      refine ev_iinc (l' := [_, _, _, _, _, _]) de_Pl_weighFrom_107 rfl rfl ?_
      refine ev_goto (tgt := 39) de_Pl_weighFrom_110 (by decide) ?_
      exact ih (h + 1) _ _ _ (by omega) (by omega) hG ⟨t1, fun u hu y y0 y1 => by rw [ab_upn _ _ (by omega)]; exact t2 u hu y y0 y1, fun y y0 y1 => by rw [ab_upn _ _ (by omega)]; exact t3 y y0 y1⟩ (fun y y0 y1 => by by_cases e : y = (h : Int); (subst e; rw [ab_upe]; exact eV); (rw [ab_upn _ _ (by omega)]; exact hP y y0 (by omega))) hA hf
set_option maxHeartbeats 4000000 in
set_option maxRecDepth 10000 in
theorem lo_Pl_weighFrom {o p : Nat} {f : Int → Int} {x B : Int} {w0 : ab_W} (hI : sg_ok B f) (hRb : ri_at_j o f x w0) (hdj : o + 13 ≤ p ∨ p + 5 ≤ o) (n : Nat) (hn0 : 1 ≤ n) (hn1 : n ≤ 5) (i : Int) {row : Int → Int} (best : Int → Int) (wv : Int) (hrow : rw_ n i row) (cc : Option ab_V) : ∀ (n0 : Nat) (t : Nat) (x5 : Option ab_V) (angs had : Int → Int) (w : ab_W), t ≤ n → n < t + n0 → pla p row best wv angs had w → wt_ f n i t angs had → fr_at p 5 w0 w → ab_Ev g_G g_rs mt_Pl_weighFrom 2 0 0 3 [some (ab_R p), some (ab_R o), cc, some (ab_I (n : Int)), some (ab_I (t : Int)), x5] [] w (fun r w2 => r = none ∧ (∃ angs had : Int → Int, pla p row best wv angs had w2 ∧ wt_ f n i n angs had) ∧ fr_at p 5 w0 w2) := by
  intro n0
  induction n0 with
  | zero =>
    intro t x5 angs had w
    intro y1 y2 hG hT hf; omega
  | succ n0 ih =>
    intro t x5 angs had w
    intro y1 y2 hG hT hf
    obtain ⟨p0, p1, p2, p3, p4⟩ := id hG
    have hRw := rj_fr hRb hf (by omega)
    have hR := hRw
    obtain ⟨sl, fs, vo, li, ra, wo, dh, da, hzz⟩ := hR
    obtain ⟨ds, dn, vw, q0, q1, q2, q3, q4, hzz⟩ := hzz
    obtain ⟨q5, q6, q7, q8, q9, q10, q11, q12, hzz⟩ := hzz
    obtain ⟨e1, e2, e3, e4, e5, e6, e7, e8, e9⟩ := hzz
    obtain ⟨i0, i1, i2, i3, i4, i5, i6, i7, hzz⟩ := sg_all hI
    obtain ⟨i8, i9, i10, i11, i12, i13, i14, i15, hzz⟩ := hzz
    obtain ⟨i16, i17⟩ := hzz
    obtain ⟨t1, t2, t3⟩ := id hT
    refine ev_iload de_Pl_weighFrom_3 rfl ?_
    refine ev_iload_n de_Pl_weighFrom_5 rfl rfl ?_
    refine ev_icmp_ge (tgt := 119) de_Pl_weighFrom_6 (by decide) (by omega) (by omega) (fun h6 => ?_) (fun h6 => ?_)
    · skip
      have et : t = n := by omega
      subst et
      exact ev_return de_Pl_weighFrom_119 rfl ⟨rfl, ⟨_, _, hG, hT⟩, hf⟩
    · skip
      have ta := t1 t (Nat.le_refl _)
      have tr := hrow t (by omega)
      have ap := (pc_all hI i n t).1
      have db : -1 ≤ sp_dig i (n - 1 - t) - 1 ∧ sp_dig i (n - 1 - t) - 1 ≤ 1 := by have := dg_b i (n - 1 - t); omega
      refine ev_aload_n de_Pl_weighFrom_9 rfl rfl ?_
      refine ev_getfield de_Pl_weighFrom_10 p0 fl_Pl_18 rfl ?_
      refine ev_iload de_Pl_weighFrom_13 rfl ?_
      refine ev_iconst de_Pl_weighFrom_15 ?_
      refine ev_iadd de_Pl_weighFrom_16 ?_
      refine ev_aload_n de_Pl_weighFrom_17 rfl rfl ?_
      refine ev_getfield de_Pl_weighFrom_18 p0 fl_Pl_18 rfl ?_
      refine ev_iload de_Pl_weighFrom_21 rfl ?_
      refine ev_iaload de_Pl_weighFrom_23 p3 (by omega) (by omega) (by omega) ?_
      refine ev_top (congrArg Sum.inl ta) ?_
      refine ev_aload_n de_Pl_weighFrom_24 rfl rfl ?_
      refine ev_getfield de_Pl_weighFrom_25 p0 fl_Pl_11 rfl ?_
      refine ev_iload de_Pl_weighFrom_28 rfl ?_
      refine ev_iaload de_Pl_weighFrom_30 p1 (by omega) (by omega) (by omega) ?_
      refine ev_top (congrArg Sum.inl tr) ?_
      refine ev_iadd de_Pl_weighFrom_31 ?_
      refine ev_sv de_Pl_weighFrom_32 (co_Tu_wrapped _ _ (by omega)) kb_Pl_60 sc_Tu_wrapped rfl (Nat.le_of_ble_eq_true rfl) (by decide) rfl ?_
      refine ev_top (congrArg Sum.inl (pc_s hI i n t).symm) ?_
      refine ev_iastore de_Pl_weighFrom_35 p3 (by omega) (by omega) (by omega) ?_
      refine ev_gen (P := fun w1 => pla p row best wv (ab_up angs ((t : Int) + 1) (sp_pc f i 1 n (t + 1) 4)) had w1 ∧ fr_at p 5 w0 w1) ⟨pla_3 hG, fr_set hf (by omega) (by omega)⟩ (fun w1 hm1 => ?_)
      obtain ⟨hG, hf⟩ := hm1
      have hRw := rj_fr hRb hf (by omega)
      have hR := hRw
      obtain ⟨sl, fs, vo, li, ra, wo, dh, da, hzz⟩ := hR
      obtain ⟨ds, dn, vw, q0, q1, q2, q3, q4, hzz⟩ := hzz
      obtain ⟨q5, q6, q7, q8, q9, q10, q11, q12, hzz⟩ := hzz
      obtain ⟨e1, e2, e3, e4, e5, e6, e7, e8, e9⟩ := hzz
      obtain ⟨p0, p1, p2, p3, p4⟩ := id hG
      refine ev_iconst de_Pl_weighFrom_36 ?_
      refine ev_istore (l' := [_, _, _, _, _, _]) de_Pl_weighFrom_37 (Nat.le_of_ble_eq_true rfl) rfl ?_
      refine lh_Pl_weighFrom hI hRb hdj n hn0 hn1 i row best wv t (by omega) _ _ (fun angs had x5 w hG hT hf => ?_) 8 0 _ had w1 (by omega) (by omega) hG ⟨fun u hu => by rw [ab_upn _ _ (by omega)]; exact t1 u hu, t2, t3⟩ (fun y y0 y1 => by omega) (ab_upe _ _ _) hf
      refine ev_iinc (l' := [_, _, _, _, _, _]) de_Pl_weighFrom_113 rfl rfl ?_
      refine ev_goto (tgt := 3) de_Pl_weighFrom_116 (by decide) ?_
      exact ih (t + 1) _ _ _ _ (by omega) (by omega) hG hT hf
set_option maxHeartbeats 4000000 in
set_option maxRecDepth 10000 in
theorem co_Pl_weighFrom {o p : Nat} {f : Int → Int} {x B : Int} {w0 : ab_W} (hI : sg_ok B f) (hRb : ri_at_j o f x w0) (hdj : o + 13 ≤ p ∨ p + 5 ≤ o) (n : Nat) (hn0 : 1 ≤ n) (hn1 : n ≤ 5) (i : Int) {row : Int → Int} (best : Int → Int) (wv : Int) (hrow : rw_ n i row) (c : Nat) (hc : c ≤ n) {angs had : Int → Int} (hG : pla p row best wv angs had w0) (hT : wt_ f n i c angs had) : ab_Mt g_G g_rs mt_Pl_weighFrom 2 0 0 [ab_R p, ab_R o, ab_I (c : Int), ab_I (n : Int)] w0 (fun r w2 => r = none ∧ (∃ angs had : Int → Int, pla p row best wv angs had w2 ∧ wt_ f n i n angs had) ∧ fr_at p 5 w0 w2) := by
  refine ab_Mt.of rfl (Nat.le_of_ble_eq_true rfl) ?_
  show ab_Ev g_G g_rs mt_Pl_weighFrom _ _ _ 0 [some (ab_R p), some (ab_R o), some (ab_I (c : Int)), some (ab_I (n : Int)), none, none] [] _ _
  refine ev_iload_n de_Pl_weighFrom_0 rfl rfl ?_
  refine ev_istore (l' := [_, _, _, _, _, _]) de_Pl_weighFrom_1 (Nat.le_of_ble_eq_true rfl) rfl ?_
  exact lo_Pl_weighFrom hI hRb hdj n hn0 hn1 i best wv hrow _ (n + 1) c _ _ _ w0 hc (by omega) hG hT fr_0
theorem de_Pl_nextRow_0 : decode prog_6_method_4_code 0 = .ok (.iload_n 1, 1) := by decide +kernel
theorem de_Pl_nextRow_1 : decode prog_6_method_4_code 1 = .ok (.iconst 1, 1) := by decide +kernel
theorem de_Pl_nextRow_2 : decode prog_6_method_4_code 2 = .ok (.isub, 1) := by decide +kernel
theorem de_Pl_nextRow_3 : decode prog_6_method_4_code 3 = .ok (.istore_n 2, 1) := by decide +kernel
theorem de_Pl_nextRow_4 : decode prog_6_method_4_code 4 = .ok (.iload_n 2, 1) := by decide +kernel
theorem de_Pl_nextRow_5 : decode prog_6_method_4_code 5 = .ok (.ifCond .lt 38, 3) := by decide +kernel
theorem de_Pl_nextRow_8 : decode prog_6_method_4_code 8 = .ok (.aload_n 0, 1) := by decide +kernel
theorem de_Pl_nextRow_9 : decode prog_6_method_4_code 9 = .ok (.getfield 11, 3) := by decide +kernel
theorem de_Pl_nextRow_12 : decode prog_6_method_4_code 12 = .ok (.iload_n 2, 1) := by decide +kernel
theorem de_Pl_nextRow_13 : decode prog_6_method_4_code 13 = .ok (.iaload, 1) := by decide +kernel
theorem de_Pl_nextRow_14 : decode prog_6_method_4_code 14 = .ok (.iconst 1, 1) := by decide +kernel
theorem de_Pl_nextRow_15 : decode prog_6_method_4_code 15 = .ok (.if_icmp .ge 15, 3) := by decide +kernel
theorem de_Pl_nextRow_18 : decode prog_6_method_4_code 18 = .ok (.aload_n 0, 1) := by decide +kernel
theorem de_Pl_nextRow_19 : decode prog_6_method_4_code 19 = .ok (.getfield 11, 3) := by decide +kernel
theorem de_Pl_nextRow_22 : decode prog_6_method_4_code 22 = .ok (.iload_n 2, 1) := by decide +kernel
theorem de_Pl_nextRow_23 : decode prog_6_method_4_code 23 = .ok (.dup2, 1) := by decide +kernel
theorem de_Pl_nextRow_24 : decode prog_6_method_4_code 24 = .ok (.iaload, 1) := by decide +kernel
theorem de_Pl_nextRow_25 : decode prog_6_method_4_code 25 = .ok (.iconst 1, 1) := by decide +kernel
theorem de_Pl_nextRow_26 : decode prog_6_method_4_code 26 = .ok (.iadd, 1) := by decide +kernel
theorem de_Pl_nextRow_27 : decode prog_6_method_4_code 27 = .ok (.iastore, 1) := by decide +kernel
theorem de_Pl_nextRow_28 : decode prog_6_method_4_code 28 = .ok (.iload_n 2, 1) := by decide +kernel
theorem de_Pl_nextRow_29 : decode prog_6_method_4_code 29 = .ok (.ireturn, 1) := by decide +kernel
theorem de_Pl_nextRow_30 : decode prog_6_method_4_code 30 = .ok (.aload_n 0, 1) := by decide +kernel
theorem de_Pl_nextRow_31 : decode prog_6_method_4_code 31 = .ok (.getfield 11, 3) := by decide +kernel
theorem de_Pl_nextRow_34 : decode prog_6_method_4_code 34 = .ok (.iload_n 2, 1) := by decide +kernel
theorem de_Pl_nextRow_35 : decode prog_6_method_4_code 35 = .ok (.iconst (-1), 1) := by decide +kernel
theorem de_Pl_nextRow_36 : decode prog_6_method_4_code 36 = .ok (.iastore, 1) := by decide +kernel
theorem de_Pl_nextRow_37 : decode prog_6_method_4_code 37 = .ok (.iinc 2 (-1), 3) := by decide +kernel
theorem de_Pl_nextRow_40 : decode prog_6_method_4_code 40 = .ok (.goto (-36), 3) := by decide +kernel
theorem de_Pl_nextRow_43 : decode prog_6_method_4_code 43 = .ok (.iconst (-1), 1) := by decide +kernel
theorem de_Pl_nextRow_44 : decode prog_6_method_4_code 44 = .ok (.ireturn, 1) := by decide +kernel
set_option maxHeartbeats 4000000 in
set_option maxRecDepth 10000 in
theorem lo_Pl_nextRow {p : Nat} {w0 : ab_W} (n : Nat) (hn0 : 1 ≤ n) (hn1 : n ≤ 5) (i : Nat) (hi : i < 3 ^ n) (best angs had : Int → Int) (wv : Int) : ∀ (k : Nat) (row : Int → Int) (w : ab_W), k ≤ n → pla p row best wv angs had w → (∀ t : Nat, t < n → (t < k → row (t : Int) = sp_dig (i : Int) (n - 1 - t) - 1) ∧ (k ≤ t → row (t : Int) = -1 ∧ sp_dig (i : Int) (n - 1 - t) = 2)) → fr_at p 5 w0 w → ab_Ev g_G g_rs mt_Pl_nextRow 0 0 0 4 [some (ab_R p), some (ab_I (n : Int)), some (ab_I ((k : Int) - 1))] [] w (fun r w2 => ∃ (row : Int → Int) (c : Int), r = some (ab_I c) ∧ pla p row best wv angs had w2 ∧ fr_at p 5 w0 w2 ∧ (c = -1 ∧ i + 1 = 3 ^ n ∨ (0 ≤ c ∧ c < n) ∧ i + 1 < 3 ^ n ∧ rw_ n ((i : Int) + 1) row ∧ ∀ t : Nat, (t : Int) < c → sp_dig ((i : Int) + 1) (n - 1 - t) = sp_dig (i : Int) (n - 1 - t))) := by
  intro k
  induction k with
  | zero =>
    intro row w hk hG hN hf
    obtain ⟨p0, p1, p2, p3, p4⟩ := id hG
    refine ev_iload_n de_Pl_nextRow_4 rfl rfl ?_
    refine ev_if_lt (tgt := 43) de_Pl_nextRow_5 (by decide) (by omega) (fun h5 => ?_) (fun h5 => ?_)
    · skip
      refine ev_iconst de_Pl_nextRow_43 ?_
      exact ev_ireturn de_Pl_nextRow_44 rfl ⟨_, _, rfl, hG, hf, Or.inl ⟨rfl, nx_end hn1 hi (fun e he => by have q := (hN (n - 1 - e) (by omega)).2 (Nat.zero_le _); rw [show n - 1 - (n - 1 - e) = e by omega] at q; exact q.2)⟩⟩
    · skip
      exact absurd h5 (by decide)
  | succ k ih =>
    intro row w hk hG hN hf
    obtain ⟨p0, p1, p2, p3, p4⟩ := id hG
    rw [show (((k + 1 : Nat) : Int) - 1) = (k : Int) by omega]
    have hkr := (hN k (by omega)).1 (by omega)
    have db := dg_b (i : Int) (n - 1 - k)
    have h2 : ∀ e : Nat, e < n - 1 - k → sp_dig (i : Int) e = 2 := fun e he => by have q := (hN (n - 1 - e) (by omega)).2 (by omega); rw [show n - 1 - (n - 1 - e) = e by omega] at q; exact q.2
    refine ev_iload_n de_Pl_nextRow_4 rfl rfl ?_
    refine ev_if_lt (tgt := 43) de_Pl_nextRow_5 (by decide) (by omega) (fun h5 => ?_) (fun h5 => ?_)
    · skip
      exact absurd h5 (by omega)
    · skip
      refine ev_aload_n de_Pl_nextRow_8 rfl rfl ?_
      refine ev_getfield de_Pl_nextRow_9 p0 fl_Pl_11 rfl ?_
      refine ev_iload_n de_Pl_nextRow_12 rfl rfl ?_
      refine ev_iaload de_Pl_nextRow_13 p1 (by omega) (by omega) (by omega) ?_
      refine ev_top (congrArg Sum.inl hkr) ?_
      refine ev_iconst de_Pl_nextRow_14 ?_
      refine ev_icmp_ge (tgt := 30) de_Pl_nextRow_15 (by decide) (by omega) (by omega) (fun h15 => ?_) (fun h15 => ?_)
      · skip
        have e2d : sp_dig (i : Int) (n - 1 - k) = 2 := by omega
        refine ev_aload_n de_Pl_nextRow_30 rfl rfl ?_
        refine ev_getfield de_Pl_nextRow_31 p0 fl_Pl_11 rfl ?_
        refine ev_iload_n de_Pl_nextRow_34 rfl rfl ?_
        refine ev_iconst de_Pl_nextRow_35 ?_
        refine ev_iastore de_Pl_nextRow_36 p1 (by omega) (by omega) (by omega) ?_
        refine ev_gen (P := fun w1 => pla p (ab_up row (k : Int) (-1)) best wv angs had w1 ∧ fr_at p 5 w0 w1) ⟨pla_1 hG, fr_set hf (by omega) (by omega)⟩ (fun w1 hm1 => ?_)
        obtain ⟨hG, hf⟩ := hm1
        obtain ⟨p0, p1, p2, p3, p4⟩ := id hG
        refine ev_iinc (l' := [_, _, _]) de_Pl_nextRow_37 rfl rfl ?_
        refine ev_goto (tgt := 4) de_Pl_nextRow_40 (by decide) ?_
        exact ih _ _ (by omega) hG (fun t ht => ⟨fun z => by rw [ab_upn _ _ (by omega)]; exact (hN t ht).1 (by omega), fun z => by by_cases e : t = k; (subst e; rw [ab_upe]; exact ⟨rfl, e2d⟩); (rw [ab_upn _ _ (by omega)]; exact (hN t ht).2 (by omega))⟩) hf
      · skip
        obtain ⟨d1, d2, d3⟩ := nx_d (i := (i : Int)) (m := n - 1 - k) (by omega) (by omega) h2 (by omega)
        have d9 := nx_lt hn1 hi (m := n - 1 - k) (by omega) (by omega)
        refine ev_aload_n de_Pl_nextRow_18 rfl rfl ?_
        refine ev_getfield de_Pl_nextRow_19 p0 fl_Pl_11 rfl ?_
        refine ev_iload_n de_Pl_nextRow_22 rfl rfl ?_
        refine ev_dup2 de_Pl_nextRow_23 rfl rfl ?_
        refine ev_iaload de_Pl_nextRow_24 p1 (by omega) (by omega) (by omega) ?_
        refine ev_top (congrArg Sum.inl hkr) ?_
        refine ev_iconst de_Pl_nextRow_25 ?_
        refine ev_iadd de_Pl_nextRow_26 ?_
        refine ev_iastore de_Pl_nextRow_27 p1 (by omega) (by omega) (by omega) ?_
        refine ev_gen (P := fun w1 => pla p (ab_up row (k : Int) (sp_dig (i : Int) (n - 1 - k) - 1 + 1)) best wv angs had w1 ∧ fr_at p 5 w0 w1) ⟨pla_1 hG, fr_set hf (by omega) (by omega)⟩ (fun w1 hm1 => ?_)
        obtain ⟨hG, hf⟩ := hm1
        obtain ⟨p0, p1, p2, p3, p4⟩ := id hG
        refine ev_iload_n de_Pl_nextRow_28 rfl rfl ?_
        exact ev_ireturn de_Pl_nextRow_29 rfl ⟨_, _, rfl, hG, hf, Or.inr ⟨⟨by omega, by omega⟩, d9, fun t ht => (by rcases Nat.lt_trichotomy t k with z | z | z; (rw [ab_upn _ _ (by omega), (hN t ht).1 (by omega), d3 (n - 1 - t) (by omega) (by omega)]); (subst z; rw [ab_upe, d2]; omega); (rw [ab_upn _ _ (by omega), ((hN t ht).2 (by omega)).1, d1 (n - 1 - t) (by omega)]; rfl)), fun t ht => d3 (n - 1 - t) (by omega) (by omega)⟩⟩
set_option maxRecDepth 10000 in
theorem co_Pl_nextRow {p : Nat} {w0 : ab_W} (n : Nat) (hn0 : 1 ≤ n) (hn1 : n ≤ 5) (i : Nat) (hi : i < 3 ^ n) (best angs had : Int → Int) (wv : Int) {row : Int → Int} (hG : pla p row best wv angs had w0) (hr : rw_ n (i : Int) row) : ab_Mt g_G g_rs mt_Pl_nextRow 0 0 0 [ab_R p, ab_I (n : Int)] w0 (fun r w2 => ∃ (row : Int → Int) (c : Int), r = some (ab_I c) ∧ pla p row best wv angs had w2 ∧ fr_at p 5 w0 w2 ∧ (c = -1 ∧ i + 1 = 3 ^ n ∨ (0 ≤ c ∧ c < n) ∧ i + 1 < 3 ^ n ∧ rw_ n ((i : Int) + 1) row ∧ ∀ t : Nat, (t : Int) < c → sp_dig ((i : Int) + 1) (n - 1 - t) = sp_dig (i : Int) (n - 1 - t))) := by
  refine ab_Mt.of rfl (Nat.le_of_ble_eq_true rfl) ?_
  show ab_Ev g_G g_rs mt_Pl_nextRow _ _ _ 0 [some (ab_R p), some (ab_I (n : Int)), none] [] _ _
  refine ev_iload_n de_Pl_nextRow_0 rfl rfl ?_
  refine ev_iconst de_Pl_nextRow_1 ?_
  refine ev_isub de_Pl_nextRow_2 ?_
  refine ev_istore_n (l' := [_, _, _]) de_Pl_nextRow_3 rfl (Nat.le_of_ble_eq_true rfl) rfl ?_
  exact lo_Pl_nextRow n hn0 hn1 i hi best angs had wv n row w0 (Nat.le_refl _) hG (fun t ht => ⟨fun _ => hr t ht, fun z => absurd z (by omega)⟩) fr_0
theorem de_Pl_allHad_0 : decode prog_6_method_5_code 0 = .ok (.iconst 0, 1) := by decide +kernel
theorem de_Pl_allHad_1 : decode prog_6_method_5_code 1 = .ok (.istore_n 3, 1) := by decide +kernel
theorem de_Pl_allHad_2 : decode prog_6_method_5_code 2 = .ok (.iconst 0, 1) := by decide +kernel
theorem de_Pl_allHad_3 : decode prog_6_method_5_code 3 = .ok (.istore 4, 2) := by decide +kernel
theorem de_Pl_allHad_5 : decode prog_6_method_5_code 5 = .ok (.iload 4, 2) := by decide +kernel
theorem de_Pl_allHad_7 : decode prog_6_method_5_code 7 = .ok (.aload_n 1, 1) := by decide +kernel
theorem de_Pl_allHad_8 : decode prog_6_method_5_code 8 = .ok (.getfield 63, 3) := by decide +kernel
theorem de_Pl_allHad_11 : decode prog_6_method_5_code 11 = .ok (.if_icmp .ge 24, 3) := by decide +kernel
theorem de_Pl_allHad_14 : decode prog_6_method_5_code 14 = .ok (.iload_n 3, 1) := by decide +kernel
theorem de_Pl_allHad_15 : decode prog_6_method_5_code 15 = .ok (.aload_n 0, 1) := by decide +kernel
theorem de_Pl_allHad_16 : decode prog_6_method_5_code 16 = .ok (.getfield 21, 3) := by decide +kernel
theorem de_Pl_allHad_19 : decode prog_6_method_5_code 19 = .ok (.iload_n 2, 1) := by decide +kernel
theorem de_Pl_allHad_20 : decode prog_6_method_5_code 20 = .ok (.bipush 7, 2) := by decide +kernel
theorem de_Pl_allHad_22 : decode prog_6_method_5_code 22 = .ok (.imul, 1) := by decide +kernel
theorem de_Pl_allHad_23 : decode prog_6_method_5_code 23 = .ok (.iload 4, 2) := by decide +kernel
theorem de_Pl_allHad_25 : decode prog_6_method_5_code 25 = .ok (.iadd, 1) := by decide +kernel
theorem de_Pl_allHad_26 : decode prog_6_method_5_code 26 = .ok (.iaload, 1) := by decide +kernel
theorem de_Pl_allHad_27 : decode prog_6_method_5_code 27 = .ok (.iadd, 1) := by decide +kernel
theorem de_Pl_allHad_28 : decode prog_6_method_5_code 28 = .ok (.istore_n 3, 1) := by decide +kernel
theorem de_Pl_allHad_29 : decode prog_6_method_5_code 29 = .ok (.iinc 4 1, 3) := by decide +kernel
theorem de_Pl_allHad_32 : decode prog_6_method_5_code 32 = .ok (.goto (-27), 3) := by decide +kernel
theorem de_Pl_allHad_35 : decode prog_6_method_5_code 35 = .ok (.iload_n 3, 1) := by decide +kernel
theorem de_Pl_allHad_36 : decode prog_6_method_5_code 36 = .ok (.ireturn, 1) := by decide +kernel
set_option maxHeartbeats 4000000 in
set_option maxRecDepth 10000 in
theorem lo_Pl_allHad {o p : Nat} {f : Int → Int} {x B : Int} {w : ab_W} (hI : sg_ok B f) (hR : ri_at_j o f x w) (n : Nat) (hn1 : n ≤ 5) (i : Int) {row best angs had : Int → Int} {wv : Int} (hG : pla p row best wv angs had w) (hh : ∀ h : Int, 0 ≤ h → h < f 1 → had (7 * (n : Int) + h) = sp_so f i n h n) : ∀ (n0 : Nat) (k : Nat), (k : Int) ≤ f 1 → f 1 < k + n0 → ab_Ev g_G g_rs mt_Pl_allHad 0 0 0 5 [some (ab_R p), some (ab_R o), some (ab_I (n : Int)), some (ab_I (sp_sum (fun h => sp_so f i n h n) k)), some (ab_I (k : Int))] [] w (ab_is (some (ab_I (sp_sum (fun h => sp_so f i n h n) (f 1).toNat))) w) := by
  intro n0
  induction n0 with
  | zero =>
    intro k
    intro y1 y2; omega
  | succ n0 ih =>
    intro k
    intro y1 y2
    obtain ⟨p0, p1, p2, p3, p4⟩ := id hG
    have hR0 := hR
    have hI0 := hI
    obtain ⟨sl, fs, vo, li, ra, wo, dh, da, hzz⟩ := hR
    obtain ⟨ds, dn, vw, q0, q1, q2, q3, q4, hzz⟩ := hzz
    obtain ⟨q5, q6, q7, q8, q9, q10, q11, q12, hzz⟩ := hzz
    obtain ⟨e1, e2, e3, e4, e5, e6, e7, e8, e9⟩ := hzz
    obtain ⟨i0, i1, i2, i3, i4, i5, i6, i7, hzz⟩ := sg_all hI
    obtain ⟨i8, i9, i10, i11, i12, i13, i14, i15, hzz⟩ := hzz
    obtain ⟨i16, i17⟩ := hzz
    refine ev_iload de_Pl_allHad_5 rfl ?_
    refine ev_aload_n de_Pl_allHad_7 rfl rfl ?_
    refine ev_getfield de_Pl_allHad_8 q0 fl_Pl_63 rfl ?_
    refine ev_icmp_ge (tgt := 35) de_Pl_allHad_11 (by decide) (by omega) (by omega) (fun h11 => ?_) (fun h11 => ?_)
    · skip
      have ek : k = (f 1).toNat := by omega
      subst ek
      refine ev_iload_n de_Pl_allHad_35 rfl rfl ?_
      exact ev_ireturn de_Pl_allHad_36 rfl ⟨rfl, rfl⟩
    · skip
      refine ev_iload_n de_Pl_allHad_14 rfl rfl ?_
      refine ev_aload_n de_Pl_allHad_15 rfl rfl ?_
      refine ev_getfield de_Pl_allHad_16 p0 fl_Pl_21 rfl ?_
      refine ev_iload_n de_Pl_allHad_19 rfl rfl ?_
      refine ev_bipush de_Pl_allHad_20 rfl ?_
      refine ev_imul de_Pl_allHad_22 ?_
      refine ev_iload de_Pl_allHad_23 rfl ?_
      refine ev_iadd de_Pl_allHad_25 ?_
      refine ev_top (congrArg Sum.inl (show (n : Int) * 7 + (k : Int) = 7 * (n : Int) + (k : Int) by omega)) ?_
      refine ev_iaload de_Pl_allHad_26 p4 (by omega) (by omega) (by omega) ?_
      refine ev_top (congrArg Sum.inl (hh (k : Int) (by omega) (by omega))) ?_
      refine ev_iadd de_Pl_allHad_27 ?_
      refine ev_istore_n (l' := [_, _, _, _, _]) de_Pl_allHad_28 rfl (Nat.le_of_ble_eq_true rfl) rfl ?_
      refine ev_iinc (l' := [_, _, _, _, _]) de_Pl_allHad_29 rfl rfl ?_
      refine ev_goto (tgt := 5) de_Pl_allHad_32 (by decide) ?_
      exact ih (k + 1) (by omega) (by omega)
set_option maxHeartbeats 4000000 in
set_option maxRecDepth 10000 in
theorem co_Pl_allHad {o p : Nat} {f : Int → Int} {x B : Int} {w : ab_W} (hI : sg_ok B f) (hR : ri_at_j o f x w) (n : Nat) (hn1 : n ≤ 5) (i : Int) {row best angs had : Int → Int} {wv : Int} (hG : pla p row best wv angs had w) (hh : ∀ h : Int, 0 ≤ h → h < f 1 → had (7 * (n : Int) + h) = sp_so f i n h n) : ab_Mt g_G g_rs mt_Pl_allHad 0 0 0 [ab_R p, ab_R o, ab_I (n : Int)] w (ab_is (some (ab_I (sp_sum (fun h => sp_so f i n h n) (f 1).toNat))) w) := by
  have b1 := (sg_all hI).2.1
  refine ab_Mt.of rfl (Nat.le_of_ble_eq_true rfl) ?_
  show ab_Ev g_G g_rs mt_Pl_allHad _ _ _ 0 [some (ab_R p), some (ab_R o), some (ab_I (n : Int)), none, none] [] _ _
  refine ev_iconst de_Pl_allHad_0 ?_
  refine ev_istore_n (l' := [_, _, _, _, _]) de_Pl_allHad_1 rfl (Nat.le_of_ble_eq_true rfl) rfl ?_
  refine ev_iconst de_Pl_allHad_2 ?_
  refine ev_istore (l' := [_, _, _, _, _]) de_Pl_allHad_3 (Nat.le_of_ble_eq_true rfl) rfl ?_
  exact lo_Pl_allHad hI hR n hn1 i hG hh 8 0 (by omega) (by omega)
theorem least_1 (g : Int → Int) : sp_least g 1 = g 0 := by show (if g ((0 : Nat) : Int) < g 0 then g ((0 : Nat) : Int) else g 0) = g 0; split <;> rfl
theorem de_Pl_leastHad_0 : decode prog_6_method_6_code 0 = .ok (.aload_n 0, 1) := by decide +kernel
theorem de_Pl_leastHad_1 : decode prog_6_method_6_code 1 = .ok (.getfield 21, 3) := by decide +kernel
theorem de_Pl_leastHad_4 : decode prog_6_method_6_code 4 = .ok (.iload_n 2, 1) := by decide +kernel
theorem de_Pl_leastHad_5 : decode prog_6_method_6_code 5 = .ok (.bipush 7, 2) := by decide +kernel
theorem de_Pl_leastHad_7 : decode prog_6_method_6_code 7 = .ok (.imul, 1) := by decide +kernel
theorem de_Pl_leastHad_8 : decode prog_6_method_6_code 8 = .ok (.iaload, 1) := by decide +kernel
theorem de_Pl_leastHad_9 : decode prog_6_method_6_code 9 = .ok (.istore_n 3, 1) := by decide +kernel
theorem de_Pl_leastHad_10 : decode prog_6_method_6_code 10 = .ok (.iconst 1, 1) := by decide +kernel
theorem de_Pl_leastHad_11 : decode prog_6_method_6_code 11 = .ok (.istore 4, 2) := by decide +kernel
theorem de_Pl_leastHad_13 : decode prog_6_method_6_code 13 = .ok (.iload 4, 2) := by decide +kernel
theorem de_Pl_leastHad_15 : decode prog_6_method_6_code 15 = .ok (.aload_n 1, 1) := by decide +kernel
theorem de_Pl_leastHad_16 : decode prog_6_method_6_code 16 = .ok (.getfield 63, 3) := by decide +kernel
theorem de_Pl_leastHad_19 : decode prog_6_method_6_code 19 = .ok (.if_icmp .ge 26, 3) := by decide +kernel
theorem de_Pl_leastHad_22 : decode prog_6_method_6_code 22 = .ok (.iload_n 3, 1) := by decide +kernel
theorem de_Pl_leastHad_23 : decode prog_6_method_6_code 23 = .ok (.aload_n 0, 1) := by decide +kernel
theorem de_Pl_leastHad_24 : decode prog_6_method_6_code 24 = .ok (.getfield 21, 3) := by decide +kernel
theorem de_Pl_leastHad_27 : decode prog_6_method_6_code 27 = .ok (.iload_n 2, 1) := by decide +kernel
theorem de_Pl_leastHad_28 : decode prog_6_method_6_code 28 = .ok (.bipush 7, 2) := by decide +kernel
theorem de_Pl_leastHad_30 : decode prog_6_method_6_code 30 = .ok (.imul, 1) := by decide +kernel
theorem de_Pl_leastHad_31 : decode prog_6_method_6_code 31 = .ok (.iload 4, 2) := by decide +kernel
theorem de_Pl_leastHad_33 : decode prog_6_method_6_code 33 = .ok (.iadd, 1) := by decide +kernel
theorem de_Pl_leastHad_34 : decode prog_6_method_6_code 34 = .ok (.iaload, 1) := by decide +kernel
theorem de_Pl_leastHad_35 : decode prog_6_method_6_code 35 = .ok (.invokestatic 76, 3) := by decide +kernel
theorem de_Pl_leastHad_38 : decode prog_6_method_6_code 38 = .ok (.istore_n 3, 1) := by decide +kernel
theorem de_Pl_leastHad_39 : decode prog_6_method_6_code 39 = .ok (.iinc 4 1, 3) := by decide +kernel
theorem de_Pl_leastHad_42 : decode prog_6_method_6_code 42 = .ok (.goto (-29), 3) := by decide +kernel
theorem de_Pl_leastHad_45 : decode prog_6_method_6_code 45 = .ok (.iload_n 3, 1) := by decide +kernel
theorem de_Pl_leastHad_46 : decode prog_6_method_6_code 46 = .ok (.ireturn, 1) := by decide +kernel
set_option maxHeartbeats 4000000 in
set_option maxRecDepth 10000 in
theorem lo_Pl_leastHad {o p : Nat} {f : Int → Int} {x B : Int} {w : ab_W} (hI : sg_ok B f) (hB : B ≤ 29000) (hR : ri_at_j o f x w) (n : Nat) (hn1 : n ≤ 5) (i : Int) {row best angs had : Int → Int} {wv : Int} (hG : pla p row best wv angs had w) (hh : ∀ h : Int, 0 ≤ h → h < f 1 → had (7 * (n : Int) + h) = sp_so f i n h n) : ∀ (n0 : Nat) (k : Nat), 1 ≤ k → (k : Int) ≤ f 1 → f 1 < k + n0 → ab_Ev g_G g_rs mt_Pl_leastHad 1 0 0 13 [some (ab_R p), some (ab_R o), some (ab_I (n : Int)), some (ab_I (sp_least (fun h => sp_so f i n h n) k)), some (ab_I (k : Int))] [] w (ab_is (some (ab_I (sp_least (fun h => sp_so f i n h n) (f 1).toNat))) w) := by
  intro n0
  induction n0 with
  | zero =>
    intro k
    intro y0 y1 y2; omega
  | succ n0 ih =>
    intro k
    intro y0 y1 y2
    obtain ⟨p0, p1, p2, p3, p4⟩ := id hG
    have hR0 := hR
    have hI0 := hI
    obtain ⟨sl, fs, vo, li, ra, wo, dh, da, hzz⟩ := hR
    obtain ⟨ds, dn, vw, q0, q1, q2, q3, q4, hzz⟩ := hzz
    obtain ⟨q5, q6, q7, q8, q9, q10, q11, q12, hzz⟩ := hzz
    obtain ⟨e1, e2, e3, e4, e5, e6, e7, e8, e9⟩ := hzz
    obtain ⟨i0, i1, i2, i3, i4, i5, i6, i7, hzz⟩ := sg_all hI
    obtain ⟨i8, i9, i10, i11, i12, i13, i14, i15, hzz⟩ := hzz
    obtain ⟨i16, i17⟩ := hzz
    have lb : ∀ h : Int, 0 ≤ h → h < f 1 → -225 ≤ sp_so f i n h n ∧ sp_so f i n h n ≤ 225 := fun h a b => by have q := sp_so_b hI hB i n a (show h < 7 by omega) n (by omega); omega
    have sb := sp_least_b (g := (fun h => sp_so f i n h n)) (a := -225) (b := 225) (lb 0 (by decide) (by omega)) k (fun j a b => lb j a (by omega))
    refine ev_iload de_Pl_leastHad_13 rfl ?_
    refine ev_aload_n de_Pl_leastHad_15 rfl rfl ?_
    refine ev_getfield de_Pl_leastHad_16 q0 fl_Pl_63 rfl ?_
    refine ev_icmp_ge (tgt := 45) de_Pl_leastHad_19 (by decide) (by omega) (by omega) (fun h19 => ?_) (fun h19 => ?_)
    · skip
      have ek : k = (f 1).toNat := by omega
      subst ek
      refine ev_iload_n de_Pl_leastHad_45 rfl rfl ?_
      exact ev_ireturn de_Pl_leastHad_46 rfl ⟨rfl, rfl⟩
    · skip
      have lk := lb (k : Int) (by omega) (by omega)
      refine ev_iload_n de_Pl_leastHad_22 rfl rfl ?_
      refine ev_aload_n de_Pl_leastHad_23 rfl rfl ?_
      refine ev_getfield de_Pl_leastHad_24 p0 fl_Pl_21 rfl ?_
      refine ev_iload_n de_Pl_leastHad_27 rfl rfl ?_
      refine ev_bipush de_Pl_leastHad_28 rfl ?_
      refine ev_imul de_Pl_leastHad_30 ?_
      refine ev_iload de_Pl_leastHad_31 rfl ?_
      refine ev_iadd de_Pl_leastHad_33 ?_
      refine ev_top (congrArg Sum.inl (show (n : Int) * 7 + (k : Int) = 7 * (n : Int) + (k : Int) by omega)) ?_
      refine ev_iaload de_Pl_leastHad_34 p4 (by omega) (by omega) (by omega) ?_
      refine ev_top (congrArg Sum.inl (hh (k : Int) (by omega) (by omega))) ?_
      refine ev_mmin (by omega) (by omega) de_Pl_leastHad_35 mk_Pl_76 (Nat.le_of_ble_eq_true rfl) (by decide) ?_
      refine ev_top (congrArg Sum.inl (show _ = sp_least (fun h => sp_so f i n h n) (k + 1) from rfl)) ?_
      refine ev_istore_n (l' := [_, _, _, _, _]) de_Pl_leastHad_38 rfl (Nat.le_of_ble_eq_true rfl) rfl ?_
      refine ev_iinc (l' := [_, _, _, _, _]) de_Pl_leastHad_39 rfl rfl ?_
      refine ev_goto (tgt := 13) de_Pl_leastHad_42 (by decide) ?_
      exact ih (k + 1) (by omega) (by omega) (by omega)
set_option maxHeartbeats 4000000 in
set_option maxRecDepth 10000 in
theorem co_Pl_leastHad {o p : Nat} {f : Int → Int} {x B : Int} {w : ab_W} (hI : sg_ok B f) (hB : B ≤ 29000) (hR : ri_at_j o f x w) (n : Nat) (hn1 : n ≤ 5) (i : Int) {row best angs had : Int → Int} {wv : Int} (hG : pla p row best wv angs had w) (hh : ∀ h : Int, 0 ≤ h → h < f 1 → had (7 * (n : Int) + h) = sp_so f i n h n) (h11 : 1 ≤ f 1) : ab_Mt g_G g_rs mt_Pl_leastHad 1 0 0 [ab_R p, ab_R o, ab_I (n : Int)] w (ab_is (some (ab_I (sp_least (fun h => sp_so f i n h n) (f 1).toNat))) w) := by
  obtain ⟨p0, p1, p2, p3, p4⟩ := id hG
  have b1 := (sg_all hI).2.1
  refine ab_Mt.of rfl (Nat.le_of_ble_eq_true rfl) ?_
  show ab_Ev g_G g_rs mt_Pl_leastHad _ _ _ 0 [some (ab_R p), some (ab_R o), some (ab_I (n : Int)), none, none] [] _ _
  refine ev_aload_n de_Pl_leastHad_0 rfl rfl ?_
  refine ev_getfield de_Pl_leastHad_1 p0 fl_Pl_21 rfl ?_
  refine ev_iload_n de_Pl_leastHad_4 rfl rfl ?_
  refine ev_bipush de_Pl_leastHad_5 rfl ?_
  refine ev_imul de_Pl_leastHad_7 ?_
  refine ev_top (congrArg Sum.inl (show (n : Int) * 7 = 7 * (n : Int) + 0 by omega)) ?_
  refine ev_iaload de_Pl_leastHad_8 p4 (by omega) (by omega) (by omega) ?_
  refine ev_top (congrArg Sum.inl (hh 0 (by decide) (by omega))) ?_
  refine ev_top (congrArg Sum.inl (least_1 (fun h => sp_so f i n h n)).symm) ?_
  refine ev_istore_n (l' := [_, _, _, _, _]) de_Pl_leastHad_9 rfl (Nat.le_of_ble_eq_true rfl) rfl ?_
  refine ev_iconst de_Pl_leastHad_10 ?_
  refine ev_istore (l' := [_, _, _, _, _]) de_Pl_leastHad_11 (Nat.le_of_ble_eq_true rfl) rfl ?_
  exact lo_Pl_leastHad hI hB hR n hn1 i hG hh 8 1 (by decide) (by omega) (by omega)
theorem pb_s (f : Int → Int) (n : Nat) (fr : Int) (k : Nat) (h : 0 ≤ (sp_pb f n fr k).1 ∨ k = 0) : sp_pb f n fr (k + 1) = if k = 0 ∨ (sp_pb f n fr k).2 < sp_worth f (k : Int) n fr then ((k : Int), sp_worth f (k : Int) n fr) else sp_pb f n fr k := by
  show (if (sp_pb f n fr k).1 < 0 ∨ _ then _ else _) = _
  rcases h with h | h
  · by_cases z : k = 0
    · subst z
      exact absurd (show (0 : Int) ≤ -1 from h) (by decide)
    · by_cases y : (sp_pb f n fr k).2 < sp_worth f (k : Int) n fr
      · rw [if_pos (Or.inr y), if_pos (Or.inr y)]
      · rw [if_neg (fun v => v.elim (fun v => by omega) y), if_neg (fun v => v.elim z y)]
  · subst h
    rw [if_pos (show (sp_pb f n fr 0).1 < 0 ∨ (sp_pb f n fr 0).2 < sp_worth f ((0 : Nat) : Int) n fr from Or.inl (by show (-1 : Int) < 0; decide)), if_pos (Or.inl rfl)]
theorem pb_pos (f : Int → Int) (n : Nat) (fr : Int) : ∀ k : Nat, 0 ≤ (sp_pb f n fr (k + 1)).1
  | 0 => by
    rw [pb_s f n fr 0 (Or.inr rfl), if_pos (Or.inl rfl)]
    exact Int.le_refl _
  | k + 1 => by
    have ih := pb_pos f n fr k
    rw [pb_s f n fr (k + 1) (Or.inl ih)]
    split
    · show (0 : Int) ≤ ((k + 1 : Nat) : Int)
      omega
    · exact ih
theorem de_Pl_findBest_0 : decode prog_6_method_2_code 0 = .ok (.aload_n 0, 1) := by decide +kernel
theorem de_Pl_findBest_1 : decode prog_6_method_2_code 1 = .ok (.getfield 11, 3) := by decide +kernel
theorem de_Pl_findBest_4 : decode prog_6_method_2_code 4 = .ok (.iconst (-1), 1) := by decide +kernel
theorem de_Pl_findBest_5 : decode prog_6_method_2_code 5 = .ok (.invokestatic 24, 3) := by decide +kernel
theorem de_Pl_findBest_8 : decode prog_6_method_2_code 8 = .ok (.aload_n 0, 1) := by decide +kernel
theorem de_Pl_findBest_9 : decode prog_6_method_2_code 9 = .ok (.getfield 18, 3) := by decide +kernel
theorem de_Pl_findBest_12 : decode prog_6_method_2_code 12 = .ok (.iconst 0, 1) := by decide +kernel
theorem de_Pl_findBest_13 : decode prog_6_method_2_code 13 = .ok (.aload_n 1, 1) := by decide +kernel
theorem de_Pl_findBest_14 : decode prog_6_method_2_code 14 = .ok (.getfield 30, 3) := by decide +kernel
theorem de_Pl_findBest_17 : decode prog_6_method_2_code 17 = .ok (.iastore, 1) := by decide +kernel
theorem de_Pl_findBest_18 : decode prog_6_method_2_code 18 = .ok (.iconst 0, 1) := by decide +kernel
theorem de_Pl_findBest_19 : decode prog_6_method_2_code 19 = .ok (.istore 4, 2) := by decide +kernel
theorem de_Pl_findBest_21 : decode prog_6_method_2_code 21 = .ok (.iconst 0, 1) := by decide +kernel
theorem de_Pl_findBest_22 : decode prog_6_method_2_code 22 = .ok (.istore 5, 2) := by decide +kernel
theorem de_Pl_findBest_24 : decode prog_6_method_2_code 24 = .ok (.iload 5, 2) := by decide +kernel
theorem de_Pl_findBest_26 : decode prog_6_method_2_code 26 = .ok (.sipush 243, 3) := by decide +kernel
theorem de_Pl_findBest_29 : decode prog_6_method_2_code 29 = .ok (.if_icmp .ge 84, 3) := by decide +kernel
theorem de_Pl_findBest_32 : decode prog_6_method_2_code 32 = .ok (.iload 4, 2) := by decide +kernel
theorem de_Pl_findBest_34 : decode prog_6_method_2_code 34 = .ok (.ifCond .lt 79, 3) := by decide +kernel
theorem de_Pl_findBest_37 : decode prog_6_method_2_code 37 = .ok (.aload_n 0, 1) := by decide +kernel
theorem de_Pl_findBest_38 : decode prog_6_method_2_code 38 = .ok (.aload_n 1, 1) := by decide +kernel
theorem de_Pl_findBest_39 : decode prog_6_method_2_code 39 = .ok (.iload 4, 2) := by decide +kernel
theorem de_Pl_findBest_41 : decode prog_6_method_2_code 41 = .ok (.iload_n 2, 1) := by decide +kernel
theorem de_Pl_findBest_42 : decode prog_6_method_2_code 42 = .ok (.invokevirtual 36, 3) := by decide +kernel
theorem de_Pl_findBest_45 : decode prog_6_method_2_code 45 = .ok (.iload_n 3, 1) := by decide +kernel
theorem de_Pl_findBest_46 : decode prog_6_method_2_code 46 = .ok (.ifCond .eq 12, 3) := by decide +kernel
theorem de_Pl_findBest_49 : decode prog_6_method_2_code 49 = .ok (.aload_n 0, 1) := by decide +kernel
theorem de_Pl_findBest_50 : decode prog_6_method_2_code 50 = .ok (.aload_n 1, 1) := by decide +kernel
theorem de_Pl_findBest_51 : decode prog_6_method_2_code 51 = .ok (.iload_n 2, 1) := by decide +kernel
theorem de_Pl_findBest_52 : decode prog_6_method_2_code 52 = .ok (.invokevirtual 40, 3) := by decide +kernel
theorem de_Pl_findBest_55 : decode prog_6_method_2_code 55 = .ok (.goto 9, 3) := by decide +kernel
theorem de_Pl_findBest_58 : decode prog_6_method_2_code 58 = .ok (.aload_n 0, 1) := by decide +kernel
theorem de_Pl_findBest_59 : decode prog_6_method_2_code 59 = .ok (.aload_n 1, 1) := by decide +kernel
theorem de_Pl_findBest_60 : decode prog_6_method_2_code 60 = .ok (.iload_n 2, 1) := by decide +kernel
theorem de_Pl_findBest_61 : decode prog_6_method_2_code 61 = .ok (.invokevirtual 44, 3) := by decide +kernel
theorem de_Pl_findBest_64 : decode prog_6_method_2_code 64 = .ok (.istore 6, 2) := by decide +kernel
theorem de_Pl_findBest_66 : decode prog_6_method_2_code 66 = .ok (.iload 5, 2) := by decide +kernel
theorem de_Pl_findBest_68 : decode prog_6_method_2_code 68 = .ok (.ifCond .eq 12, 3) := by decide +kernel
theorem de_Pl_findBest_71 : decode prog_6_method_2_code 71 = .ok (.iload 6, 2) := by decide +kernel
theorem de_Pl_findBest_73 : decode prog_6_method_2_code 73 = .ok (.aload_n 0, 1) := by decide +kernel
theorem de_Pl_findBest_74 : decode prog_6_method_2_code 74 = .ok (.getfield 47, 3) := by decide +kernel
theorem de_Pl_findBest_77 : decode prog_6_method_2_code 77 = .ok (.if_icmp .le 23, 3) := by decide +kernel
theorem de_Pl_findBest_80 : decode prog_6_method_2_code 80 = .ok (.aload_n 0, 1) := by decide +kernel
theorem de_Pl_findBest_81 : decode prog_6_method_2_code 81 = .ok (.iload 6, 2) := by decide +kernel
theorem de_Pl_findBest_83 : decode prog_6_method_2_code 83 = .ok (.putfield 47, 3) := by decide +kernel
theorem de_Pl_findBest_86 : decode prog_6_method_2_code 86 = .ok (.aload_n 0, 1) := by decide +kernel
theorem de_Pl_findBest_87 : decode prog_6_method_2_code 87 = .ok (.getfield 11, 3) := by decide +kernel
theorem de_Pl_findBest_90 : decode prog_6_method_2_code 90 = .ok (.iconst 0, 1) := by decide +kernel
theorem de_Pl_findBest_91 : decode prog_6_method_2_code 91 = .ok (.aload_n 0, 1) := by decide +kernel
theorem de_Pl_findBest_92 : decode prog_6_method_2_code 92 = .ok (.getfield 15, 3) := by decide +kernel
theorem de_Pl_findBest_95 : decode prog_6_method_2_code 95 = .ok (.iconst 0, 1) := by decide +kernel
theorem de_Pl_findBest_96 : decode prog_6_method_2_code 96 = .ok (.iconst 5, 1) := by decide +kernel
theorem de_Pl_findBest_97 : decode prog_6_method_2_code 97 = .ok (.invokestatic 50, 3) := by decide +kernel
theorem de_Pl_findBest_100 : decode prog_6_method_2_code 100 = .ok (.aload_n 0, 1) := by decide +kernel
theorem de_Pl_findBest_101 : decode prog_6_method_2_code 101 = .ok (.iload_n 2, 1) := by decide +kernel
theorem de_Pl_findBest_102 : decode prog_6_method_2_code 102 = .ok (.invokevirtual 56, 3) := by decide +kernel
theorem de_Pl_findBest_105 : decode prog_6_method_2_code 105 = .ok (.istore 4, 2) := by decide +kernel
theorem de_Pl_findBest_107 : decode prog_6_method_2_code 107 = .ok (.iinc 5 1, 3) := by decide +kernel
theorem de_Pl_findBest_110 : decode prog_6_method_2_code 110 = .ok (.goto (-86), 3) := by decide +kernel
theorem de_Pl_findBest_113 : decode prog_6_method_2_code 113 = .ok (.return_, 1) := by decide +kernel
set_option maxHeartbeats 4000000 in
set_option maxRecDepth 10000 in
theorem lo_Pl_findBest {o p : Nat} {f : Int → Int} {x B : Int} {w0 : ab_W} (hI : sg_ok B f) (hB : B ≤ 29000) (hRb : ri_at_j o f x w0) (hdj : o + 13 ≤ p ∨ p + 5 ≤ o) (h11 : 1 ≤ f 1) (n : Nat) (hn0 : 1 ≤ n) (hn1 : n ≤ 5) (fr : Int) (hfr : fr = 0 ∨ fr = 1) : ∀ (n0 : Nat) (i : Nat) (cv : Int) (row best angs had : Int → Int) (wv : Int) (x6 : Option ab_V) (w : ab_W), i ≤ 3 ^ n → 3 ^ n < i + n0 → pla p row best wv angs had w → ((∃ c : Nat, cv = (c : Int) ∧ c ≤ n ∧ i < 3 ^ n ∧ rw_ n (i : Int) row ∧ wt_ f n (i : Int) c angs had) ∨ (cv = -1 ∧ i = 3 ^ n ∧ ∀ h : Int, 0 ≤ h → h < 7 → had h = 0)) → (i = 0 ∨ (wv = (sp_pb f n fr i).2 ∧ rw_ n (sp_pb f n fr i).1 best)) → fr_at p 5 w0 w → ab_Ev g_G g_rs mt_Pl_findBest 3 0 0 24 [some (ab_R p), some (ab_R o), some (ab_I (n : Int)), some (ab_I fr), some (ab_I cv), some (ab_I (i : Int)), x6] [] w (fun r w2 => r = none ∧ (∃ row best angs had : Int → Int, pla p row best (sp_pb f n fr (3 ^ n)).2 angs had w2 ∧ rw_ n (sp_pb f n fr (3 ^ n)).1 best ∧ ∀ h : Int, 0 ≤ h → h < 7 → had h = 0) ∧ fr_at p 5 w0 w2) := by
  intro n0
  induction n0 with
  | zero =>
    intro i cv row best angs had wv x6 w
    intro y1 y2 hG hS hbst hf; omega
  | succ n0 ih =>
    intro i cv row best angs had wv x6 w
    intro y1 y2 hG hS hbst hf
    obtain ⟨p0, p1, p2, p3, p4⟩ := id hG
    have hRw := rj_fr hRb hf (by omega)
    have hR := hRw
    obtain ⟨sl, fs, vo, li, ra, wo, dh, da, hzz⟩ := hR
    obtain ⟨ds, dn, vw, q0, q1, q2, q3, q4, hzz⟩ := hzz
    obtain ⟨q5, q6, q7, q8, q9, q10, q11, q12, hzz⟩ := hzz
    obtain ⟨e1, e2, e3, e4, e5, e6, e7, e8, e9⟩ := hzz
    obtain ⟨i0, i1, i2, i3, i4, i5, i6, i7, hzz⟩ := sg_all hI
    obtain ⟨i8, i9, i10, i11, i12, i13, i14, i15, hzz⟩ := hzz
    obtain ⟨i16, i17⟩ := hzz
    have h35 : 3 ^ n ≤ 243 := Nat.le_trans (Nat.pow_le_pow_right (by decide) hn1) (by decide)
    refine ev_iload de_Pl_findBest_24 rfl ?_
    refine ev_sipush de_Pl_findBest_26 rfl ?_
    refine ev_icmp_ge (tgt := 113) de_Pl_findBest_29 (by decide) (by omega) (by omega) (fun h29 => ?_) (fun h29 => ?_)
    · skip
      have hS := hS.resolve_left (fun ⟨c, _, _, hi, _⟩ => by omega)
      obtain ⟨_, ei, hz⟩ := hS
      subst ei
      have hbst := hbst.resolve_left (by have : 0 < 3 ^ n := Nat.pow_pos (by decide); omega)
      obtain ⟨rfl, hb⟩ := hbst
      exact ev_return de_Pl_findBest_113 rfl ⟨rfl, ⟨_, _, _, _, hG, hb, hz⟩, hf⟩
    · skip
      rcases hS with ⟨c, rfl, hcn, hi, hrow, hT⟩ | ⟨rfl, ei, hz⟩
      rotate_left
      · refine ev_iload de_Pl_findBest_32 rfl ?_
        refine ev_if_lt (tgt := 113) de_Pl_findBest_34 (by decide) (by decide) (fun _ => ?_) (fun h => absurd h (by decide))
        subst ei
        have hbst := hbst.resolve_left (by have : 0 < 3 ^ n := Nat.pow_pos (by decide); omega)
        obtain ⟨rfl, hb⟩ := hbst
        exact ev_return de_Pl_findBest_113 rfl ⟨rfl, ⟨_, _, _, _, hG, hb, hz⟩, hf⟩
      refine ev_iload de_Pl_findBest_32 rfl ?_
      refine ev_if_lt (tgt := 113) de_Pl_findBest_34 (by decide) (by omega) (fun h34 => ?_) (fun h34 => ?_)
      · skip
        exact absurd h34 (by omega)
      · skip
        refine ev_aload_n de_Pl_findBest_37 rfl rfl ?_
        refine ev_aload_n de_Pl_findBest_38 rfl rfl ?_
        refine ev_iload de_Pl_findBest_39 rfl ?_
        refine ev_iload_n de_Pl_findBest_41 rfl rfl ?_
        refine ev_virtual (ci := 4) (mc := 0) (ms := 0) (bc := 0) (bs := 0) de_Pl_findBest_42 (co_Pl_weighFrom hI hRw hdj n hn0 hn1 (i : Int) best wv hrow c hcn hG hT) kb_Pl_36 ⟨im_Pl_weighFrom, se_Pl_weighFrom⟩ rfl p0 rfl (Nat.le_of_ble_eq_true rfl) (by decide) (Or.inl (fun r w1 h => h.2.2.1)) (fun r1 w1 hm1 => ?_)
        obtain ⟨rfl, ⟨angs2, had2, hG, hT2⟩, hf1⟩ := hm1
        · skip
          have hf := fr_tr hf hf1
          have hRw := rj_fr hRb hf (by omega)
          have hR := hRw
          obtain ⟨sl, fs, vo, li, ra, wo, dh, da, hzz⟩ := hR
          obtain ⟨ds, dn, vw, q0, q1, q2, q3, q4, hzz⟩ := hzz
          obtain ⟨q5, q6, q7, q8, q9, q10, q11, q12, hzz⟩ := hzz
          obtain ⟨e1, e2, e3, e4, e5, e6, e7, e8, e9⟩ := hzz
          obtain ⟨p0, p1, p2, p3, p4⟩ := id hG
          have wb := sp_worth_b hI hB (i : Int) n hn1 fr
          have pbb := sp_pb_b hI hB n hn1 fr i
          refine ev_iload_n de_Pl_findBest_45 rfl rfl ?_
          refine ev_if_eq (tgt := 58) de_Pl_findBest_46 (by decide) (by omega) (fun h46 => ?_) (fun h46 => ?_)
          · skip
            have efr : fr = 0 := by omega
            refine ev_aload_n de_Pl_findBest_58 rfl rfl ?_
            refine ev_aload_n de_Pl_findBest_59 rfl rfl ?_
            refine ev_iload_n de_Pl_findBest_60 rfl rfl ?_
            refine ev_vv (ci := 4) de_Pl_findBest_61 (co_Pl_allHad hI hRw n hn1 (i : Int) hG (hT2.2.1 n (Nat.le_refl _))) kb_Pl_44 ⟨im_Pl_allHad, se_Pl_allHad⟩ rfl p0 rfl (Nat.le_of_ble_eq_true rfl) (by decide) rfl ?_
            refine ev_top (congrArg Sum.inl (show _ = sp_worth f (i : Int) n fr from by unfold sp_worth; rw [if_pos (by omega)])) ?_
            refine ev_istore (l' := [_, _, _, _, _, _, _]) de_Pl_findBest_64 (Nat.le_of_ble_eq_true rfl) rfl ?_
            refine ev_iload de_Pl_findBest_66 rfl ?_
            refine ev_if_eq (tgt := 80) de_Pl_findBest_68 (by decide) (by omega) (fun h68 => ?_) (fun h68 => ?_)
            · skip
              have hcd : i = 0 ∨ (sp_pb f n fr i).2 < sp_worth f (i : Int) n fr := Or.inl (by omega)
              have hbe : sp_pb f n fr (i + 1) = ((i : Int), sp_worth f (i : Int) n fr) := by
                by_cases z : i = 0
                · subst z
                  rw [pb_s f n fr 0 (Or.inr rfl), if_pos (Or.inl rfl)]
                · rw [pb_s f n fr i (Or.inl (by rw [show i = (i - 1) + 1 by omega]; exact pb_pos f n fr (i - 1))), if_pos hcd]
              refine ev_aload_n de_Pl_findBest_80 rfl rfl ?_
              refine ev_iload de_Pl_findBest_81 rfl ?_
              refine ev_putfield de_Pl_findBest_83 p0 (fp_Pl_47 _) (Nat.le_of_ble_eq_true rfl) trivial ?_
              refine ev_gen (P := fun w1 => pla p row best (sp_worth f (i : Int) n fr) angs2 had2 w1 ∧ fr_at p 5 w0 w1) ⟨pla_o hG, fr_set hf (by omega) (by omega)⟩ (fun w1 hm1 => ?_)
              obtain ⟨hG, hf⟩ := hm1
              have hRw := rj_fr hRb hf (by omega)
              have hR := hRw
              obtain ⟨sl, fs, vo, li, ra, wo, dh, da, hzz⟩ := hR
              obtain ⟨ds, dn, vw, q0, q1, q2, q3, q4, hzz⟩ := hzz
              obtain ⟨q5, q6, q7, q8, q9, q10, q11, q12, hzz⟩ := hzz
              obtain ⟨e1, e2, e3, e4, e5, e6, e7, e8, e9⟩ := hzz
              obtain ⟨p0, p1, p2, p3, p4⟩ := id hG
              refine ev_aload_n de_Pl_findBest_86 rfl rfl ?_
              refine ev_getfield de_Pl_findBest_87 p0 fl_Pl_11 rfl ?_
              refine ev_iconst de_Pl_findBest_90 ?_
              refine ev_aload_n de_Pl_findBest_91 rfl rfl ?_
              refine ev_getfield de_Pl_findBest_92 p0 fl_Pl_15 rfl ?_
              refine ev_iconst de_Pl_findBest_95 ?_
              refine ev_iconst de_Pl_findBest_96 ?_
              refine ev_copyi de_Pl_findBest_97 ck_Pl_50 (by decide) p1 p2 (by decide) (by decide) (Or.inl rfl) (Nat.le_of_ble_eq_true rfl) (by decide) ?_
              refine ev_gen (P := fun w1 => pla p row (ab_cp row best 0 0 5) (sp_worth f (i : Int) n fr) angs2 had2 w1 ∧ fr_at p 5 w0 w1) ⟨pla_2 hG, fr_set hf (by omega) (by omega)⟩ (fun w1 hm1 => ?_)
              obtain ⟨hG, hf⟩ := hm1
              have hRw := rj_fr hRb hf (by omega)
              have hR := hRw
              obtain ⟨sl, fs, vo, li, ra, wo, dh, da, hzz⟩ := hR
              obtain ⟨ds, dn, vw, q0, q1, q2, q3, q4, hzz⟩ := hzz
              obtain ⟨q5, q6, q7, q8, q9, q10, q11, q12, hzz⟩ := hzz
              obtain ⟨e1, e2, e3, e4, e5, e6, e7, e8, e9⟩ := hzz
              obtain ⟨p0, p1, p2, p3, p4⟩ := id hG
              have hb9 : sp_worth f (i : Int) n fr = (sp_pb f n fr (i + 1)).2 ∧ rw_ n (sp_pb f n fr (i + 1)).1 (ab_cp row best 0 0 5) := by
                rw [hbe]
                refine ⟨rfl, fun t ht => ?_⟩
                unfold ab_cp
                rw [if_pos (by omega), show (0 : Int) + ((t : Int) - 0) = (t : Int) by omega]
                exact hrow t ht
              refine ev_aload_n de_Pl_findBest_100 rfl rfl ?_
              refine ev_iload_n de_Pl_findBest_101 rfl rfl ?_
              refine ev_virtual (ci := 4) (mc := 0) (ms := 0) (bc := 0) (bs := 0) de_Pl_findBest_102 (co_Pl_nextRow n hn0 hn1 i hi _ _ _ _ hG hrow) kb_Pl_56 ⟨im_Pl_nextRow, se_Pl_nextRow⟩ rfl p0 rfl (Nat.le_of_ble_eq_true rfl) (by decide) (Or.inl (fun r w1 h => by obtain ⟨_, _, _, _, hl, _⟩ := h; exact hl.1)) (fun r1 w1 hm1 => ?_)
              obtain ⟨row9, c9, rfl, hG, hf1, hc9⟩ := hm1
              · skip
                have hf := fr_tr hf hf1
                obtain ⟨p0, p1, p2, p3, p4⟩ := id hG
                have hS9 : (∃ c : Nat, c9 = (c : Int) ∧ c ≤ n ∧ i + 1 < 3 ^ n ∧ rw_ n ((i + 1 : Nat) : Int) row9 ∧ wt_ f n ((i + 1 : Nat) : Int) c angs2 had2) ∨ (c9 = -1 ∧ i + 1 = 3 ^ n ∧ ∀ h : Int, 0 ≤ h → h < 7 → had2 h = 0) := by
                  rcases hc9 with ⟨e1, e2⟩ | ⟨⟨e1, e2⟩, e3, e4, e5⟩
                  · exact Or.inr ⟨e1, e2, hT2.2.2⟩
                  · exact Or.inl ⟨c9.toNat, by omega, by omega, e3, e4, wt_nx hT2 (by omega) (fun t ht => e5 t (by omega))⟩
                refine ev_istore (l' := [_, _, _, _, _, _, _]) de_Pl_findBest_105 (Nat.le_of_ble_eq_true rfl) rfl ?_
                refine ev_iinc (l' := [_, _, _, _, _, _, _]) de_Pl_findBest_107 rfl rfl ?_
                refine ev_goto (tgt := 24) de_Pl_findBest_110 (by decide) ?_
                exact ih (i + 1) _ _ _ _ _ _ _ _ (by omega) (by omega) hG hS9 (Or.inr hb9) hf
            · skip
              have hbst2 := hbst.resolve_left (by omega)
              refine ev_iload de_Pl_findBest_71 rfl ?_
              refine ev_aload_n de_Pl_findBest_73 rfl rfl ?_
              refine ev_getfield de_Pl_findBest_74 p0 fl_Pl_47 rfl ?_
              refine ev_icmp_le (tgt := 100) de_Pl_findBest_77 (by decide) (by first | omega | (have := hbst2.1; omega)) (by first | omega | (have := hbst2.1; omega)) (fun h77 => ?_) (fun h77 => ?_)
              · skip
                have hbe : sp_pb f n fr (i + 1) = sp_pb f n fr i := by
                  rw [pb_s f n fr i (Or.inl (by rw [show i = (i - 1) + 1 by omega]; exact pb_pos f n fr (i - 1))), if_neg (by have := hbst2.1; omega)]
                have hb9 : wv = (sp_pb f n fr (i + 1)).2 ∧ rw_ n (sp_pb f n fr (i + 1)).1 best := by rw [hbe]; exact hbst2
                refine ev_aload_n de_Pl_findBest_100 rfl rfl ?_
                refine ev_iload_n de_Pl_findBest_101 rfl rfl ?_
                refine ev_virtual (ci := 4) (mc := 0) (ms := 0) (bc := 0) (bs := 0) de_Pl_findBest_102 (co_Pl_nextRow n hn0 hn1 i hi _ _ _ _ hG hrow) kb_Pl_56 ⟨im_Pl_nextRow, se_Pl_nextRow⟩ rfl p0 rfl (Nat.le_of_ble_eq_true rfl) (by decide) (Or.inl (fun r w1 h => by obtain ⟨_, _, _, _, hl, _⟩ := h; exact hl.1)) (fun r1 w1 hm1 => ?_)
                obtain ⟨row9, c9, rfl, hG, hf1, hc9⟩ := hm1
                · skip
                  have hf := fr_tr hf hf1
                  obtain ⟨p0, p1, p2, p3, p4⟩ := id hG
                  have hS9 : (∃ c : Nat, c9 = (c : Int) ∧ c ≤ n ∧ i + 1 < 3 ^ n ∧ rw_ n ((i + 1 : Nat) : Int) row9 ∧ wt_ f n ((i + 1 : Nat) : Int) c angs2 had2) ∨ (c9 = -1 ∧ i + 1 = 3 ^ n ∧ ∀ h : Int, 0 ≤ h → h < 7 → had2 h = 0) := by
                    rcases hc9 with ⟨e1, e2⟩ | ⟨⟨e1, e2⟩, e3, e4, e5⟩
                    · exact Or.inr ⟨e1, e2, hT2.2.2⟩
                    · exact Or.inl ⟨c9.toNat, by omega, by omega, e3, e4, wt_nx hT2 (by omega) (fun t ht => e5 t (by omega))⟩
                  refine ev_istore (l' := [_, _, _, _, _, _, _]) de_Pl_findBest_105 (Nat.le_of_ble_eq_true rfl) rfl ?_
                  refine ev_iinc (l' := [_, _, _, _, _, _, _]) de_Pl_findBest_107 rfl rfl ?_
                  refine ev_goto (tgt := 24) de_Pl_findBest_110 (by decide) ?_
                  exact ih (i + 1) _ _ _ _ _ _ _ _ (by omega) (by omega) hG hS9 (Or.inr hb9) hf
              · skip
                have hcd : i = 0 ∨ (sp_pb f n fr i).2 < sp_worth f (i : Int) n fr := Or.inr (by have := hbst2.1; omega)
                have hbe : sp_pb f n fr (i + 1) = ((i : Int), sp_worth f (i : Int) n fr) := by
                  by_cases z : i = 0
                  · subst z
                    rw [pb_s f n fr 0 (Or.inr rfl), if_pos (Or.inl rfl)]
                  · rw [pb_s f n fr i (Or.inl (by rw [show i = (i - 1) + 1 by omega]; exact pb_pos f n fr (i - 1))), if_pos hcd]
                refine ev_aload_n de_Pl_findBest_80 rfl rfl ?_
                refine ev_iload de_Pl_findBest_81 rfl ?_
                refine ev_putfield de_Pl_findBest_83 p0 (fp_Pl_47 _) (Nat.le_of_ble_eq_true rfl) trivial ?_
                refine ev_gen (P := fun w1 => pla p row best (sp_worth f (i : Int) n fr) angs2 had2 w1 ∧ fr_at p 5 w0 w1) ⟨pla_o hG, fr_set hf (by omega) (by omega)⟩ (fun w1 hm1 => ?_)
                obtain ⟨hG, hf⟩ := hm1
                have hRw := rj_fr hRb hf (by omega)
                have hR := hRw
                obtain ⟨sl, fs, vo, li, ra, wo, dh, da, hzz⟩ := hR
                obtain ⟨ds, dn, vw, q0, q1, q2, q3, q4, hzz⟩ := hzz
                obtain ⟨q5, q6, q7, q8, q9, q10, q11, q12, hzz⟩ := hzz
                obtain ⟨e1, e2, e3, e4, e5, e6, e7, e8, e9⟩ := hzz
                obtain ⟨p0, p1, p2, p3, p4⟩ := id hG
                refine ev_aload_n de_Pl_findBest_86 rfl rfl ?_
                refine ev_getfield de_Pl_findBest_87 p0 fl_Pl_11 rfl ?_
                refine ev_iconst de_Pl_findBest_90 ?_
                refine ev_aload_n de_Pl_findBest_91 rfl rfl ?_
                refine ev_getfield de_Pl_findBest_92 p0 fl_Pl_15 rfl ?_
                refine ev_iconst de_Pl_findBest_95 ?_
                refine ev_iconst de_Pl_findBest_96 ?_
                refine ev_copyi de_Pl_findBest_97 ck_Pl_50 (by decide) p1 p2 (by decide) (by decide) (Or.inl rfl) (Nat.le_of_ble_eq_true rfl) (by decide) ?_
                refine ev_gen (P := fun w1 => pla p row (ab_cp row best 0 0 5) (sp_worth f (i : Int) n fr) angs2 had2 w1 ∧ fr_at p 5 w0 w1) ⟨pla_2 hG, fr_set hf (by omega) (by omega)⟩ (fun w1 hm1 => ?_)
                obtain ⟨hG, hf⟩ := hm1
                have hRw := rj_fr hRb hf (by omega)
                have hR := hRw
                obtain ⟨sl, fs, vo, li, ra, wo, dh, da, hzz⟩ := hR
                obtain ⟨ds, dn, vw, q0, q1, q2, q3, q4, hzz⟩ := hzz
                obtain ⟨q5, q6, q7, q8, q9, q10, q11, q12, hzz⟩ := hzz
                obtain ⟨e1, e2, e3, e4, e5, e6, e7, e8, e9⟩ := hzz
                obtain ⟨p0, p1, p2, p3, p4⟩ := id hG
                have hb9 : sp_worth f (i : Int) n fr = (sp_pb f n fr (i + 1)).2 ∧ rw_ n (sp_pb f n fr (i + 1)).1 (ab_cp row best 0 0 5) := by
                  rw [hbe]
                  refine ⟨rfl, fun t ht => ?_⟩
                  unfold ab_cp
                  rw [if_pos (by omega), show (0 : Int) + ((t : Int) - 0) = (t : Int) by omega]
                  exact hrow t ht
                refine ev_aload_n de_Pl_findBest_100 rfl rfl ?_
                refine ev_iload_n de_Pl_findBest_101 rfl rfl ?_
                refine ev_virtual (ci := 4) (mc := 0) (ms := 0) (bc := 0) (bs := 0) de_Pl_findBest_102 (co_Pl_nextRow n hn0 hn1 i hi _ _ _ _ hG hrow) kb_Pl_56 ⟨im_Pl_nextRow, se_Pl_nextRow⟩ rfl p0 rfl (Nat.le_of_ble_eq_true rfl) (by decide) (Or.inl (fun r w1 h => by obtain ⟨_, _, _, _, hl, _⟩ := h; exact hl.1)) (fun r1 w1 hm1 => ?_)
                obtain ⟨row9, c9, rfl, hG, hf1, hc9⟩ := hm1
                · skip
                  have hf := fr_tr hf hf1
                  obtain ⟨p0, p1, p2, p3, p4⟩ := id hG
                  have hS9 : (∃ c : Nat, c9 = (c : Int) ∧ c ≤ n ∧ i + 1 < 3 ^ n ∧ rw_ n ((i + 1 : Nat) : Int) row9 ∧ wt_ f n ((i + 1 : Nat) : Int) c angs2 had2) ∨ (c9 = -1 ∧ i + 1 = 3 ^ n ∧ ∀ h : Int, 0 ≤ h → h < 7 → had2 h = 0) := by
                    rcases hc9 with ⟨e1, e2⟩ | ⟨⟨e1, e2⟩, e3, e4, e5⟩
                    · exact Or.inr ⟨e1, e2, hT2.2.2⟩
                    · exact Or.inl ⟨c9.toNat, by omega, by omega, e3, e4, wt_nx hT2 (by omega) (fun t ht => e5 t (by omega))⟩
                  refine ev_istore (l' := [_, _, _, _, _, _, _]) de_Pl_findBest_105 (Nat.le_of_ble_eq_true rfl) rfl ?_
                  refine ev_iinc (l' := [_, _, _, _, _, _, _]) de_Pl_findBest_107 rfl rfl ?_
                  refine ev_goto (tgt := 24) de_Pl_findBest_110 (by decide) ?_
                  exact ih (i + 1) _ _ _ _ _ _ _ _ (by omega) (by omega) hG hS9 (Or.inr hb9) hf
          · skip
            have efr : fr = 1 := by omega
            refine ev_aload_n de_Pl_findBest_49 rfl rfl ?_
            refine ev_aload_n de_Pl_findBest_50 rfl rfl ?_
            refine ev_iload_n de_Pl_findBest_51 rfl rfl ?_
            refine ev_vv (ci := 4) de_Pl_findBest_52 (co_Pl_leastHad hI hB hRw n hn1 (i : Int) hG (hT2.2.1 n (Nat.le_refl _)) h11) kb_Pl_40 ⟨im_Pl_leastHad, se_Pl_leastHad⟩ rfl p0 rfl (Nat.le_of_ble_eq_true rfl) (by decide) rfl ?_
            refine ev_top (congrArg Sum.inl (show _ = sp_worth f (i : Int) n fr from by unfold sp_worth; rw [if_neg (by omega)])) ?_
            refine ev_goto (tgt := 64) de_Pl_findBest_55 (by decide) ?_
            refine ev_istore (l' := [_, _, _, _, _, _, _]) de_Pl_findBest_64 (Nat.le_of_ble_eq_true rfl) rfl ?_
            refine ev_iload de_Pl_findBest_66 rfl ?_
            refine ev_if_eq (tgt := 80) de_Pl_findBest_68 (by decide) (by omega) (fun h68 => ?_) (fun h68 => ?_)
            · skip
              have hcd : i = 0 ∨ (sp_pb f n fr i).2 < sp_worth f (i : Int) n fr := Or.inl (by omega)
              have hbe : sp_pb f n fr (i + 1) = ((i : Int), sp_worth f (i : Int) n fr) := by
                by_cases z : i = 0
                · subst z
                  rw [pb_s f n fr 0 (Or.inr rfl), if_pos (Or.inl rfl)]
                · rw [pb_s f n fr i (Or.inl (by rw [show i = (i - 1) + 1 by omega]; exact pb_pos f n fr (i - 1))), if_pos hcd]
              refine ev_aload_n de_Pl_findBest_80 rfl rfl ?_
              refine ev_iload de_Pl_findBest_81 rfl ?_
              refine ev_putfield de_Pl_findBest_83 p0 (fp_Pl_47 _) (Nat.le_of_ble_eq_true rfl) trivial ?_
              refine ev_gen (P := fun w1 => pla p row best (sp_worth f (i : Int) n fr) angs2 had2 w1 ∧ fr_at p 5 w0 w1) ⟨pla_o hG, fr_set hf (by omega) (by omega)⟩ (fun w1 hm1 => ?_)
              obtain ⟨hG, hf⟩ := hm1
              have hRw := rj_fr hRb hf (by omega)
              have hR := hRw
              obtain ⟨sl, fs, vo, li, ra, wo, dh, da, hzz⟩ := hR
              obtain ⟨ds, dn, vw, q0, q1, q2, q3, q4, hzz⟩ := hzz
              obtain ⟨q5, q6, q7, q8, q9, q10, q11, q12, hzz⟩ := hzz
              obtain ⟨e1, e2, e3, e4, e5, e6, e7, e8, e9⟩ := hzz
              obtain ⟨p0, p1, p2, p3, p4⟩ := id hG
              refine ev_aload_n de_Pl_findBest_86 rfl rfl ?_
              refine ev_getfield de_Pl_findBest_87 p0 fl_Pl_11 rfl ?_
              refine ev_iconst de_Pl_findBest_90 ?_
              refine ev_aload_n de_Pl_findBest_91 rfl rfl ?_
              refine ev_getfield de_Pl_findBest_92 p0 fl_Pl_15 rfl ?_
              refine ev_iconst de_Pl_findBest_95 ?_
              refine ev_iconst de_Pl_findBest_96 ?_
              refine ev_copyi de_Pl_findBest_97 ck_Pl_50 (by decide) p1 p2 (by decide) (by decide) (Or.inl rfl) (Nat.le_of_ble_eq_true rfl) (by decide) ?_
              refine ev_gen (P := fun w1 => pla p row (ab_cp row best 0 0 5) (sp_worth f (i : Int) n fr) angs2 had2 w1 ∧ fr_at p 5 w0 w1) ⟨pla_2 hG, fr_set hf (by omega) (by omega)⟩ (fun w1 hm1 => ?_)
              obtain ⟨hG, hf⟩ := hm1
              have hRw := rj_fr hRb hf (by omega)
              have hR := hRw
              obtain ⟨sl, fs, vo, li, ra, wo, dh, da, hzz⟩ := hR
              obtain ⟨ds, dn, vw, q0, q1, q2, q3, q4, hzz⟩ := hzz
              obtain ⟨q5, q6, q7, q8, q9, q10, q11, q12, hzz⟩ := hzz
              obtain ⟨e1, e2, e3, e4, e5, e6, e7, e8, e9⟩ := hzz
              obtain ⟨p0, p1, p2, p3, p4⟩ := id hG
              have hb9 : sp_worth f (i : Int) n fr = (sp_pb f n fr (i + 1)).2 ∧ rw_ n (sp_pb f n fr (i + 1)).1 (ab_cp row best 0 0 5) := by
                rw [hbe]
                refine ⟨rfl, fun t ht => ?_⟩
                unfold ab_cp
                rw [if_pos (by omega), show (0 : Int) + ((t : Int) - 0) = (t : Int) by omega]
                exact hrow t ht
              refine ev_aload_n de_Pl_findBest_100 rfl rfl ?_
              refine ev_iload_n de_Pl_findBest_101 rfl rfl ?_
              refine ev_virtual (ci := 4) (mc := 0) (ms := 0) (bc := 0) (bs := 0) de_Pl_findBest_102 (co_Pl_nextRow n hn0 hn1 i hi _ _ _ _ hG hrow) kb_Pl_56 ⟨im_Pl_nextRow, se_Pl_nextRow⟩ rfl p0 rfl (Nat.le_of_ble_eq_true rfl) (by decide) (Or.inl (fun r w1 h => by obtain ⟨_, _, _, _, hl, _⟩ := h; exact hl.1)) (fun r1 w1 hm1 => ?_)
              obtain ⟨row9, c9, rfl, hG, hf1, hc9⟩ := hm1
              · skip
                have hf := fr_tr hf hf1
                obtain ⟨p0, p1, p2, p3, p4⟩ := id hG
                have hS9 : (∃ c : Nat, c9 = (c : Int) ∧ c ≤ n ∧ i + 1 < 3 ^ n ∧ rw_ n ((i + 1 : Nat) : Int) row9 ∧ wt_ f n ((i + 1 : Nat) : Int) c angs2 had2) ∨ (c9 = -1 ∧ i + 1 = 3 ^ n ∧ ∀ h : Int, 0 ≤ h → h < 7 → had2 h = 0) := by
                  rcases hc9 with ⟨e1, e2⟩ | ⟨⟨e1, e2⟩, e3, e4, e5⟩
                  · exact Or.inr ⟨e1, e2, hT2.2.2⟩
                  · exact Or.inl ⟨c9.toNat, by omega, by omega, e3, e4, wt_nx hT2 (by omega) (fun t ht => e5 t (by omega))⟩
                refine ev_istore (l' := [_, _, _, _, _, _, _]) de_Pl_findBest_105 (Nat.le_of_ble_eq_true rfl) rfl ?_
                refine ev_iinc (l' := [_, _, _, _, _, _, _]) de_Pl_findBest_107 rfl rfl ?_
                refine ev_goto (tgt := 24) de_Pl_findBest_110 (by decide) ?_
                exact ih (i + 1) _ _ _ _ _ _ _ _ (by omega) (by omega) hG hS9 (Or.inr hb9) hf
            · skip
              have hbst2 := hbst.resolve_left (by omega)
              refine ev_iload de_Pl_findBest_71 rfl ?_
              refine ev_aload_n de_Pl_findBest_73 rfl rfl ?_
              refine ev_getfield de_Pl_findBest_74 p0 fl_Pl_47 rfl ?_
              refine ev_icmp_le (tgt := 100) de_Pl_findBest_77 (by decide) (by first | omega | (have := hbst2.1; omega)) (by first | omega | (have := hbst2.1; omega)) (fun h77 => ?_) (fun h77 => ?_)
              · skip
                have hbe : sp_pb f n fr (i + 1) = sp_pb f n fr i := by
                  rw [pb_s f n fr i (Or.inl (by rw [show i = (i - 1) + 1 by omega]; exact pb_pos f n fr (i - 1))), if_neg (by have := hbst2.1; omega)]
                have hb9 : wv = (sp_pb f n fr (i + 1)).2 ∧ rw_ n (sp_pb f n fr (i + 1)).1 best := by rw [hbe]; exact hbst2
                refine ev_aload_n de_Pl_findBest_100 rfl rfl ?_
                refine ev_iload_n de_Pl_findBest_101 rfl rfl ?_
                refine ev_virtual (ci := 4) (mc := 0) (ms := 0) (bc := 0) (bs := 0) de_Pl_findBest_102 (co_Pl_nextRow n hn0 hn1 i hi _ _ _ _ hG hrow) kb_Pl_56 ⟨im_Pl_nextRow, se_Pl_nextRow⟩ rfl p0 rfl (Nat.le_of_ble_eq_true rfl) (by decide) (Or.inl (fun r w1 h => by obtain ⟨_, _, _, _, hl, _⟩ := h; exact hl.1)) (fun r1 w1 hm1 => ?_)
                obtain ⟨row9, c9, rfl, hG, hf1, hc9⟩ := hm1
                · skip
                  have hf := fr_tr hf hf1
                  obtain ⟨p0, p1, p2, p3, p4⟩ := id hG
                  have hS9 : (∃ c : Nat, c9 = (c : Int) ∧ c ≤ n ∧ i + 1 < 3 ^ n ∧ rw_ n ((i + 1 : Nat) : Int) row9 ∧ wt_ f n ((i + 1 : Nat) : Int) c angs2 had2) ∨ (c9 = -1 ∧ i + 1 = 3 ^ n ∧ ∀ h : Int, 0 ≤ h → h < 7 → had2 h = 0) := by
                    rcases hc9 with ⟨e1, e2⟩ | ⟨⟨e1, e2⟩, e3, e4, e5⟩
                    · exact Or.inr ⟨e1, e2, hT2.2.2⟩
                    · exact Or.inl ⟨c9.toNat, by omega, by omega, e3, e4, wt_nx hT2 (by omega) (fun t ht => e5 t (by omega))⟩
                  refine ev_istore (l' := [_, _, _, _, _, _, _]) de_Pl_findBest_105 (Nat.le_of_ble_eq_true rfl) rfl ?_
                  refine ev_iinc (l' := [_, _, _, _, _, _, _]) de_Pl_findBest_107 rfl rfl ?_
                  refine ev_goto (tgt := 24) de_Pl_findBest_110 (by decide) ?_
                  exact ih (i + 1) _ _ _ _ _ _ _ _ (by omega) (by omega) hG hS9 (Or.inr hb9) hf
              · skip
                have hcd : i = 0 ∨ (sp_pb f n fr i).2 < sp_worth f (i : Int) n fr := Or.inr (by have := hbst2.1; omega)
                have hbe : sp_pb f n fr (i + 1) = ((i : Int), sp_worth f (i : Int) n fr) := by
                  by_cases z : i = 0
                  · subst z
                    rw [pb_s f n fr 0 (Or.inr rfl), if_pos (Or.inl rfl)]
                  · rw [pb_s f n fr i (Or.inl (by rw [show i = (i - 1) + 1 by omega]; exact pb_pos f n fr (i - 1))), if_pos hcd]
                refine ev_aload_n de_Pl_findBest_80 rfl rfl ?_
                refine ev_iload de_Pl_findBest_81 rfl ?_
                refine ev_putfield de_Pl_findBest_83 p0 (fp_Pl_47 _) (Nat.le_of_ble_eq_true rfl) trivial ?_
                refine ev_gen (P := fun w1 => pla p row best (sp_worth f (i : Int) n fr) angs2 had2 w1 ∧ fr_at p 5 w0 w1) ⟨pla_o hG, fr_set hf (by omega) (by omega)⟩ (fun w1 hm1 => ?_)
                obtain ⟨hG, hf⟩ := hm1
                have hRw := rj_fr hRb hf (by omega)
                have hR := hRw
                obtain ⟨sl, fs, vo, li, ra, wo, dh, da, hzz⟩ := hR
                obtain ⟨ds, dn, vw, q0, q1, q2, q3, q4, hzz⟩ := hzz
                obtain ⟨q5, q6, q7, q8, q9, q10, q11, q12, hzz⟩ := hzz
                obtain ⟨e1, e2, e3, e4, e5, e6, e7, e8, e9⟩ := hzz
                obtain ⟨p0, p1, p2, p3, p4⟩ := id hG
                refine ev_aload_n de_Pl_findBest_86 rfl rfl ?_
                refine ev_getfield de_Pl_findBest_87 p0 fl_Pl_11 rfl ?_
                refine ev_iconst de_Pl_findBest_90 ?_
                refine ev_aload_n de_Pl_findBest_91 rfl rfl ?_
                refine ev_getfield de_Pl_findBest_92 p0 fl_Pl_15 rfl ?_
                refine ev_iconst de_Pl_findBest_95 ?_
                refine ev_iconst de_Pl_findBest_96 ?_
                refine ev_copyi de_Pl_findBest_97 ck_Pl_50 (by decide) p1 p2 (by decide) (by decide) (Or.inl rfl) (Nat.le_of_ble_eq_true rfl) (by decide) ?_
                refine ev_gen (P := fun w1 => pla p row (ab_cp row best 0 0 5) (sp_worth f (i : Int) n fr) angs2 had2 w1 ∧ fr_at p 5 w0 w1) ⟨pla_2 hG, fr_set hf (by omega) (by omega)⟩ (fun w1 hm1 => ?_)
                obtain ⟨hG, hf⟩ := hm1
                have hRw := rj_fr hRb hf (by omega)
                have hR := hRw
                obtain ⟨sl, fs, vo, li, ra, wo, dh, da, hzz⟩ := hR
                obtain ⟨ds, dn, vw, q0, q1, q2, q3, q4, hzz⟩ := hzz
                obtain ⟨q5, q6, q7, q8, q9, q10, q11, q12, hzz⟩ := hzz
                obtain ⟨e1, e2, e3, e4, e5, e6, e7, e8, e9⟩ := hzz
                obtain ⟨p0, p1, p2, p3, p4⟩ := id hG
                have hb9 : sp_worth f (i : Int) n fr = (sp_pb f n fr (i + 1)).2 ∧ rw_ n (sp_pb f n fr (i + 1)).1 (ab_cp row best 0 0 5) := by
                  rw [hbe]
                  refine ⟨rfl, fun t ht => ?_⟩
                  unfold ab_cp
                  rw [if_pos (by omega), show (0 : Int) + ((t : Int) - 0) = (t : Int) by omega]
                  exact hrow t ht
                refine ev_aload_n de_Pl_findBest_100 rfl rfl ?_
                refine ev_iload_n de_Pl_findBest_101 rfl rfl ?_
                refine ev_virtual (ci := 4) (mc := 0) (ms := 0) (bc := 0) (bs := 0) de_Pl_findBest_102 (co_Pl_nextRow n hn0 hn1 i hi _ _ _ _ hG hrow) kb_Pl_56 ⟨im_Pl_nextRow, se_Pl_nextRow⟩ rfl p0 rfl (Nat.le_of_ble_eq_true rfl) (by decide) (Or.inl (fun r w1 h => by obtain ⟨_, _, _, _, hl, _⟩ := h; exact hl.1)) (fun r1 w1 hm1 => ?_)
                obtain ⟨row9, c9, rfl, hG, hf1, hc9⟩ := hm1
                · skip
                  have hf := fr_tr hf hf1
                  obtain ⟨p0, p1, p2, p3, p4⟩ := id hG
                  have hS9 : (∃ c : Nat, c9 = (c : Int) ∧ c ≤ n ∧ i + 1 < 3 ^ n ∧ rw_ n ((i + 1 : Nat) : Int) row9 ∧ wt_ f n ((i + 1 : Nat) : Int) c angs2 had2) ∨ (c9 = -1 ∧ i + 1 = 3 ^ n ∧ ∀ h : Int, 0 ≤ h → h < 7 → had2 h = 0) := by
                    rcases hc9 with ⟨e1, e2⟩ | ⟨⟨e1, e2⟩, e3, e4, e5⟩
                    · exact Or.inr ⟨e1, e2, hT2.2.2⟩
                    · exact Or.inl ⟨c9.toNat, by omega, by omega, e3, e4, wt_nx hT2 (by omega) (fun t ht => e5 t (by omega))⟩
                  refine ev_istore (l' := [_, _, _, _, _, _, _]) de_Pl_findBest_105 (Nat.le_of_ble_eq_true rfl) rfl ?_
                  refine ev_iinc (l' := [_, _, _, _, _, _, _]) de_Pl_findBest_107 rfl rfl ?_
                  refine ev_goto (tgt := 24) de_Pl_findBest_110 (by decide) ?_
                  exact ih (i + 1) _ _ _ _ _ _ _ _ (by omega) (by omega) hG hS9 (Or.inr hb9) hf
set_option maxHeartbeats 4000000 in
set_option maxRecDepth 10000 in
theorem co_Pl_findBest {o p : Nat} {f : Int → Int} {x B : Int} {w0 : ab_W} (hI : sg_ok B f) (hB : B ≤ 29000) (hRb : ri_at_j o f x w0) (hdj : o + 13 ≤ p ∨ p + 5 ≤ o) (h11 : 1 ≤ f 1) (n : Nat) (hn0 : 1 ≤ n) (hn1 : n ≤ 5) (fr : Int) (hfr : fr = 0 ∨ fr = 1) {row best angs had : Int → Int} {wv : Int} (hG : pla p row best wv angs had w0) (hz : ∀ h : Int, 0 ≤ h → h < 7 → had h = 0) : ab_Mt g_G g_rs mt_Pl_findBest 3 0 0 [ab_R p, ab_R o, ab_I (n : Int), ab_I fr] w0 (fun r w2 => r = none ∧ (∃ row best angs had : Int → Int, pla p row best (sp_pb f n fr (3 ^ n)).2 angs had w2 ∧ rw_ n (sp_pb f n fr (3 ^ n)).1 best ∧ ∀ h : Int, 0 ≤ h → h < 7 → had h = 0) ∧ fr_at p 5 w0 w2) := by
  have hf : fr_at p 5 w0 w0 := fr_0
  obtain ⟨p0, p1, p2, p3, p4⟩ := id hG
  have hR := hRb
  obtain ⟨sl, fs, vo, li, ra, wo, dh, da, hzz⟩ := hR
  obtain ⟨ds, dn, vw, q0, q1, q2, q3, q4, hzz⟩ := hzz
  obtain ⟨q5, q6, q7, q8, q9, q10, q11, q12, hzz⟩ := hzz
  obtain ⟨e1, e2, e3, e4, e5, e6, e7, e8, e9⟩ := hzz
  have b1 := (sg_all hI).2.1
  refine ab_Mt.of rfl (Nat.le_of_ble_eq_true rfl) ?_
  show ab_Ev g_G g_rs mt_Pl_findBest _ _ _ 0 [some (ab_R p), some (ab_R o), some (ab_I (n : Int)), some (ab_I fr), none, none, none] [] _ _
  refine ev_aload_n de_Pl_findBest_0 rfl rfl ?_
  refine ev_getfield de_Pl_findBest_1 p0 fl_Pl_11 rfl ?_
  refine ev_iconst de_Pl_findBest_4 ?_
  refine ev_sn de_Pl_findBest_5 (co_Ar_fill_AIIV _ _ 5 row (-1) p1 (by decide)) kb_Pl_24 sc_Ar_fill_AIIV rfl (Nat.le_of_ble_eq_true rfl) (by decide) (by rw [List.length_set]) ?_
  refine ev_gen (P := fun w1 => pla p (ab_fv row (-1) ((5 : Nat) : Int)) best wv angs had w1 ∧ fr_at p 5 w0 w1) ⟨pla_1 hG, fr_set hf (by omega) (by omega)⟩ (fun w1 hm1 => ?_)
  obtain ⟨hG, hf⟩ := hm1
  have hRw := rj_fr hRb hf (by omega)
  have hR := hRw
  obtain ⟨sl, fs, vo, li, ra, wo, dh, da, hzz⟩ := hR
  obtain ⟨ds, dn, vw, q0, q1, q2, q3, q4, hzz⟩ := hzz
  obtain ⟨q5, q6, q7, q8, q9, q10, q11, q12, hzz⟩ := hzz
  obtain ⟨e1, e2, e3, e4, e5, e6, e7, e8, e9⟩ := hzz
  obtain ⟨p0, p1, p2, p3, p4⟩ := id hG
  refine ev_aload_n de_Pl_findBest_8 rfl rfl ?_
  refine ev_getfield de_Pl_findBest_9 p0 fl_Pl_18 rfl ?_
  refine ev_iconst de_Pl_findBest_12 ?_
  refine ev_aload_n de_Pl_findBest_13 rfl rfl ?_
  refine ev_getfield de_Pl_findBest_14 q0 fl_Pl_30 rfl ?_
  refine ev_iastore de_Pl_findBest_17 p3 (by omega) (by omega) (by omega) ?_
  refine ev_gen (P := fun w1 => pla p (ab_fv row (-1) ((5 : Nat) : Int)) best wv (ab_up angs 0 (f 4)) had w1 ∧ fr_at p 5 w0 w1) ⟨pla_3 hG, fr_set hf (by omega) (by omega)⟩ (fun w1 hm1 => ?_)
  obtain ⟨hG, hf⟩ := hm1
  have hRw := rj_fr hRb hf (by omega)
  have hR := hRw
  obtain ⟨sl, fs, vo, li, ra, wo, dh, da, hzz⟩ := hR
  obtain ⟨ds, dn, vw, q0, q1, q2, q3, q4, hzz⟩ := hzz
  obtain ⟨q5, q6, q7, q8, q9, q10, q11, q12, hzz⟩ := hzz
  obtain ⟨e1, e2, e3, e4, e5, e6, e7, e8, e9⟩ := hzz
  obtain ⟨p0, p1, p2, p3, p4⟩ := id hG
  refine ev_iconst de_Pl_findBest_18 ?_
  refine ev_istore (l' := [_, _, _, _, _, _, _]) de_Pl_findBest_19 (Nat.le_of_ble_eq_true rfl) rfl ?_
  refine ev_iconst de_Pl_findBest_21 ?_
  refine ev_istore (l' := [_, _, _, _, _, _, _]) de_Pl_findBest_22 (Nat.le_of_ble_eq_true rfl) rfl ?_
  exact lo_Pl_findBest hI hB hRb hdj h11 n hn0 hn1 fr hfr (3 ^ n + 1) 0 0 _ _ _ _ _ _ w1 (Nat.zero_le _) (by omega) hG (Or.inl ⟨0, rfl, Nat.zero_le _, Nat.pow_pos (by decide), fun t ht => (by unfold ab_fv; rw [if_pos (by omega)]; show (-1 : Int) = 0 / _ % 3 - 1; rw [Int.zero_ediv]; rfl), fun t ht => (by rw [show t = 0 by omega]; exact (ab_upe _ _ _).trans (ab_upn _ _ (by decide)).symm), fun t ht y y0 y1 => (by rw [show t = 0 by omega]; show had (7 * ((0 : Nat) : Int) + y) = 0; rw [show 7 * ((0 : Nat) : Int) + y = y by omega]; exact hz y y0 (by omega)), hz⟩) (Or.inl rfl) hf
theorem de_Tu_plan_0 : decode prog_1_method_27_code 0 = .ok (.aload_n 0, 1) := by decide +kernel
theorem de_Tu_plan_1 : decode prog_1_method_27_code 1 = .ok (.getfield 19, 3) := by decide +kernel
theorem de_Tu_plan_4 : decode prog_1_method_27_code 4 = .ok (.getfield 102, 3) := by decide +kernel
theorem de_Tu_plan_7 : decode prog_1_method_27_code 7 = .ok (.ifCond .eq 22, 3) := by decide +kernel
theorem de_Tu_plan_10 : decode prog_1_method_27_code 10 = .ok (.iload_n 1, 1) := by decide +kernel
theorem de_Tu_plan_11 : decode prog_1_method_27_code 11 = .ok (.iconst 1, 1) := by decide +kernel
theorem de_Tu_plan_12 : decode prog_1_method_27_code 12 = .ok (.if_icmp .lt 17, 3) := by decide +kernel
theorem de_Tu_plan_15 : decode prog_1_method_27_code 15 = .ok (.iload_n 1, 1) := by decide +kernel
theorem de_Tu_plan_16 : decode prog_1_method_27_code 16 = .ok (.iconst 5, 1) := by decide +kernel
theorem de_Tu_plan_17 : decode prog_1_method_27_code 17 = .ok (.if_icmp .gt 12, 3) := by decide +kernel
theorem de_Tu_plan_20 : decode prog_1_method_27_code 20 = .ok (.iload_n 3, 1) := by decide +kernel
theorem de_Tu_plan_21 : decode prog_1_method_27_code 21 = .ok (.ifCond .lt 8, 3) := by decide +kernel
theorem de_Tu_plan_24 : decode prog_1_method_27_code 24 = .ok (.iload_n 3, 1) := by decide +kernel
theorem de_Tu_plan_25 : decode prog_1_method_27_code 25 = .ok (.iconst 5, 1) := by decide +kernel
theorem de_Tu_plan_26 : decode prog_1_method_27_code 26 = .ok (.if_icmp .le 6, 3) := by decide +kernel
theorem de_Tu_plan_29 : decode prog_1_method_27_code 29 = .ok (.ldc 208, 2) := by decide +kernel
theorem de_Tu_plan_31 : decode prog_1_method_27_code 31 = .ok (.ireturn, 1) := by decide +kernel
theorem de_Tu_plan_32 : decode prog_1_method_27_code 32 = .ok (.iload_n 3, 1) := by decide +kernel
theorem de_Tu_plan_33 : decode prog_1_method_27_code 33 = .ok (.iload_n 1, 1) := by decide +kernel
theorem de_Tu_plan_34 : decode prog_1_method_27_code 34 = .ok (.if_icmp .le 6, 3) := by decide +kernel
theorem de_Tu_plan_37 : decode prog_1_method_27_code 37 = .ok (.bipush (-2), 2) := by decide +kernel
theorem de_Tu_plan_39 : decode prog_1_method_27_code 39 = .ok (.ireturn, 1) := by decide +kernel
theorem de_Tu_plan_40 : decode prog_1_method_27_code 40 = .ok (.aload_n 0, 1) := by decide +kernel
theorem de_Tu_plan_41 : decode prog_1_method_27_code 41 = .ok (.getfield 64, 3) := by decide +kernel
theorem de_Tu_plan_44 : decode prog_1_method_27_code 44 = .ok (.aload_n 0, 1) := by decide +kernel
theorem de_Tu_plan_45 : decode prog_1_method_27_code 45 = .ok (.getfield 19, 3) := by decide +kernel
theorem de_Tu_plan_48 : decode prog_1_method_27_code 48 = .ok (.iload_n 1, 1) := by decide +kernel
theorem de_Tu_plan_49 : decode prog_1_method_27_code 49 = .ok (.iload_n 2, 1) := by decide +kernel
theorem de_Tu_plan_50 : decode prog_1_method_27_code 50 = .ok (.invokevirtual 273, 3) := by decide +kernel
theorem de_Tu_plan_53 : decode prog_1_method_27_code 53 = .ok (.iload_n 3, 1) := by decide +kernel
theorem de_Tu_plan_54 : decode prog_1_method_27_code 54 = .ok (.ifCond .ne 13, 3) := by decide +kernel
theorem de_Tu_plan_57 : decode prog_1_method_27_code 57 = .ok (.aload_n 0, 1) := by decide +kernel
theorem de_Tu_plan_58 : decode prog_1_method_27_code 58 = .ok (.getfield 64, 3) := by decide +kernel
theorem de_Tu_plan_61 : decode prog_1_method_27_code 61 = .ok (.getfield 277, 3) := by decide +kernel
theorem de_Tu_plan_64 : decode prog_1_method_27_code 64 = .ok (.goto 14, 3) := by decide +kernel
theorem de_Tu_plan_67 : decode prog_1_method_27_code 67 = .ok (.aload_n 0, 1) := by decide +kernel
theorem de_Tu_plan_68 : decode prog_1_method_27_code 68 = .ok (.getfield 64, 3) := by decide +kernel
theorem de_Tu_plan_71 : decode prog_1_method_27_code 71 = .ok (.getfield 280, 3) := by decide +kernel
theorem de_Tu_plan_74 : decode prog_1_method_27_code 74 = .ok (.iload_n 3, 1) := by decide +kernel
theorem de_Tu_plan_75 : decode prog_1_method_27_code 75 = .ok (.iconst 1, 1) := by decide +kernel
theorem de_Tu_plan_76 : decode prog_1_method_27_code 76 = .ok (.isub, 1) := by decide +kernel
theorem de_Tu_plan_77 : decode prog_1_method_27_code 77 = .ok (.iaload, 1) := by decide +kernel
theorem de_Tu_plan_78 : decode prog_1_method_27_code 78 = .ok (.ireturn, 1) := by decide +kernel
set_option maxHeartbeats 4000000 in
set_option maxRecDepth 10000 in
theorem co_Tu_plan {a b : Nat} {rc : Int} {f : Int → Int} {x B : Int} {w : ab_W} (hI : sg_ok B f) (t0 : tu_at a b rc w) (hR : ri_at_j a f x w) (hB : B ≤ 29000) (hab : a = 3 ∨ a = 16) {row best angs had : Int → Int} {wv : Int} (hPl : pla 40 row best wv angs had w) (hz : ∀ h : Int, 0 ≤ h → h < 7 → had h = 0) (y1 : Int) (hy1 : ab_in y1) (y2 : Int) (b2 : y2 = 0 ∨ y2 = 1) (y3 : Int) (hy3 : ab_in y3) : ab_Mt g_G g_rs mt_Tu_plan 4 0 0 [ab_R 0, ab_I y1, ab_I y2, ab_I y3] w (fun r w2 => w2.length = w.length ∧ r = some (ab_I (if ¬ f 1 = 0 ∧ (1 ≤ y1 ∧ y1 ≤ 5) ∧ 0 ≤ y3 ∧ y3 ≤ 5 then sp_plan f y1 y2 y3 else -100000)) ∧ (∃ had2 : Int → Int, w2[44]? = some (ab_ai 0 42 had2) ∧ ∀ h : Int, 0 ≤ h → h < 7 → had2 h = 0)) := by
  have ht0 := t0
  have hR0 := hR
  have hI0 := hI
  unfold tu_at at t0
  obtain ⟨sl, fs, vo, li, ra, wo, dh, da, hzz⟩ := hR
  obtain ⟨ds, dn, vw, q0, q1, q2, q3, q4, hzz⟩ := hzz
  obtain ⟨q5, q6, q7, q8, q9, q10, q11, q12, hzz⟩ := hzz
  obtain ⟨e1, e2, e3, e4, e5, e6, e7, e8, e9⟩ := hzz
  obtain ⟨i0, i1, i2, i3, i4, i5, i6, i7, hzz⟩ := sg_all hI
  obtain ⟨i8, i9, i10, i11, i12, i13, i14, i15, hzz⟩ := hzz
  obtain ⟨i16, i17⟩ := hzz
  obtain ⟨pp0, pp1, pp2, pp3, pp4⟩ := id hPl
  refine ab_Mt.of rfl (Nat.le_of_ble_eq_true rfl) ?_
  show ab_Ev g_G g_rs mt_Tu_plan _ _ _ 0 [some (ab_R 0), some (ab_I y1), some (ab_I y2), some (ab_I y3)] [] _ _
  refine ev_aload_n de_Tu_plan_0 rfl rfl ?_
  refine ev_getfield de_Tu_plan_1 t0 fl_Tu_19 rfl ?_
  refine ev_getfield de_Tu_plan_4 q0 fl_Tu_102 rfl ?_
  refine ev_if_eq (tgt := 29) de_Tu_plan_7 (by decide) (by first | omega | assumption) (fun h7 => ?_) (fun h7 => ?_)
  · skip
    refine ev_ldc (n := -100000) de_Tu_plan_29 cn_Tu_208 rfl ?_
    exact ev_ireturn de_Tu_plan_31 rfl ⟨rfl, congrArg (fun z => some (ab_I z)) (by rw [if_neg (fun z => by omega)]), _, pp4, hz⟩
  · skip
    refine ev_iload_n de_Tu_plan_10 rfl rfl ?_
    refine ev_iconst de_Tu_plan_11 ?_
    refine ev_icmp_lt (tgt := 29) de_Tu_plan_12 (by decide) (by first | omega | assumption) (by first | omega | assumption) (fun h12 => ?_) (fun h12 => ?_)
    · skip
      refine ev_ldc (n := -100000) de_Tu_plan_29 cn_Tu_208 rfl ?_
      exact ev_ireturn de_Tu_plan_31 rfl ⟨rfl, congrArg (fun z => some (ab_I z)) (by rw [if_neg (fun z => by omega)]), _, pp4, hz⟩
    · skip
      refine ev_iload_n de_Tu_plan_15 rfl rfl ?_
      refine ev_iconst de_Tu_plan_16 ?_
      refine ev_icmp_gt (tgt := 29) de_Tu_plan_17 (by decide) (by first | omega | assumption) (by first | omega | assumption) (fun h17 => ?_) (fun h17 => ?_)
      · skip
        refine ev_ldc (n := -100000) de_Tu_plan_29 cn_Tu_208 rfl ?_
        exact ev_ireturn de_Tu_plan_31 rfl ⟨rfl, congrArg (fun z => some (ab_I z)) (by rw [if_neg (fun z => by omega)]), _, pp4, hz⟩
      · skip
        refine ev_iload_n de_Tu_plan_20 rfl rfl ?_
        refine ev_if_lt (tgt := 29) de_Tu_plan_21 (by decide) (by first | omega | assumption) (fun h21 => ?_) (fun h21 => ?_)
        · skip
          refine ev_ldc (n := -100000) de_Tu_plan_29 cn_Tu_208 rfl ?_
          exact ev_ireturn de_Tu_plan_31 rfl ⟨rfl, congrArg (fun z => some (ab_I z)) (by rw [if_neg (fun z => by omega)]), _, pp4, hz⟩
        · skip
          refine ev_iload_n de_Tu_plan_24 rfl rfl ?_
          refine ev_iconst de_Tu_plan_25 ?_
          refine ev_icmp_le (tgt := 32) de_Tu_plan_26 (by decide) (by first | omega | assumption) (by first | omega | assumption) (fun h26 => ?_) (fun h26 => ?_)
          · skip
            have hg : ¬ f 1 = 0 ∧ (1 ≤ y1 ∧ y1 ≤ 5) ∧ 0 ≤ y3 ∧ y3 ≤ 5 := by omega
            rw [if_pos hg]
            refine ev_iload_n de_Tu_plan_32 rfl rfl ?_
            refine ev_iload_n de_Tu_plan_33 rfl rfl ?_
            refine ev_icmp_le (tgt := 40) de_Tu_plan_34 (by decide) (by first | omega | assumption) (by first | omega | assumption) (fun h34 => ?_) (fun h34 => ?_)
            · skip
              obtain ⟨N, rfl⟩ := Int.eq_ofNat_of_zero_le (show 0 ≤ y1 by omega)
              refine ev_aload_n de_Tu_plan_40 rfl rfl ?_
              refine ev_getfield de_Tu_plan_41 t0 fl_Tu_64 rfl ?_
              refine ev_aload_n de_Tu_plan_44 rfl rfl ?_
              refine ev_getfield de_Tu_plan_45 t0 fl_Tu_19 rfl ?_
              refine ev_iload_n de_Tu_plan_48 rfl rfl ?_
              refine ev_iload_n de_Tu_plan_49 rfl rfl ?_
              refine ev_virtual (ci := 4) (mc := 0) (ms := 0) (bc := 0) (bs := 0) de_Tu_plan_50 (co_Pl_findBest hI0 hB hR0 (by omega) (by omega) N (by omega) (by omega) y2 b2 hPl hz) kb_Tu_273 ⟨im_Pl_findBest, se_Pl_findBest⟩ rfl pp0 rfl (Nat.le_of_ble_eq_true rfl) (by decide) (Or.inl (fun r w1 h => h.2.2.1)) (fun r1 w1 hm1 => ?_)
              obtain ⟨rfl, ⟨row9, best9, angs9, had9, hG, hb, hz9⟩, hf1⟩ := hm1
              · skip
                have t0 := (hf1.2 0 (by omega)).trans t0
                obtain ⟨p0, p1, p2, p3, p4⟩ := id hG
                refine ev_iload_n de_Tu_plan_53 rfl rfl ?_
                refine ev_if_ne (tgt := 67) de_Tu_plan_54 (by decide) (by first | omega | assumption) (fun h54 => ?_) (fun h54 => ?_)
                · skip
                  refine ev_aload_n de_Tu_plan_67 rfl rfl ?_
                  refine ev_getfield de_Tu_plan_68 t0 fl_Tu_64 rfl ?_
                  refine ev_getfield de_Tu_plan_71 p0 fl_Tu_280 rfl ?_
                  refine ev_iload_n de_Tu_plan_74 rfl rfl ?_
                  refine ev_iconst de_Tu_plan_75 ?_
                  refine ev_isub de_Tu_plan_76 ?_
                  refine ev_iaload de_Tu_plan_77 p2 (by first | omega | assumption) (by first | omega | assumption) (by first | omega | assumption) ?_
                  exact ev_ireturn de_Tu_plan_78 rfl ⟨hf1.1, congrArg (fun z => some (ab_I z)) (by unfold sp_plan; rw [Int.toNat_natCast]; first | (rw [if_pos (show y3 = 0 by omega)]; done) | (rw [if_neg (show ¬ y3 = 0 by omega), if_neg (show ¬ (N : Int) < y3 by omega)]; have q := hb (y3 - 1).toNat (by omega); rw [show (((y3 - 1).toNat : Nat) : Int) = y3 - 1 by omega, show N - 1 - (y3 - 1).toNat = ((N : Int) - 1 - (y3 - 1)).toNat by omega] at q; exact q)), _, p4, hz9⟩
                · skip
                  refine ev_aload_n de_Tu_plan_57 rfl rfl ?_
                  refine ev_getfield de_Tu_plan_58 t0 fl_Tu_64 rfl ?_
                  refine ev_getfield de_Tu_plan_61 p0 fl_Tu_277 rfl ?_
                  refine ev_goto (tgt := 78) de_Tu_plan_64 (by decide) ?_
                  exact ev_ireturn de_Tu_plan_78 rfl ⟨hf1.1, congrArg (fun z => some (ab_I z)) (by unfold sp_plan; rw [Int.toNat_natCast]; first | (rw [if_pos (show y3 = 0 by omega)]; done) | (rw [if_neg (show ¬ y3 = 0 by omega), if_neg (show ¬ (N : Int) < y3 by omega)]; have q := hb (y3 - 1).toNat (by omega); rw [show (((y3 - 1).toNat : Nat) : Int) = y3 - 1 by omega, show N - 1 - (y3 - 1).toNat = ((N : Int) - 1 - (y3 - 1)).toNat by omega] at q; exact q)), _, p4, hz9⟩
            · skip
              refine ev_bipush de_Tu_plan_37 rfl ?_
              exact ev_ireturn de_Tu_plan_39 rfl ⟨rfl, congrArg (fun z => some (ab_I z)) (by unfold sp_plan; rw [if_neg (by omega), if_pos (by omega)]), _, pp4, hz⟩
          · skip
            refine ev_ldc (n := -100000) de_Tu_plan_29 cn_Tu_208 rfl ?_
            exact ev_ireturn de_Tu_plan_31 rfl ⟨rfl, congrArg (fun z => some (ab_I z)) (by rw [if_neg (fun z => by omega)]), _, pp4, hz⟩

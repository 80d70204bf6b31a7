def ac_ok (w : ab_W) (ac : Nat) : Prop := ∀ k : Int, 0 ≤ k → k < 20 → ∀ a b c : Int, tm_g w (ac + 1) k = some (ab_I a) → tm_g w (ac + 2) k = some (ab_I b) → tm_g w (ac + 3) k = some (ab_I c) → (a = 1 → 0 ≤ b ∧ b ≤ 23) ∧ (a = 2 → 0 ≤ b ∧ b ≤ 6 ∧ 0 ≤ c ∧ c ≤ 6)
theorem ac_ok.fr {w w2 : ab_W} {ac : Nat} (h : ac_ok w ac) (h1 : ∀ k, tm_g w2 (ac + 1) k = tm_g w (ac + 1) k) (h2 : ∀ k, tm_g w2 (ac + 2) k = tm_g w (ac + 2) k) (h3 : ∀ k, tm_g w2 (ac + 3) k = tm_g w (ac + 3) k) : ac_ok w2 ac := by
  intro k h0 hk a b c ha hb hc
  exact h k h0 hk a b c ((h1 k).symm.trans ha) ((h2 k).symm.trans hb) ((h3 k).symm.trans hc)
theorem ac_keep {w w2 : ab_W} {ac : Nat} {j a b c : Int} (hA : ac_ok w ac) (h1 : ∀ k : Int, ¬ k = j → tm_g w2 (ac + 1) k = tm_g w (ac + 1) k) (h2 : ∀ k : Int, ¬ k = j → tm_g w2 (ac + 2) k = tm_g w (ac + 2) k) (h3 : ∀ k : Int, ¬ k = j → tm_g w2 (ac + 3) k = tm_g w (ac + 3) k) (e1 : tm_g w2 (ac + 1) j = some (ab_I a)) (e2 : tm_g w2 (ac + 2) j = some (ab_I b)) (e3 : tm_g w2 (ac + 3) j = some (ab_I c)) (hk1 : a = 1 → 0 ≤ b ∧ b ≤ 23) (hk2 : a = 2 → 0 ≤ b ∧ b ≤ 6 ∧ 0 ≤ c ∧ c ≤ 6) : ac_ok w2 ac := by
  intro k h0 h20 x y z hx hy hz
  by_cases hkj : k = j
  · subst hkj
    rw [e1] at hx
    rw [e2] at hy
    rw [e3] at hz
    injection hx with hx
    injection hx with hx
    injection hy with hy
    injection hy with hy
    injection hz with hz
    injection hz with hz
    subst hx hy hz
    exact ⟨hk1, hk2⟩
  · exact hA k h0 h20 x y z ((h1 k hkj).symm.trans hx) ((h2 k hkj).symm.trans hy) ((h3 k hkj).symm.trans hz)
theorem tm_n32 {G : ab_G} {rs : List String} {M : ab_M} {d bc bs pc : Nat} {l : ab_L} {st : List ab_V} {w : ab_W} {Q : Option ab_V → ab_W → Prop} {a : Int} (kk : ab_Ev G rs M d bc bs pc l (.inl (Int32.ofInt a).toInt :: st) w Q) : ab_Ev G rs M d bc bs pc l (.inl a :: st) w Q := by
  refine ab_go (pc' := pc) (st' := .inl (Int32.ofInt a).toInt :: st) (fun as _ _ _ _ _ kk => ?_) kk
  have e : List.map (ab_cv as) (.inl a :: st) = List.map (ab_cv as) (.inl (Int32.ofInt a).toInt :: st) := by
    show Value.int (Int32.ofInt a) :: _ = Value.int (Int32.ofInt (Int32.ofInt a).toInt) :: _
    rw [ab_of]
  rw [e]; exact kk

/-! rules, an instruction each: numbers, locals, stack -/
theorem ab_sh : ∀ n : Nat, n < 32 → ((nI n &&& 31).toBitVec.smod 32).toNat = n := by decide +kernel
theorem ab_shu : ∀ n : Nat, n < 32 → (((nI n).toUInt32 &&& Int32.toUInt32 31).toBitVec % 32).toNat = n := by decide +kernel
theorem ab_nI {k : Int} (h : 0 ≤ k) : Int32.ofInt k = nI k.toNat := by
  obtain ⟨n, rfl⟩ := Int.eq_ofNat_of_zero_le h
  rfl
theorem ab_shl {a k : Int} (h0 : 0 ≤ k) (h1 : k < 32) : Int32.ofInt a <<< (Int32.ofInt k &&& 31) = Int32.ofInt (a * 2 ^ k.toNat) := by
  rw [ab_nI h0]
  apply Int32.toBitVec_inj.mp
  apply BitVec.eq_of_toNat_eq
  rw [pk_shl _ _ k.toNat (ab_sh _ (by omega))]
  show (BitVec.ofInt 32 a).toNat * 2 ^ k.toNat % 2 ^ 32 = (BitVec.ofInt 32 (a * 2 ^ k.toNat)).toNat
  rw [BitVec.toNat_ofInt, BitVec.toNat_ofInt]
  have h2 : ((a * 2 ^ k.toNat) % ((2 ^ 32 : Nat) : Int)) = ((a % ((2 ^ 32 : Nat) : Int)) * 2 ^ k.toNat) % ((2 ^ 32 : Nat) : Int) := by rw [Int.mul_emod, Int.mul_emod (a % ((2 ^ 32 : Nat) : Int)) (2 ^ k.toNat), Int.emod_emod_of_dvd a (Int.dvd_refl _)]
  rw [h2]
  have h3 : 0 ≤ a % ((2 ^ 32 : Nat) : Int) := Int.emod_nonneg _ (by decide)
  generalize a % ((2 ^ 32 : Nat) : Int) = z at h3 ⊢
  obtain ⟨n, rfl⟩ := Int.eq_ofNat_of_zero_le h3
  generalize k.toNat = m
  have h4 : ((n : Int) * 2 ^ m) % ((2 ^ 32 : Nat) : Int) = ((n * 2 ^ m % 2 ^ 32 : Nat) : Int) := by rw [Int.natCast_emod, Int.natCast_mul, Int.natCast_pow]; rfl
  rw [h4]
  exact (Int.toNat_natCast _).symm
theorem ab_shr {a k : Int} (ha : ab_in a) (h0 : 0 ≤ k) (h1 : k < 32) : Int32.ofInt a >>> (Int32.ofInt k &&& 31) = Int32.ofInt (a / 2 ^ k.toNat) := by
  rw [ab_nI h0]
  have h := pk_shr (Int32.ofInt a) (nI k.toNat &&& 31) k.toNat (ab_sh _ (by omega))
  rw [ab_ti ha, Int.shiftRight_eq_div_pow] at h
  rw [← ab_of (Int32.ofInt a >>> (nI k.toNat &&& 31)), h]
  congr 1
theorem ab_ushr {a k : Int} (ha : ab_in a) (h0 : 0 ≤ k) (h1 : k < 32) : ((Int32.ofInt a).toUInt32 >>> ((Int32.ofInt k).toUInt32 &&& Int32.toUInt32 31)).toInt32 = Int32.ofInt ((a % 4294967296) / 2 ^ k.toNat) := by
  rw [ab_nI h0]
  apply Int32.toBitVec_inj.mp
  apply BitVec.eq_of_toNat_eq
  rw [pk_ushr _ _ k.toNat (ab_shu _ (by omega))]
  show (BitVec.ofInt 32 a).toNat / 2 ^ k.toNat = (BitVec.ofInt 32 ((a % 4294967296) / 2 ^ k.toNat)).toNat
  rw [BitVec.toNat_ofInt, BitVec.toNat_ofInt]
  have h3 : 0 ≤ a % 4294967296 := Int.emod_nonneg _ (by decide)
  have h4 : a % 4294967296 < 4294967296 := Int.emod_lt_of_pos _ (by decide)
  show (a % 4294967296).toNat / 2 ^ k.toNat = ((a % 4294967296 / 2 ^ k.toNat) % 4294967296).toNat
  generalize a % 4294967296 = z at h3 h4 ⊢
  obtain ⟨n, rfl⟩ := Int.eq_ofNat_of_zero_le h3
  generalize k.toNat = m
  have h5 : ((n : Int) / 2 ^ m) = ((n / 2 ^ m : Nat) : Int) := by push_cast; rfl
  rw [h5]
  have h6 : n / 2 ^ m ≤ n := Nat.div_le_self _ _
  rw [Int.toNat_natCast]
  generalize n / 2 ^ m = q at h6 ⊢
  rw [Int.emod_eq_of_lt (by omega) (by omega)]
  rfl
theorem ab_i2b (a : Int) : (Int32.ofInt a).toInt8.toInt32 = Int32.ofInt (a.bmod 256) := by
  rw [Int32.toInt8_ofInt]
  rw [← ab_of (Int8.ofInt a).toInt32, Int8.toInt_toInt32, Int8.toInt_ofInt]
theorem ab_i2l {a : Int} (ha : ab_in a) : (Int32.ofInt a).toInt64 = Int64.ofInt a := by
  rw [← Int64.ofInt_toInt (Int32.ofInt a).toInt64, Int32.toInt_toInt64, ab_ti ha]
theorem ab_tdiv {a b : Int} (ha : ab_in a) (hb : ab_in b) : Int32.ofInt (a.tdiv b) = Int32.ofInt a / Int32.ofInt b := by
  apply Int32.ofInt_tdiv
  all_goals first | exact ha.1 | exact hb.1 | exact ha.2 | exact hb.2 | (have h1 := ha.2; have h2 := hb.2; first | exact Int.lt_of_le_of_lt ha.2 (by decide) | exact Int.lt_of_le_of_lt hb.2 (by decide))
theorem ab_tmod {a b : Int} (ha : ab_in a) (hb : ab_in b) : Int32.ofInt (a.tmod b) = Int32.ofInt a - Int32.ofInt a / Int32.ofInt b * Int32.ofInt b := by
  rw [← ab_tdiv ha hb, ← Int32.ofInt_mul, ← Int32.ofInt_sub, Int.tmod_def, Int.mul_comm]
def ab_cmp (x y : Int64) : Int := if x > y then 1 else if x = y then 0 else -1
theorem ab_cmp_ok (x y : Int64) : lg_cmp x y = Int32.ofInt (ab_cmp x y) := by
  unfold lg_cmp ab_cmp
  split
  · rfl
  · split <;> rfl
section EVA
variable {G : ab_G} {rs : List String} {M : ab_M} {d bc bs pc : Nat} {l : ab_L} {st : List ab_V} {w : ab_W} {Q : Option ab_V → ab_W → Prop}
theorem ab_go {pc' : Nat} {st st' : List ab_V}
    (h : ∀ {p : Program} {la : Launch} {e : Env} {R : Room} {s : State} {m : MethodId} {args : Array Value} {below : List Frame} {meth : Method} {c : Code} {H : Heap} {locs : List Loc} {cells slots : Nat} {Qz : State → Prop} {ls : Array Slot} (as : Nat → Nat), p.tables.exec = Jvm.exec → c.code = M.2.1 → s.vm.findClass M.1.cls = some m.cls → (∀ x ∈ ab_ws G M, x.before args s = true) → ab_lo as ls M.2.2.1 l →
      W p la e R s m args below meth c H locs cells slots Qz (F0 m pc' ls (st'.map (ab_cv as))) → W p la e R s m args below meth c H locs cells slots Qz (F0 m pc ls (st.map (ab_cv as))))
    (k : ab_Ev G rs M d bc bs pc' l st' w Q) : ab_Ev G rs M d bc bs pc l st w Q := by
  intro p la e R s m args below meth c H locs cells slots D dA aK aV as A ls Qc free hF hs hP hD hS hl h1 h2 hR
  exact h as hF.1 hF.2.1 hF.2.2.2.2.2.1 hF.2.2.2.2.2.2.2.1 hl (k p la e R s m args below meth c H locs cells slots D dA aK aV as A ls Qc free hF hs hP hD hS hl h1 h2 hR)
theorem ev_top {a b : ab_V} (h : a = b) (k : ab_Ev G rs M d bc bs pc l (b :: st) w Q) : ab_Ev G rs M d bc bs pc l (a :: st) w Q := by rw [h]; exact k
theorem ev_world {w' : ab_W} (h : w = w') (k : ab_Ev G rs M d bc bs pc l st w' Q) : ab_Ev G rs M d bc bs pc l st w Q := by rw [h]; exact k
theorem ev_iconst {n : Int} (hd : decode M.2.1 pc = .ok (.iconst n, 1)) (k : ab_Ev G rs M d bc bs (pc + 1) l (.inl n :: st) w Q) : ab_Ev G rs M d bc bs pc l st w Q := ab_go (fun _ hx hb _ _ _ kk => lv_iconst hx hb hd rfl kk) k
theorem ev_bipush {n : Int} (hd : decode M.2.1 pc = .ok (.bipush n, 2)) (hn : (Int8.ofInt n).toInt32 = Int32.ofInt n) (k : ab_Ev G rs M d bc bs (pc + 2) l (.inl n :: st) w Q) : ab_Ev G rs M d bc bs pc l st w Q := ab_go (fun _ hx hb _ _ _ kk => lv_bipush hx hb hd hn kk) k
theorem ev_sipush {n : Int} (hd : decode M.2.1 pc = .ok (.sipush n, 3)) (hn : (Int16.ofInt n).toInt32 = Int32.ofInt n) (k : ab_Ev G rs M d bc bs (pc + 3) l (.inl n :: st) w Q) : ab_Ev G rs M d bc bs pc l st w Q := ab_go (fun _ hx hb _ _ _ kk => lv_sipush hx hb hd hn kk) k
theorem ev_ldc {n : Int} {v : Int32} {idx : Nat} (hd : decode M.2.1 pc = .ok (.ldc idx, 2)) (hc : Cond.constant M.1.cls idx v ∈ G.2.1) (hn : v = Int32.ofInt n) (k : ab_Ev G rs M d bc bs (pc + 2) l (.inl n :: st) w Q) : ab_Ev G rs M d bc bs pc l st w Q := ab_go (fun _ hx hb ho ht _ kk => lv_ldc hx hb ho (ht _ (List.mem_cons_of_mem _ hc)) hd (by rw [hn]; exact kk)) k
theorem ev_ldcw {n : Int} {v : Int32} {idx : Nat} (hd : decode M.2.1 pc = .ok (.ldc_w idx, 3)) (hc : Cond.constant M.1.cls idx v ∈ G.2.1) (hn : v = Int32.ofInt n) (k : ab_Ev G rs M d bc bs (pc + 3) l (.inl n :: st) w Q) : ab_Ev G rs M d bc bs pc l st w Q := ab_go (fun _ hx hb ho ht _ kk => lv_ldcw hx hb ho (ht _ (List.mem_cons_of_mem _ hc)) hd (by rw [hn]; exact kk)) k
theorem ev_ldc2 {v : Int64} {idx : Nat} (hd : decode M.2.1 pc = .ok (.ldc2_w idx, 3)) (hc : Cond.constantLong M.1.cls idx v ∈ G.2.1) (k : ab_Ev G rs M d bc bs (pc + 3) l (.inr (.inl v) :: st) w Q) : ab_Ev G rs M d bc bs pc l st w Q := ab_go (fun _ hx hb ho ht _ kk => lv_ldc2 hx hb ho (ht _ (List.mem_cons_of_mem _ hc)) hd kk) k
theorem ev_lconst {n : Fin 2} (hd : decode M.2.1 pc = .ok (.lconst n, 1)) (k : ab_Ev G rs M d bc bs (pc + 1) l (.inr (.inl (Int64.ofNat (n : Nat))) :: st) w Q) : ab_Ev G rs M d bc bs pc l st w Q := ab_go (fun _ hx hb _ _ _ kk => lv_lconst hx hb hd rfl kk) k
theorem ev_iload_n {k : Fin 4} {i : Nat} {a : Int} (hd : decode M.2.1 pc = .ok (.iload_n k, 1)) (hi : (k : Nat) = i) (hl : l[i]? = some (some (.inl a))) (kk : ab_Ev G rs M d bc bs (pc + 1) l (.inl a :: st) w Q) : ab_Ev G rs M d bc bs pc l st w Q := ab_go (fun _ hx hb _ _ hL kk => lv_iload_n hx hb hd hi (hL.at hl) kk) kk
theorem ev_iload {i : Nat} {a : Int} (hd : decode M.2.1 pc = .ok (.iload i, 2)) (hl : l[i]? = some (some (.inl a))) (kk : ab_Ev G rs M d bc bs (pc + 2) l (.inl a :: st) w Q) : ab_Ev G rs M d bc bs pc l st w Q := ab_go (fun _ hx hb _ _ hL kk => lv_iload hx hb hd (hL.at hl) kk) kk
theorem ev_lload_n {k : Fin 4} {i : Nat} {a : Int64} (hd : decode M.2.1 pc = .ok (.lload_n k, 1)) (hi : (k : Nat) = i) (hl : l[i]? = some (some (.inr (.inl a)))) (kk : ab_Ev G rs M d bc bs (pc + 1) l (.inr (.inl a) :: st) w Q) : ab_Ev G rs M d bc bs pc l st w Q := ab_go (fun _ hx hb _ _ hL kk => lv_lload_n hx hb hd hi (hL.at hl) kk) kk
theorem ev_lload {i : Nat} {a : Int64} (hd : decode M.2.1 pc = .ok (.lload i, 2)) (hl : l[i]? = some (some (.inr (.inl a)))) (kk : ab_Ev G rs M d bc bs (pc + 2) l (.inr (.inl a) :: st) w Q) : ab_Ev G rs M d bc bs pc l st w Q := ab_go (fun _ hx hb _ _ hL kk => lv_lload hx hb hd (hL.at hl) kk) kk
theorem ev_aload_n {k : Fin 4} {i : Nat} {a : Nat} (hd : decode M.2.1 pc = .ok (.aload_n k, 1)) (hi : (k : Nat) = i) (hl : l[i]? = some (some (.inr (.inr (some a))))) (kk : ab_Ev G rs M d bc bs (pc + 1) l (.inr (.inr (some a)) :: st) w Q) : ab_Ev G rs M d bc bs pc l st w Q := ab_go (fun _ hx hb _ _ hL kk => lv_aload_n hx hb hd hi (hL.at hl) kk) kk
theorem ev_iadd {a b : Int} (hd : decode M.2.1 pc = .ok (.iadd, 1)) (k : ab_Ev G rs M d bc bs (pc + 1) l (.inl (a + b) :: st) w Q) : ab_Ev G rs M d bc bs pc l (.inl b :: .inl a :: st) w Q := ab_go (fun _ hx hb _ _ _ kk => lv_iadd hx hb hd (by rw [← Int32.ofInt_add]; exact kk)) k
theorem ev_isub {a b : Int} (hd : decode M.2.1 pc = .ok (.isub, 1)) (k : ab_Ev G rs M d bc bs (pc + 1) l (.inl (a - b) :: st) w Q) : ab_Ev G rs M d bc bs pc l (.inl b :: .inl a :: st) w Q := ab_go (fun _ hx hb _ _ _ kk => lv_isub hx hb hd (by rw [← Int32.ofInt_sub]; exact kk)) k
theorem ev_imul {a b : Int} (hd : decode M.2.1 pc = .ok (.imul, 1)) (k : ab_Ev G rs M d bc bs (pc + 1) l (.inl (a * b) :: st) w Q) : ab_Ev G rs M d bc bs pc l (.inl b :: .inl a :: st) w Q := ab_go (fun _ hx hb _ _ _ kk => lv_imul hx hb hd (by rw [← Int32.ofInt_mul]; exact kk)) k
theorem ev_ineg {a : Int} (hd : decode M.2.1 pc = .ok (.ineg, 1)) (k : ab_Ev G rs M d bc bs (pc + 1) l (.inl (-a) :: st) w Q) : ab_Ev G rs M d bc bs pc l (.inl a :: st) w Q := ab_go (fun _ hx hb _ _ _ kk => lv_ineg hx hb hd (by rw [← Int32.ofInt_neg]; exact kk)) k
theorem ev_idiv {a b : Int} (hd : decode M.2.1 pc = .ok (.idiv, 1)) (ha : ab_in a) (hb' : ab_in b) (h0 : b ≠ 0) (k : ab_Ev G rs M d bc bs (pc + 1) l (.inl (a.tdiv b) :: st) w Q) : ab_Ev G rs M d bc bs pc l (.inl b :: .inl a :: st) w Q := ab_go (fun _ hx hb _ _ _ kk => lv_idiv hx hb hd (fun h => h0 ((ab_eq hb' (by omega)).mp h)) (by rw [← ab_tdiv ha hb']; exact kk)) k
theorem ev_irem {a b : Int} (hd : decode M.2.1 pc = .ok (.irem, 1)) (ha : ab_in a) (hb' : ab_in b) (h0 : b ≠ 0) (k : ab_Ev G rs M d bc bs (pc + 1) l (.inl (a.tmod b) :: st) w Q) : ab_Ev G rs M d bc bs pc l (.inl b :: .inl a :: st) w Q := ab_go (fun _ hx hb _ _ _ kk => lv_irem hx hb hd (fun h => h0 ((ab_eq hb' (by omega)).mp h)) (by rw [← ab_tmod ha hb']; exact kk)) k
theorem ev_ishl {a b : Int} (hd : decode M.2.1 pc = .ok (.ishl, 1)) (h0 : 0 ≤ b) (h1 : b < 32) (k : ab_Ev G rs M d bc bs (pc + 1) l (.inl (a * 2 ^ b.toNat) :: st) w Q) : ab_Ev G rs M d bc bs pc l (.inl b :: .inl a :: st) w Q := ab_go (fun _ hx hb _ _ _ kk => lv_ishl hx hb hd (by rw [ab_shl h0 h1]; exact kk)) k
theorem ev_ishr {a b : Int} (hd : decode M.2.1 pc = .ok (.ishr, 1)) (ha : ab_in a) (h0 : 0 ≤ b) (h1 : b < 32) (k : ab_Ev G rs M d bc bs (pc + 1) l (.inl (a / 2 ^ b.toNat) :: st) w Q) : ab_Ev G rs M d bc bs pc l (.inl b :: .inl a :: st) w Q := ab_go (fun _ hx hb _ _ _ kk => lv_ishr hx hb hd (by rw [ab_shr ha h0 h1]; exact kk)) k
theorem ev_iushr {a b : Int} (hd : decode M.2.1 pc = .ok (.iushr, 1)) (ha : ab_in a) (h0 : 0 ≤ b) (h1 : b < 32) (k : ab_Ev G rs M d bc bs (pc + 1) l (.inl (a % 4294967296 / 2 ^ b.toNat) :: st) w Q) : ab_Ev G rs M d bc bs pc l (.inl b :: .inl a :: st) w Q := ab_go (fun _ hx hb _ _ _ kk => lv_iushr hx hb hd (ab_ushr ha h0 h1) kk) k
def ab_iand (a b : Int) : Int := (Int32.ofInt a &&& Int32.ofInt b).toInt
theorem ev_iand {a b : Int} (hd : decode M.2.1 pc = .ok (.iand, 1)) (k : ab_Ev G rs M d bc bs (pc + 1) l (.inl (ab_iand a b) :: st) w Q) : ab_Ev G rs M d bc bs pc l (.inl b :: .inl a :: st) w Q := ab_go (fun _ hx hb _ _ _ kk => lv_iand hx hb hd (by rw [← ab_of (Int32.ofInt a &&& Int32.ofInt b)]; exact kk)) k
def ab_ior (a b : Int) : Int := (Int32.ofInt a ||| Int32.ofInt b).toInt
theorem ev_ior {a b : Int} (hd : decode M.2.1 pc = .ok (.ior, 1)) (k : ab_Ev G rs M d bc bs (pc + 1) l (.inl (ab_ior a b) :: st) w Q) : ab_Ev G rs M d bc bs pc l (.inl b :: .inl a :: st) w Q := ab_go (fun _ hx hb _ _ _ kk => lv_ior hx hb hd (by rw [← ab_of (Int32.ofInt a ||| Int32.ofInt b)]; exact kk)) k
def ab_ixor (a b : Int) : Int := (Int32.ofInt a ^^^ Int32.ofInt b).toInt
theorem ev_ixor {a b : Int} (hd : decode M.2.1 pc = .ok (.ixor, 1)) (k : ab_Ev G rs M d bc bs (pc + 1) l (.inl (ab_ixor a b) :: st) w Q) : ab_Ev G rs M d bc bs pc l (.inl b :: .inl a :: st) w Q := ab_go (fun _ hx hb _ _ _ kk => lv_ixor hx hb hd (by rw [← ab_of (Int32.ofInt a ^^^ Int32.ofInt b)]; exact kk)) k
theorem ev_i2b {a : Int} (hd : decode M.2.1 pc = .ok (.i2b, 1)) (k : ab_Ev G rs M d bc bs (pc + 1) l (.inl (a.bmod 256) :: st) w Q) : ab_Ev G rs M d bc bs pc l (.inl a :: st) w Q := ab_go (fun _ hx hb _ _ _ kk => lv_i2b hx hb hd (ab_i2b a) kk) k
theorem ev_i2l {a : Int} (hd : decode M.2.1 pc = .ok (.i2l, 1)) (ha : ab_in a) (k : ab_Ev G rs M d bc bs (pc + 1) l (.inr (.inl (Int64.ofInt a)) :: st) w Q) : ab_Ev G rs M d bc bs pc l (.inl a :: st) w Q := ab_go (fun _ hx hb _ _ _ kk => lv_i2l hx hb hd (ab_i2l ha) kk) k
theorem ev_l2i {a : Int64} (hd : decode M.2.1 pc = .ok (.l2i, 1)) (k : ab_Ev G rs M d bc bs (pc + 1) l (.inl a.toInt32.toInt :: st) w Q) : ab_Ev G rs M d bc bs pc l (.inr (.inl a) :: st) w Q := ab_go (fun _ hx hb _ _ _ kk => lv_l2i hx hb hd (ab_of _).symm kk) k
theorem ev_lcmp {a b : Int64} (hd : decode M.2.1 pc = .ok (.lcmp, 1)) (k : ab_Ev G rs M d bc bs (pc + 1) l (.inl (ab_cmp a b) :: st) w Q) : ab_Ev G rs M d bc bs pc l (.inr (.inl b) :: .inr (.inl a) :: st) w Q := ab_go (fun _ hx hb _ _ _ kk => W.lcmp hx hb hd (by rw [ab_cmp_ok]; exact kk)) k
theorem ev_ladd {a b : Int64} (hd : decode M.2.1 pc = .ok (.ladd, 1)) (k : ab_Ev G rs M d bc bs (pc + 1) l (.inr (.inl (a + b)) :: st) w Q) : ab_Ev G rs M d bc bs pc l (.inr (.inl b) :: .inr (.inl a) :: st) w Q := ab_go (fun _ hx hb _ _ _ kk => lv_ladd hx hb hd kk) k
theorem ev_lsub {a b : Int64} (hd : decode M.2.1 pc = .ok (.lsub, 1)) (k : ab_Ev G rs M d bc bs (pc + 1) l (.inr (.inl (a - b)) :: st) w Q) : ab_Ev G rs M d bc bs pc l (.inr (.inl b) :: .inr (.inl a) :: st) w Q := ab_go (fun _ hx hb _ _ _ kk => lv_lsub hx hb hd kk) k
theorem ev_lmul {a b : Int64} (hd : decode M.2.1 pc = .ok (.lmul, 1)) (k : ab_Ev G rs M d bc bs (pc + 1) l (.inr (.inl (a * b)) :: st) w Q) : ab_Ev G rs M d bc bs pc l (.inr (.inl b) :: .inr (.inl a) :: st) w Q := ab_go (fun _ hx hb _ _ _ kk => lv_lmul hx hb hd kk) k
theorem ev_land {a b : Int64} (hd : decode M.2.1 pc = .ok (.land, 1)) (k : ab_Ev G rs M d bc bs (pc + 1) l (.inr (.inl (a &&& b)) :: st) w Q) : ab_Ev G rs M d bc bs pc l (.inr (.inl b) :: .inr (.inl a) :: st) w Q := ab_go (fun _ hx hb _ _ _ kk => lv_land hx hb hd kk) k
theorem ev_lor {a b : Int64} (hd : decode M.2.1 pc = .ok (.lor, 1)) (k : ab_Ev G rs M d bc bs (pc + 1) l (.inr (.inl (a ||| b)) :: st) w Q) : ab_Ev G rs M d bc bs pc l (.inr (.inl b) :: .inr (.inl a) :: st) w Q := ab_go (fun _ hx hb _ _ _ kk => lv_lor hx hb hd kk) k
theorem ev_ldiv {a b : Int64} (hd : decode M.2.1 pc = .ok (.ldiv, 1)) (h0 : ¬ b = 0) (k : ab_Ev G rs M d bc bs (pc + 1) l (.inr (.inl (a / b)) :: st) w Q) : ab_Ev G rs M d bc bs pc l (.inr (.inl b) :: .inr (.inl a) :: st) w Q := ab_go (fun _ hx hb _ _ _ kk => lv_ldiv hx hb hd h0 kk) k
theorem ev_lrem {a b : Int64} (hd : decode M.2.1 pc = .ok (.lrem, 1)) (h0 : ¬ b = 0) (k : ab_Ev G rs M d bc bs (pc + 1) l (.inr (.inl (a - a / b * b)) :: st) w Q) : ab_Ev G rs M d bc bs pc l (.inr (.inl b) :: .inr (.inl a) :: st) w Q := ab_go (fun _ hx hb _ _ _ kk => lv_lrem hx hb hd h0 kk) k
theorem ev_lshl {a : Int64} {b : Int} (hd : decode M.2.1 pc = .ok (.lshl, 1)) (k : ab_Ev G rs M d bc bs (pc + 1) l (.inr (.inl (a <<< ((Int32.ofInt b).toInt64 &&& 63))) :: st) w Q) : ab_Ev G rs M d bc bs pc l (.inl b :: .inr (.inl a) :: st) w Q := ab_go (fun _ hx hb _ _ _ kk => lv_lshl hx hb hd rfl kk) k
theorem ev_lushr {a : Int64} {b : Int} (hd : decode M.2.1 pc = .ok (.lushr, 1)) (k : ab_Ev G rs M d bc bs (pc + 1) l (.inr (.inl (a.toUInt64 >>> ((Int32.ofInt b).toInt64.toUInt64 &&& Int64.toUInt64 63)).toInt64) :: st) w Q) : ab_Ev G rs M d bc bs pc l (.inl b :: .inr (.inl a) :: st) w Q := ab_go (fun _ hx hb _ _ _ kk => lv_lushr hx hb hd rfl kk) k
def ab_c1 : ab_V → Bool
  | .inr (.inl _) => false
  | _ => true
theorem ab_cat {as : Nat → Nat} {v : ab_V} (h : ab_c1 v = true) : (ab_cv as v).category = 1 := by
  rcases v with a | a | _ | a <;> first | rfl | cases h
theorem ev_dup {v : ab_V} (hd : decode M.2.1 pc = .ok (.dup, 1)) (hv : ab_c1 v = true) (k : ab_Ev G rs M d bc bs (pc + 1) l (v :: v :: st) w Q) : ab_Ev G rs M d bc bs pc l (v :: st) w Q := ab_go (fun _ hx hb _ _ _ kk => lv_dup hx hb hd (ab_cat hv) kk) k
theorem ev_pop {v : ab_V} (hd : decode M.2.1 pc = .ok (.pop, 1)) (hv : ab_c1 v = true) (k : ab_Ev G rs M d bc bs (pc + 1) l st w Q) : ab_Ev G rs M d bc bs pc l (v :: st) w Q := ab_go (fun _ hx hb _ _ _ kk => lv_pop hx hb hd (ab_cat hv) kk) k
theorem ev_dup2 {u v : ab_V} (hd : decode M.2.1 pc = .ok (.dup2, 1)) (hv : ab_c1 v = true) (hu : ab_c1 u = true) (k : ab_Ev G rs M d bc bs (pc + 1) l (u :: v :: u :: v :: st) w Q) : ab_Ev G rs M d bc bs pc l (u :: v :: st) w Q := ab_go (fun _ hx hb _ _ _ kk => lv_dup2_11 hx hb hd (ab_cat hu) (ab_cat hv) kk) k
theorem ev_goto {off : Int} {tgt : Nat} (hd : decode M.2.1 pc = .ok (.goto off, 3)) (ht : (pc : Int) + off = (tgt : Int)) (k : ab_Ev G rs M d bc bs tgt l st w Q) : ab_Ev G rs M d bc bs pc l st w Q := ab_go (fun _ hx hb _ _ _ kk => lv_goto hx hb hd ht kk) k
theorem ab_go2 {pc1 pc2 : Nat} {st st' : List ab_V} {C : Prop}
    (h : ∀ {p : Program} {la : Launch} {e : Env} {R : Room} {s : State} {m : MethodId} {args : Array Value} {below : List Frame} {meth : Method} {c : Code} {H : Heap} {locs : List Loc} {cells slots : Nat} {Qz : State → Prop} {ls : Array Slot} (as : Nat → Nat), p.tables.exec = Jvm.exec → c.code = M.2.1 →
      (C → W p la e R s m args below meth c H locs cells slots Qz (F0 m pc1 ls (st'.map (ab_cv as)))) → (¬ C → W p la e R s m args below meth c H locs cells slots Qz (F0 m pc2 ls (st'.map (ab_cv as)))) → W p la e R s m args below meth c H locs cells slots Qz (F0 m pc ls (st.map (ab_cv as))))
    (k1 : C → ab_Ev G rs M d bc bs pc1 l st' w Q) (k2 : ¬ C → ab_Ev G rs M d bc bs pc2 l st' w Q) : ab_Ev G rs M d bc bs pc l st w Q := by
  intro p la e R s m args below meth c H locs cells slots D dA aK aV as A ls Qc free hF hs hP hD hS hl h1 h2 hR
  exact h as hF.1 hF.2.1 (fun q => k1 q p la e R s m args below meth c H locs cells slots D dA aK aV as A ls Qc free hF hs hP hD hS hl h1 h2 hR) (fun q => k2 q p la e R s m args below meth c H locs cells slots D dA aK aV as A ls Qc free hF hs hP hD hS hl h1 h2 hR)
theorem ab_in0 : ab_in 0 := by decide
theorem ev_icmp_ne {a b : Int} {off : Int} {tgt : Nat} (hd : decode M.2.1 pc = .ok (.if_icmp .ne off, 3)) (ht : (pc : Int) + off = (tgt : Int)) (ha : ab_in a) (hb : ab_in b) (k1 : ¬ a = b → ab_Ev G rs M d bc bs tgt l st w Q) (k2 : a = b → ab_Ev G rs M d bc bs (pc + 3) l st w Q) : ab_Ev G rs M d bc bs pc l (.inl b :: .inl a :: st) w Q := ab_go2 (C := ¬ a = b) (fun _ hx hc q1 q2 => lv_icmp_ne hx hc hd ht (fun h => q1 (fun z => h ((ab_eq ha hb).mpr z))) (fun h => q2 (fun z => z ((ab_eq ha hb).mp h)))) k1 (fun z => k2 (Decidable.of_not_not z))
theorem ev_if_ne {a : Int} {off : Int} {tgt : Nat} (hd : decode M.2.1 pc = .ok (.ifCond .ne off, 3)) (ht : (pc : Int) + off = (tgt : Int)) (ha : ab_in a) (k1 : ¬ a = 0 → ab_Ev G rs M d bc bs tgt l st w Q) (k2 : a = 0 → ab_Ev G rs M d bc bs (pc + 3) l st w Q) : ab_Ev G rs M d bc bs pc l (.inl a :: st) w Q := ab_go2 (C := ¬ a = 0) (fun _ hx hc q1 q2 => lv_if_ne hx hc hd ht (fun h => q1 (fun z => h ((ab_eq ha ab_in0).mpr z))) (fun h => q2 (fun z => z ((ab_eq ha ab_in0).mp h)))) k1 (fun z => k2 (Decidable.of_not_not z))
theorem ev_icmp_eq {a b : Int} {off : Int} {tgt : Nat} (hd : decode M.2.1 pc = .ok (.if_icmp .eq off, 3)) (ht : (pc : Int) + off = (tgt : Int)) (ha : ab_in a) (hb : ab_in b) (k1 : a = b → ab_Ev G rs M d bc bs tgt l st w Q) (k2 : ¬ (a = b) → ab_Ev G rs M d bc bs (pc + 3) l st w Q) : ab_Ev G rs M d bc bs pc l (.inl b :: .inl a :: st) w Q := ab_go2 (fun _ hx hc q1 q2 => lv_icmp_eq hx hc hd ht (fun h => q1 ((ab_eq ha hb).mp h)) (fun h => q2 (fun z => h ((ab_eq ha hb).mpr z)))) k1 k2
theorem ev_if_eq {a : Int} {off : Int} {tgt : Nat} (hd : decode M.2.1 pc = .ok (.ifCond .eq off, 3)) (ht : (pc : Int) + off = (tgt : Int)) (ha : ab_in a) (k1 : a = 0 → ab_Ev G rs M d bc bs tgt l st w Q) (k2 : ¬ (a = 0) → ab_Ev G rs M d bc bs (pc + 3) l st w Q) : ab_Ev G rs M d bc bs pc l (.inl a :: st) w Q := ab_go2 (fun _ hx hc q1 q2 => lv_if_eq hx hc hd ht (fun h => q1 ((ab_eq ha ab_in0).mp h)) (fun h => q2 (fun z => h ((ab_eq ha ab_in0).mpr z)))) k1 k2
theorem ev_icmp_lt {a b : Int} {off : Int} {tgt : Nat} (hd : decode M.2.1 pc = .ok (.if_icmp .lt off, 3)) (ht : (pc : Int) + off = (tgt : Int)) (ha : ab_in a) (hb : ab_in b) (k1 : a < b → ab_Ev G rs M d bc bs tgt l st w Q) (k2 : ¬ (a < b) → ab_Ev G rs M d bc bs (pc + 3) l st w Q) : ab_Ev G rs M d bc bs pc l (.inl b :: .inl a :: st) w Q := ab_go2 (fun _ hx hc q1 q2 => lv_icmp_lt hx hc hd ht (fun h => q1 ((ab_lt ha hb).mp h)) (fun h => q2 (fun z => h ((ab_lt ha hb).mpr z)))) k1 k2
theorem ev_if_lt {a : Int} {off : Int} {tgt : Nat} (hd : decode M.2.1 pc = .ok (.ifCond .lt off, 3)) (ht : (pc : Int) + off = (tgt : Int)) (ha : ab_in a) (k1 : a < 0 → ab_Ev G rs M d bc bs tgt l st w Q) (k2 : ¬ (a < 0) → ab_Ev G rs M d bc bs (pc + 3) l st w Q) : ab_Ev G rs M d bc bs pc l (.inl a :: st) w Q := ab_go2 (fun _ hx hc q1 q2 => lv_if_lt hx hc hd ht (fun h => q1 ((ab_lt ha ab_in0).mp h)) (fun h => q2 (fun z => h ((ab_lt ha ab_in0).mpr z)))) k1 k2
theorem ev_icmp_ge {a b : Int} {off : Int} {tgt : Nat} (hd : decode M.2.1 pc = .ok (.if_icmp .ge off, 3)) (ht : (pc : Int) + off = (tgt : Int)) (ha : ab_in a) (hb : ab_in b) (k1 : b ≤ a → ab_Ev G rs M d bc bs tgt l st w Q) (k2 : ¬ (b ≤ a) → ab_Ev G rs M d bc bs (pc + 3) l st w Q) : ab_Ev G rs M d bc bs pc l (.inl b :: .inl a :: st) w Q := ab_go2 (fun _ hx hc q1 q2 => lv_icmp_ge hx hc hd ht (fun h => q1 ((ab_le hb ha).mp h)) (fun h => q2 (fun z => h ((ab_le hb ha).mpr z)))) k1 k2
theorem ev_if_ge {a : Int} {off : Int} {tgt : Nat} (hd : decode M.2.1 pc = .ok (.ifCond .ge off, 3)) (ht : (pc : Int) + off = (tgt : Int)) (ha : ab_in a) (k1 : 0 ≤ a → ab_Ev G rs M d bc bs tgt l st w Q) (k2 : ¬ (0 ≤ a) → ab_Ev G rs M d bc bs (pc + 3) l st w Q) : ab_Ev G rs M d bc bs pc l (.inl a :: st) w Q := ab_go2 (fun _ hx hc q1 q2 => lv_if_ge hx hc hd ht (fun h => q1 ((ab_le ab_in0 ha).mp h)) (fun h => q2 (fun z => h ((ab_le ab_in0 ha).mpr z)))) k1 k2
theorem ev_icmp_gt {a b : Int} {off : Int} {tgt : Nat} (hd : decode M.2.1 pc = .ok (.if_icmp .gt off, 3)) (ht : (pc : Int) + off = (tgt : Int)) (ha : ab_in a) (hb : ab_in b) (k1 : b < a → ab_Ev G rs M d bc bs tgt l st w Q) (k2 : ¬ (b < a) → ab_Ev G rs M d bc bs (pc + 3) l st w Q) : ab_Ev G rs M d bc bs pc l (.inl b :: .inl a :: st) w Q := ab_go2 (fun _ hx hc q1 q2 => lv_icmp_gt hx hc hd ht (fun h => q1 ((ab_lt hb ha).mp h)) (fun h => q2 (fun z => h ((ab_lt hb ha).mpr z)))) k1 k2
theorem ev_if_gt {a : Int} {off : Int} {tgt : Nat} (hd : decode M.2.1 pc = .ok (.ifCond .gt off, 3)) (ht : (pc : Int) + off = (tgt : Int)) (ha : ab_in a) (k1 : 0 < a → ab_Ev G rs M d bc bs tgt l st w Q) (k2 : ¬ (0 < a) → ab_Ev G rs M d bc bs (pc + 3) l st w Q) : ab_Ev G rs M d bc bs pc l (.inl a :: st) w Q := ab_go2 (fun _ hx hc q1 q2 => lv_if_gt hx hc hd ht (fun h => q1 ((ab_lt ab_in0 ha).mp h)) (fun h => q2 (fun z => h ((ab_lt ab_in0 ha).mpr z)))) k1 k2
theorem ev_icmp_le {a b : Int} {off : Int} {tgt : Nat} (hd : decode M.2.1 pc = .ok (.if_icmp .le off, 3)) (ht : (pc : Int) + off = (tgt : Int)) (ha : ab_in a) (hb : ab_in b) (k1 : a ≤ b → ab_Ev G rs M d bc bs tgt l st w Q) (k2 : ¬ (a ≤ b) → ab_Ev G rs M d bc bs (pc + 3) l st w Q) : ab_Ev G rs M d bc bs pc l (.inl b :: .inl a :: st) w Q := ab_go2 (fun _ hx hc q1 q2 => lv_icmp_le hx hc hd ht (fun h => q1 ((ab_le ha hb).mp h)) (fun h => q2 (fun z => h ((ab_le ha hb).mpr z)))) k1 k2
theorem ev_if_le {a : Int} {off : Int} {tgt : Nat} (hd : decode M.2.1 pc = .ok (.ifCond .le off, 3)) (ht : (pc : Int) + off = (tgt : Int)) (ha : ab_in a) (k1 : a ≤ 0 → ab_Ev G rs M d bc bs tgt l st w Q) (k2 : ¬ (a ≤ 0) → ab_Ev G rs M d bc bs (pc + 3) l st w Q) : ab_Ev G rs M d bc bs pc l (.inl a :: st) w Q := ab_go2 (fun _ hx hc q1 q2 => lv_if_le hx hc hd ht (fun h => q1 ((ab_le ha ab_in0).mp h)) (fun h => q2 (fun z => h ((ab_le ha ab_in0).mpr z)))) k1 k2
theorem ev_tableOut {dflt lo hi : Int} {offs : Array Int} {len : Nat} {a : Int} {tgt : Nat} (hd : decode M.2.1 pc = .ok (.tableswitch dflt lo hi offs, len)) (ha : ab_in a) (h : a < lo ∨ hi < a) (ht : (pc : Int) + dflt = (tgt : Int)) (k : ab_Ev G rs M d bc bs tgt l st w Q) : ab_Ev G rs M d bc bs pc l (.inl a :: st) w Q := ab_go (fun _ hx hb _ _ _ kk => lv_tableOut hx hb hd (by rw [ab_ti ha]; exact h) ht kk) k
theorem ev_tableIn {dflt lo hi : Int} {offs : Array Int} {len : Nat} {a off : Int} {tgt : Nat} (hd : decode M.2.1 pc = .ok (.tableswitch dflt lo hi offs, len)) (ha : ab_in a) (h1 : ¬ a < lo) (h2 : ¬ hi < a) (ho : offs[(a - lo).toNat]? = some off) (ht : (pc : Int) + off = (tgt : Int)) (k : ab_Ev G rs M d bc bs tgt l st w Q) : ab_Ev G rs M d bc bs pc l (.inl a :: st) w Q := ab_go (fun _ hx hb _ _ _ kk => lv_tableIn hx hb hd (by rw [ab_ti ha]; exact h1) (by rw [ab_ti ha]; exact h2) (by rw [ab_ti ha]; exact ho) ht kk) k
theorem ev_lookup {dflt : Int} {ps : Array (Int × Int)} {len : Nat} {a off : Int} {tgt : Nat} (hd : decode M.2.1 pc = .ok (.lookupswitch dflt ps, len)) (hp : (ps.toList.zip (ps.toList.drop 1)).all (fun (a, next) => a.1 < next.1) = true) (ha : ab_in a) (ho : Op.lookupswitch.offset ps.toList dflt a = off) (ht : (pc : Int) + off = (tgt : Int)) (k : ab_Ev G rs M d bc bs tgt l st w Q) : ab_Ev G rs M d bc bs pc l (.inl a :: st) w Q := ab_go (fun _ hx hb _ _ _ kk => lv_lookup hx hb hd hp (by rw [ab_ti ha]; exact ho) ht kk) k
end EVA

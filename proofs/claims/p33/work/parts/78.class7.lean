/-! the TAPE at a place t -/
def tap (t : Nat) (tx : Int → Int) (len a : Int) (wd : Nat) (fa sr sg nu wo : Int) (w : ab_W) : Prop := w[t]? = some (ab_ob 8 [ab_R (t + 1), ab_I len, ab_I a, ab_R wd, ab_I fa, ab_I sr, ab_I sg, ab_I nu, ab_I wo]) ∧ w[t + 1]? = some (ab_ai 1 400 tx)
theorem tap_o {t : Nat} {tx : Int → Int} {len a fa sr sg nu wo : Int} {wd : Nat} {w : ab_W} {len2 : Int} {a2 : Int} {fa2 : Int} {sr2 : Int} {sg2 : Int} {nu2 : Int} {wo2 : Int} {wd2 : Nat} (h : (tap t tx len a wd fa sr sg nu wo w)) : (tap t tx (len2) (a2) (wd2) (fa2) (sr2) (sg2) (nu2) (wo2) (w.set t (ab_ob 8 [ab_R (t + 1), ab_I (len2), ab_I (a2), ab_R (wd2), ab_I (fa2), ab_I (sr2), ab_I (sg2), ab_I (nu2), ab_I (wo2)]))) := ⟨ab_gs h.1, ab_gn h.2 (by omega)⟩
theorem tap_tx {t : Nat} {tx : Int → Int} {len a fa sr sg nu wo : Int} {wd : Nat} {w : ab_W} {tx2 : Int → Int} (h : (tap t tx len a wd fa sr sg nu wo w)) : (tap t (tx2) len a wd fa sr sg nu wo (w.set (t + 1) (ab_ai 1 400 tx2))) := ⟨ab_gn h.1 (by omega), ab_gs h.2⟩
theorem cs_byte (v : Int) : ∀ j : Nat, j < 4 → ((v % 4294967296 / 2 ^ ((24 : Int) - 8 * (j : Int)).toNat).bmod 256).bmod 256 = sp_byte v j := by
  intro j hj
  have key : ∀ a b : Int, a % 256 = b % 256 → (a.bmod 256).bmod 256 = b.bmod 256 := by
    intro a b h
    rw [Int.bmod_bmod, ← Int.emod_bmod (x := a), ← Int.emod_bmod (x := b)]
    show (a % 256).bmod 256 = (b % 256).bmod 256
    rw [h]
  unfold sp_byte
  apply key
  rcases (by omega : j = 0 ∨ j = 1 ∨ j = 2 ∨ j = 3) with z | z | z | z
  · subst z; show v % 4294967296 / 16777216 % 256 = v / 16777216 % 256; omega
  · subst z; show v % 4294967296 / 65536 % 256 = v / 65536 % 256; omega
  · subst z; show v % 4294967296 / 256 % 256 = v / 256 % 256; omega
  · subst z; show v % 4294967296 / 1 % 256 = v / 1 % 256; omega
theorem de_Ta_putBytes_0 : decode prog_11_method_2_code 0 = .ok (.bipush 24, 2) := by decide +kernel
theorem de_Ta_putBytes_2 : decode prog_11_method_2_code 2 = .ok (.istore_n 2, 1) := by decide +kernel
theorem de_Ta_putBytes_3 : decode prog_11_method_2_code 3 = .ok (.iload_n 2, 1) := by decide +kernel
theorem de_Ta_putBytes_4 : decode prog_11_method_2_code 4 = .ok (.ifCond .lt 42, 3) := by decide +kernel
theorem de_Ta_putBytes_7 : decode prog_11_method_2_code 7 = .ok (.aload_n 0, 1) := by decide +kernel
theorem de_Ta_putBytes_8 : decode prog_11_method_2_code 8 = .ok (.getfield 21, 3) := by decide +kernel
theorem de_Ta_putBytes_11 : decode prog_11_method_2_code 11 = .ok (.sipush 400, 3) := by decide +kernel
theorem de_Ta_putBytes_14 : decode prog_11_method_2_code 14 = .ok (.if_icmp .ge 32, 3) := by decide +kernel
theorem de_Ta_putBytes_17 : decode prog_11_method_2_code 17 = .ok (.aload_n 0, 1) := by decide +kernel
theorem de_Ta_putBytes_18 : decode prog_11_method_2_code 18 = .ok (.getfield 9, 3) := by decide +kernel
theorem de_Ta_putBytes_21 : decode prog_11_method_2_code 21 = .ok (.aload_n 0, 1) := by decide +kernel
theorem de_Ta_putBytes_22 : decode prog_11_method_2_code 22 = .ok (.getfield 21, 3) := by decide +kernel
theorem de_Ta_putBytes_25 : decode prog_11_method_2_code 25 = .ok (.iload_n 1, 1) := by decide +kernel
theorem de_Ta_putBytes_26 : decode prog_11_method_2_code 26 = .ok (.iload_n 2, 1) := by decide +kernel
theorem de_Ta_putBytes_27 : decode prog_11_method_2_code 27 = .ok (.iushr, 1) := by decide +kernel
theorem de_Ta_putBytes_28 : decode prog_11_method_2_code 28 = .ok (.i2b, 1) := by decide +kernel
theorem de_Ta_putBytes_29 : decode prog_11_method_2_code 29 = .ok (.bastore, 1) := by decide +kernel
theorem de_Ta_putBytes_30 : decode prog_11_method_2_code 30 = .ok (.aload_n 0, 1) := by decide +kernel
theorem de_Ta_putBytes_31 : decode prog_11_method_2_code 31 = .ok (.dup, 1) := by decide +kernel
theorem de_Ta_putBytes_32 : decode prog_11_method_2_code 32 = .ok (.getfield 21, 3) := by decide +kernel
theorem de_Ta_putBytes_35 : decode prog_11_method_2_code 35 = .ok (.iconst 1, 1) := by decide +kernel
theorem de_Ta_putBytes_36 : decode prog_11_method_2_code 36 = .ok (.iadd, 1) := by decide +kernel
theorem de_Ta_putBytes_37 : decode prog_11_method_2_code 37 = .ok (.putfield 21, 3) := by decide +kernel
theorem de_Ta_putBytes_40 : decode prog_11_method_2_code 40 = .ok (.iinc 2 (-8), 3) := by decide +kernel
theorem de_Ta_putBytes_43 : decode prog_11_method_2_code 43 = .ok (.goto (-40), 3) := by decide +kernel
theorem de_Ta_putBytes_46 : decode prog_11_method_2_code 46 = .ok (.return_, 1) := by decide +kernel
set_option maxHeartbeats 4000000 in
set_option maxRecDepth 10000 in
theorem lo_Ta_putBytes {t : Nat} {tx : Int → Int} {len a fa sr sg nu wo : Int} {wd : Nat} {w0 : ab_W} (hl0 : 0 ≤ len) (hl1 : len + 4 ≤ 400) (v : Int) (hv : ab_in v) : ∀ (n : Nat) (j : Nat) (w : ab_W), j ≤ 4 → 4 < j + n → (tap t (sp_put tx len v j) (len + (j : Int)) a wd fa sr sg nu wo w) → fr_at t 2 w0 w → ab_Ev g_G g_rs mt_Ta_putBytes 0 0 0 3 [some (ab_R t), some (ab_I v), some (ab_I (24 - 8 * (j : Int)))] [] w (fun r w2 => r = none ∧ (tap t (sp_put tx len v 4) (len + 4) a wd fa sr sg nu wo w2) ∧ fr_at t 2 w0 w2) := by
  intro n
  induction n with
  | zero =>
    intro j w
    intro g1 g2 hT hf; omega
  | succ n ih =>
    intro j w
    intro g1 g2 hT hf
    obtain ⟨t0, t1⟩ := id hT
    refine ev_iload_n de_Ta_putBytes_3 rfl rfl ?_
    refine ev_if_lt (tgt := 46) de_Ta_putBytes_4 (by decide) (by omega) (fun h4 => ?_) (fun h4 => ?_)
    · skip
      have e4 : j = 4 := by omega
      subst e4
      exact ev_return de_Ta_putBytes_46 rfl ⟨rfl, hT, hf⟩
    · skip
      refine ev_aload_n de_Ta_putBytes_7 rfl rfl ?_
      refine ev_getfield de_Ta_putBytes_8 t0 fl_Ta_21 rfl ?_
      refine ev_sipush de_Ta_putBytes_11 rfl ?_
      refine ev_icmp_ge (tgt := 46) de_Ta_putBytes_14 (by decide) (by omega) (by omega) (fun h14 => ?_) (fun h14 => ?_)
      · skip
        exfalso
        exact absurd h14 (by omega)
      · skip
        have ey := cs_byte v j (by omega)
        refine ev_aload_n de_Ta_putBytes_17 rfl rfl ?_
        refine ev_getfield de_Ta_putBytes_18 t0 fl_Ta_9 rfl ?_
        refine ev_aload_n de_Ta_putBytes_21 rfl rfl ?_
        refine ev_getfield de_Ta_putBytes_22 t0 fl_Ta_21 rfl ?_
        refine ev_iload_n de_Ta_putBytes_25 rfl rfl ?_
        refine ev_iload_n de_Ta_putBytes_26 rfl rfl ?_
        refine ev_iushr de_Ta_putBytes_27 (by omega) (by omega) (by omega) ?_
        refine ev_i2b de_Ta_putBytes_28 ?_
        refine ev_bastore de_Ta_putBytes_29 t1 (by omega) (by omega) (by omega) ?_
        rw [ey]
        refine ev_gen (P := fun w1 => (tap t (sp_put tx len v (j + 1)) (len + (j : Int)) a wd fa sr sg nu wo w1) ∧ fr_at t 2 w0 w1) ⟨tap_tx hT, fr_set hf (by omega) (by omega)⟩ (fun w1 hCf => ?_)
        obtain ⟨hT, hf⟩ := hCf
        obtain ⟨t0, t1⟩ := id hT
        refine ev_aload_n de_Ta_putBytes_30 rfl rfl ?_
        refine ev_dup de_Ta_putBytes_31 rfl ?_
        refine ev_getfield de_Ta_putBytes_32 t0 fl_Ta_21 rfl ?_
        refine ev_iconst de_Ta_putBytes_35 ?_
        refine ev_iadd de_Ta_putBytes_36 ?_
        refine ev_putfield de_Ta_putBytes_37 t0 (fp_Ta_21 _) (Nat.le_of_ble_eq_true rfl) trivial ?_
        refine ev_gen (P := fun w1 => (tap t (sp_put tx len v (j + 1)) (len + (j : Int) + 1) a wd fa sr sg nu wo w1) ∧ fr_at t 2 w0 w1) ⟨tap_o hT, fr_set hf (by omega) (by omega)⟩ (fun w1 hCf => ?_)
        obtain ⟨hT, hf⟩ := hCf
        obtain ⟨t0, t1⟩ := id hT
        rw [show len + (j : Int) + 1 = len + ((j + 1 : Nat) : Int) by omega] at hT
        refine ev_iinc (l' := [_, _, _]) de_Ta_putBytes_40 rfl rfl ?_
        refine ev_goto (tgt := 3) de_Ta_putBytes_43 (by decide) ?_
        refine ev_loc (l2 := [some (ab_R t), some (ab_I v), some (ab_I (24 - 8 * ((j + 1 : Nat) : Int)))]) (by rw [show (24 : Int) - 8 * (j : Int) + -8 = 24 - 8 * ((j + 1 : Nat) : Int) by omega]) ?_
        exact ih (j + 1) _ (by omega) (by omega) hT hf
set_option maxHeartbeats 4000000 in
set_option maxRecDepth 10000 in
theorem co_Ta_putBytes {t : Nat} {tx : Int → Int} {len a fa sr sg nu wo : Int} {wd : Nat} {w : ab_W} (hT : (tap t tx len a wd fa sr sg nu wo w)) (hl0 : 0 ≤ len) (hl1 : len + 4 ≤ 400) (v : Int) (hv : ab_in v) : ab_Mt g_G g_rs mt_Ta_putBytes 0 0 0 [ab_R t, ab_I v] w (fun r w2 => r = none ∧ (tap t (sp_put tx len v 4) (len + 4) a wd fa sr sg nu wo w2) ∧ fr_at t 2 w w2) := by
  refine ab_Mt.of rfl (Nat.le_of_ble_eq_true rfl) ?_
  show ab_Ev g_G g_rs mt_Ta_putBytes _ _ _ 0 [some (ab_R t), some (ab_I v), none] [] _ _
  refine ev_bipush de_Ta_putBytes_0 rfl ?_
  refine ev_istore_n (l' := [_, _, _]) de_Ta_putBytes_2 rfl (Nat.le_of_ble_eq_true rfl) rfl ?_
  exact lo_Ta_putBytes hl0 hl1 v hv 5 0 w (by omega) (by omega) (by rw [show len + ((0 : Nat) : Int) = len by omega]; exact hT) fr_0
def ct_num (tx : Int → Int) (len i : Int) : Int := if tk_de tx len i - i ≤ 5 then tk_num tx i (tk_de tx len i - i).toNat else -1
theorem de_Ta_readNumber_0 : decode prog_11_method_6_code 0 = .ok (.iconst 0, 1) := by decide +kernel
theorem de_Ta_readNumber_1 : decode prog_11_method_6_code 1 = .ok (.istore_n 1, 1) := by decide +kernel
theorem de_Ta_readNumber_2 : decode prog_11_method_6_code 2 = .ok (.aload_n 0, 1) := by decide +kernel
theorem de_Ta_readNumber_3 : decode prog_11_method_6_code 3 = .ok (.getfield 25, 3) := by decide +kernel
theorem de_Ta_readNumber_6 : decode prog_11_method_6_code 6 = .ok (.aload_n 0, 1) := by decide +kernel
theorem de_Ta_readNumber_7 : decode prog_11_method_6_code 7 = .ok (.getfield 21, 3) := by decide +kernel
theorem de_Ta_readNumber_10 : decode prog_11_method_6_code 10 = .ok (.if_icmp .ge 75, 3) := by decide +kernel
theorem de_Ta_readNumber_13 : decode prog_11_method_6_code 13 = .ok (.aload_n 0, 1) := by decide +kernel
theorem de_Ta_readNumber_14 : decode prog_11_method_6_code 14 = .ok (.getfield 9, 3) := by decide +kernel
theorem de_Ta_readNumber_17 : decode prog_11_method_6_code 17 = .ok (.aload_n 0, 1) := by decide +kernel
theorem de_Ta_readNumber_18 : decode prog_11_method_6_code 18 = .ok (.getfield 25, 3) := by decide +kernel
theorem de_Ta_readNumber_21 : decode prog_11_method_6_code 21 = .ok (.baload, 1) := by decide +kernel
theorem de_Ta_readNumber_22 : decode prog_11_method_6_code 22 = .ok (.bipush 48, 2) := by decide +kernel
theorem de_Ta_readNumber_24 : decode prog_11_method_6_code 24 = .ok (.if_icmp .lt 61, 3) := by decide +kernel
theorem de_Ta_readNumber_27 : decode prog_11_method_6_code 27 = .ok (.aload_n 0, 1) := by decide +kernel
theorem de_Ta_readNumber_28 : decode prog_11_method_6_code 28 = .ok (.getfield 9, 3) := by decide +kernel
theorem de_Ta_readNumber_31 : decode prog_11_method_6_code 31 = .ok (.aload_n 0, 1) := by decide +kernel
theorem de_Ta_readNumber_32 : decode prog_11_method_6_code 32 = .ok (.getfield 25, 3) := by decide +kernel
theorem de_Ta_readNumber_35 : decode prog_11_method_6_code 35 = .ok (.baload, 1) := by decide +kernel
theorem de_Ta_readNumber_36 : decode prog_11_method_6_code 36 = .ok (.bipush 57, 2) := by decide +kernel
theorem de_Ta_readNumber_38 : decode prog_11_method_6_code 38 = .ok (.if_icmp .gt 47, 3) := by decide +kernel
theorem de_Ta_readNumber_41 : decode prog_11_method_6_code 41 = .ok (.aload_n 0, 1) := by decide +kernel
theorem de_Ta_readNumber_42 : decode prog_11_method_6_code 42 = .ok (.getfield 25, 3) := by decide +kernel
theorem de_Ta_readNumber_45 : decode prog_11_method_6_code 45 = .ok (.aload_n 0, 1) := by decide +kernel
theorem de_Ta_readNumber_46 : decode prog_11_method_6_code 46 = .ok (.getfield 34, 3) := by decide +kernel
theorem de_Ta_readNumber_49 : decode prog_11_method_6_code 49 = .ok (.isub, 1) := by decide +kernel
theorem de_Ta_readNumber_50 : decode prog_11_method_6_code 50 = .ok (.iconst 5, 1) := by decide +kernel
theorem de_Ta_readNumber_51 : decode prog_11_method_6_code 51 = .ok (.if_icmp .ge 21, 3) := by decide +kernel
theorem de_Ta_readNumber_54 : decode prog_11_method_6_code 54 = .ok (.iload_n 1, 1) := by decide +kernel
theorem de_Ta_readNumber_55 : decode prog_11_method_6_code 55 = .ok (.bipush 10, 2) := by decide +kernel
theorem de_Ta_readNumber_57 : decode prog_11_method_6_code 57 = .ok (.imul, 1) := by decide +kernel
theorem de_Ta_readNumber_58 : decode prog_11_method_6_code 58 = .ok (.aload_n 0, 1) := by decide +kernel
theorem de_Ta_readNumber_59 : decode prog_11_method_6_code 59 = .ok (.getfield 9, 3) := by decide +kernel
theorem de_Ta_readNumber_62 : decode prog_11_method_6_code 62 = .ok (.aload_n 0, 1) := by decide +kernel
theorem de_Ta_readNumber_63 : decode prog_11_method_6_code 63 = .ok (.getfield 25, 3) := by decide +kernel
theorem de_Ta_readNumber_66 : decode prog_11_method_6_code 66 = .ok (.baload, 1) := by decide +kernel
theorem de_Ta_readNumber_67 : decode prog_11_method_6_code 67 = .ok (.iadd, 1) := by decide +kernel
theorem de_Ta_readNumber_68 : decode prog_11_method_6_code 68 = .ok (.bipush 48, 2) := by decide +kernel
theorem de_Ta_readNumber_70 : decode prog_11_method_6_code 70 = .ok (.isub, 1) := by decide +kernel
theorem de_Ta_readNumber_71 : decode prog_11_method_6_code 71 = .ok (.istore_n 1, 1) := by decide +kernel
theorem de_Ta_readNumber_72 : decode prog_11_method_6_code 72 = .ok (.aload_n 0, 1) := by decide +kernel
theorem de_Ta_readNumber_73 : decode prog_11_method_6_code 73 = .ok (.dup, 1) := by decide +kernel
theorem de_Ta_readNumber_74 : decode prog_11_method_6_code 74 = .ok (.getfield 25, 3) := by decide +kernel
theorem de_Ta_readNumber_77 : decode prog_11_method_6_code 77 = .ok (.iconst 1, 1) := by decide +kernel
theorem de_Ta_readNumber_78 : decode prog_11_method_6_code 78 = .ok (.iadd, 1) := by decide +kernel
theorem de_Ta_readNumber_79 : decode prog_11_method_6_code 79 = .ok (.putfield 25, 3) := by decide +kernel
theorem de_Ta_readNumber_82 : decode prog_11_method_6_code 82 = .ok (.goto (-80), 3) := by decide +kernel
theorem de_Ta_readNumber_85 : decode prog_11_method_6_code 85 = .ok (.aload_n 0, 1) := by decide +kernel
theorem de_Ta_readNumber_86 : decode prog_11_method_6_code 86 = .ok (.aload_n 0, 1) := by decide +kernel
theorem de_Ta_readNumber_87 : decode prog_11_method_6_code 87 = .ok (.getfield 25, 3) := by decide +kernel
theorem de_Ta_readNumber_90 : decode prog_11_method_6_code 90 = .ok (.aload_n 0, 1) := by decide +kernel
theorem de_Ta_readNumber_91 : decode prog_11_method_6_code 91 = .ok (.getfield 34, 3) := by decide +kernel
theorem de_Ta_readNumber_94 : decode prog_11_method_6_code 94 = .ok (.isub, 1) := by decide +kernel
theorem de_Ta_readNumber_95 : decode prog_11_method_6_code 95 = .ok (.iconst 5, 1) := by decide +kernel
theorem de_Ta_readNumber_96 : decode prog_11_method_6_code 96 = .ok (.if_icmp .gt 7, 3) := by decide +kernel
theorem de_Ta_readNumber_99 : decode prog_11_method_6_code 99 = .ok (.iload_n 1, 1) := by decide +kernel
theorem de_Ta_readNumber_100 : decode prog_11_method_6_code 100 = .ok (.goto 4, 3) := by decide +kernel
theorem de_Ta_readNumber_103 : decode prog_11_method_6_code 103 = .ok (.iconst (-1), 1) := by decide +kernel
theorem de_Ta_readNumber_104 : decode prog_11_method_6_code 104 = .ok (.putfield 40, 3) := by decide +kernel
theorem de_Ta_readNumber_107 : decode prog_11_method_6_code 107 = .ok (.return_, 1) := by decide +kernel
set_option maxHeartbeats 4000000 in
set_option maxRecDepth 10000 in
theorem lo_Ta_readNumber {t : Nat} {tx : Int → Int} {len a fa sr sg nu wo : Int} {wd : Nat} {w0 : ab_W} (hk : tp_ok tx len) (hs0 : 0 ≤ sr) (hs1 : sr ≤ len) : ∀ (n : Nat) (j : Nat) (w : ab_W), sr + (j : Int) ≤ len → len < sr + (j : Int) + n → tk_de tx len (sr + (j : Int)) = tk_de tx len sr → (∀ k : Nat, k < j → 48 ≤ tx (sr + k) ∧ tx (sr + k) ≤ 57) → (tap t tx len (sr + (j : Int)) wd fa sr sg nu wo w) → fr_at t 2 w0 w → ab_Ev g_G g_rs mt_Ta_readNumber 0 0 0 2 [some (ab_R t), some (ab_I (tk_num tx sr j))] [] w (fun r w2 => r = none ∧ (tap t tx len (tk_de tx len sr) wd fa sr sg (ct_num tx len sr) wo w2) ∧ fr_at t 2 w0 w2) := by
  intro n
  induction n with
  | zero =>
    intro j w
    intro g1 g2 g3 g4 hT hf; omega
  | succ n ih =>
    intro j w
    intro g1 g2 g3 g4 hT hf
    obtain ⟨t0, t1⟩ := id hT
    have p1 := hk.2.1
    have nb := tk_num_b (taped := len) j g4
    refine ev_aload_n de_Ta_readNumber_2 rfl rfl ?_
    refine ev_getfield de_Ta_readNumber_3 t0 fl_Ta_25 rfl ?_
    refine ev_aload_n de_Ta_readNumber_6 rfl rfl ?_
    refine ev_getfield de_Ta_readNumber_7 t0 fl_Ta_21 rfl ?_
    refine ev_icmp_ge (tgt := 85) de_Ta_readNumber_10 (by decide) (by omega) (by omega) (fun h10 => ?_) (fun h10 => ?_)
    · skip
      have gd : tk_dg tx len (sr + (j : Int)) = false := decide_eq_false (by omega)
      have ge : tk_de tx len sr = sr + (j : Int) := by rw [← g3]; exact tk_to_e gd
      refine ev_aload_n de_Ta_readNumber_85 rfl rfl ?_
      refine ev_aload_n de_Ta_readNumber_86 rfl rfl ?_
      refine ev_getfield de_Ta_readNumber_87 t0 fl_Ta_25 rfl ?_
      refine ev_aload_n de_Ta_readNumber_90 rfl rfl ?_
      refine ev_getfield de_Ta_readNumber_91 t0 fl_Ta_34 rfl ?_
      refine ev_isub de_Ta_readNumber_94 ?_
      refine ev_iconst de_Ta_readNumber_95 ?_
      refine ev_icmp_gt (tgt := 103) de_Ta_readNumber_96 (by decide) (by omega) (by omega) (fun h96 => ?_) (fun h96 => ?_)
      · skip
        have eN : ct_num tx len sr = -1 := by unfold ct_num; rw [if_neg (by omega)]
        refine ev_iconst de_Ta_readNumber_103 ?_
        rw [← eN]
        refine ev_putfield de_Ta_readNumber_104 t0 (fp_Ta_40 _) (Nat.le_of_ble_eq_true rfl) trivial ?_
        refine ev_gen (P := fun w1 => (tap t tx len (sr + (j : Int)) wd fa sr sg (ct_num tx len sr) wo w1) ∧ fr_at t 2 w0 w1) ⟨tap_o hT, fr_set hf (by omega) (by omega)⟩ (fun w1 hCf => ?_)
        obtain ⟨hT, hf⟩ := hCf
        obtain ⟨t0, t1⟩ := id hT
        exact ev_return de_Ta_readNumber_107 rfl ⟨rfl, by rw [ge]; exact hT, hf⟩
      · skip
        have eN : ct_num tx len sr = tk_num tx sr j := by unfold ct_num; rw [if_pos (by omega), ge, show (sr + (j : Int) - sr).toNat = j by omega]
        refine ev_iload_n de_Ta_readNumber_99 rfl rfl ?_
        refine ev_goto (tgt := 104) de_Ta_readNumber_100 (by decide) ?_
        rw [← eN]
        refine ev_putfield de_Ta_readNumber_104 t0 (fp_Ta_40 _) (Nat.le_of_ble_eq_true rfl) trivial ?_
        refine ev_gen (P := fun w1 => (tap t tx len (sr + (j : Int)) wd fa sr sg (ct_num tx len sr) wo w1) ∧ fr_at t 2 w0 w1) ⟨tap_o hT, fr_set hf (by omega) (by omega)⟩ (fun w1 hCf => ?_)
        obtain ⟨hT, hf⟩ := hCf
        obtain ⟨t0, t1⟩ := id hT
        exact ev_return de_Ta_readNumber_107 rfl ⟨rfl, by rw [ge]; exact hT, hf⟩
    · skip
      have qb := hk.2.2 (sr + (j : Int)) (by omega) (by omega)
      refine ev_aload_n de_Ta_readNumber_13 rfl rfl ?_
      refine ev_getfield de_Ta_readNumber_14 t0 fl_Ta_9 rfl ?_
      refine ev_aload_n de_Ta_readNumber_17 rfl rfl ?_
      refine ev_getfield de_Ta_readNumber_18 t0 fl_Ta_25 rfl ?_
      refine ev_baload de_Ta_readNumber_21 t1 (by omega) (by omega) (by omega) ?_
      refine ev_bipush de_Ta_readNumber_22 rfl ?_
      refine ev_icmp_lt (tgt := 85) de_Ta_readNumber_24 (by decide) (by omega) (by omega) (fun h24 => ?_) (fun h24 => ?_)
      · skip
        have gd : tk_dg tx len (sr + (j : Int)) = false := decide_eq_false (by omega)
        have ge : tk_de tx len sr = sr + (j : Int) := by rw [← g3]; exact tk_to_e gd
        refine ev_aload_n de_Ta_readNumber_85 rfl rfl ?_
        refine ev_aload_n de_Ta_readNumber_86 rfl rfl ?_
        refine ev_getfield de_Ta_readNumber_87 t0 fl_Ta_25 rfl ?_
        refine ev_aload_n de_Ta_readNumber_90 rfl rfl ?_
        refine ev_getfield de_Ta_readNumber_91 t0 fl_Ta_34 rfl ?_
        refine ev_isub de_Ta_readNumber_94 ?_
        refine ev_iconst de_Ta_readNumber_95 ?_
        refine ev_icmp_gt (tgt := 103) de_Ta_readNumber_96 (by decide) (by omega) (by omega) (fun h96 => ?_) (fun h96 => ?_)
        · skip
          have eN : ct_num tx len sr = -1 := by unfold ct_num; rw [if_neg (by omega)]
          refine ev_iconst de_Ta_readNumber_103 ?_
          rw [← eN]
          refine ev_putfield de_Ta_readNumber_104 t0 (fp_Ta_40 _) (Nat.le_of_ble_eq_true rfl) trivial ?_
          refine ev_gen (P := fun w1 => (tap t tx len (sr + (j : Int)) wd fa sr sg (ct_num tx len sr) wo w1) ∧ fr_at t 2 w0 w1) ⟨tap_o hT, fr_set hf (by omega) (by omega)⟩ (fun w1 hCf => ?_)
          obtain ⟨hT, hf⟩ := hCf
          obtain ⟨t0, t1⟩ := id hT
          exact ev_return de_Ta_readNumber_107 rfl ⟨rfl, by rw [ge]; exact hT, hf⟩
        · skip
          have eN : ct_num tx len sr = tk_num tx sr j := by unfold ct_num; rw [if_pos (by omega), ge, show (sr + (j : Int) - sr).toNat = j by omega]
          refine ev_iload_n de_Ta_readNumber_99 rfl rfl ?_
          refine ev_goto (tgt := 104) de_Ta_readNumber_100 (by decide) ?_
          rw [← eN]
          refine ev_putfield de_Ta_readNumber_104 t0 (fp_Ta_40 _) (Nat.le_of_ble_eq_true rfl) trivial ?_
          refine ev_gen (P := fun w1 => (tap t tx len (sr + (j : Int)) wd fa sr sg (ct_num tx len sr) wo w1) ∧ fr_at t 2 w0 w1) ⟨tap_o hT, fr_set hf (by omega) (by omega)⟩ (fun w1 hCf => ?_)
          obtain ⟨hT, hf⟩ := hCf
          obtain ⟨t0, t1⟩ := id hT
          exact ev_return de_Ta_readNumber_107 rfl ⟨rfl, by rw [ge]; exact hT, hf⟩
      · skip
        refine ev_aload_n de_Ta_readNumber_27 rfl rfl ?_
        refine ev_getfield de_Ta_readNumber_28 t0 fl_Ta_9 rfl ?_
        refine ev_aload_n de_Ta_readNumber_31 rfl rfl ?_
        refine ev_getfield de_Ta_readNumber_32 t0 fl_Ta_25 rfl ?_
        refine ev_baload de_Ta_readNumber_35 t1 (by omega) (by omega) (by omega) ?_
        refine ev_bipush de_Ta_readNumber_36 rfl ?_
        refine ev_icmp_gt (tgt := 85) de_Ta_readNumber_38 (by decide) (by omega) (by omega) (fun h38 => ?_) (fun h38 => ?_)
        · skip
          have gd : tk_dg tx len (sr + (j : Int)) = false := decide_eq_false (by omega)
          have ge : tk_de tx len sr = sr + (j : Int) := by rw [← g3]; exact tk_to_e gd
          refine ev_aload_n de_Ta_readNumber_85 rfl rfl ?_
          refine ev_aload_n de_Ta_readNumber_86 rfl rfl ?_
          refine ev_getfield de_Ta_readNumber_87 t0 fl_Ta_25 rfl ?_
          refine ev_aload_n de_Ta_readNumber_90 rfl rfl ?_
          refine ev_getfield de_Ta_readNumber_91 t0 fl_Ta_34 rfl ?_
          refine ev_isub de_Ta_readNumber_94 ?_
          refine ev_iconst de_Ta_readNumber_95 ?_
          refine ev_icmp_gt (tgt := 103) de_Ta_readNumber_96 (by decide) (by omega) (by omega) (fun h96 => ?_) (fun h96 => ?_)
          · skip
            have eN : ct_num tx len sr = -1 := by unfold ct_num; rw [if_neg (by omega)]
            refine ev_iconst de_Ta_readNumber_103 ?_
            rw [← eN]
            refine ev_putfield de_Ta_readNumber_104 t0 (fp_Ta_40 _) (Nat.le_of_ble_eq_true rfl) trivial ?_
            refine ev_gen (P := fun w1 => (tap t tx len (sr + (j : Int)) wd fa sr sg (ct_num tx len sr) wo w1) ∧ fr_at t 2 w0 w1) ⟨tap_o hT, fr_set hf (by omega) (by omega)⟩ (fun w1 hCf => ?_)
            obtain ⟨hT, hf⟩ := hCf
            obtain ⟨t0, t1⟩ := id hT
            exact ev_return de_Ta_readNumber_107 rfl ⟨rfl, by rw [ge]; exact hT, hf⟩
          · skip
            have eN : ct_num tx len sr = tk_num tx sr j := by unfold ct_num; rw [if_pos (by omega), ge, show (sr + (j : Int) - sr).toNat = j by omega]
            refine ev_iload_n de_Ta_readNumber_99 rfl rfl ?_
            refine ev_goto (tgt := 104) de_Ta_readNumber_100 (by decide) ?_
            rw [← eN]
            refine ev_putfield de_Ta_readNumber_104 t0 (fp_Ta_40 _) (Nat.le_of_ble_eq_true rfl) trivial ?_
            refine ev_gen (P := fun w1 => (tap t tx len (sr + (j : Int)) wd fa sr sg (ct_num tx len sr) wo w1) ∧ fr_at t 2 w0 w1) ⟨tap_o hT, fr_set hf (by omega) (by omega)⟩ (fun w1 hCf => ?_)
            obtain ⟨hT, hf⟩ := hCf
            obtain ⟨t0, t1⟩ := id hT
            exact ev_return de_Ta_readNumber_107 rfl ⟨rfl, by rw [ge]; exact hT, hf⟩
        · skip
          refine ev_aload_n de_Ta_readNumber_41 rfl rfl ?_
          refine ev_getfield de_Ta_readNumber_42 t0 fl_Ta_25 rfl ?_
          refine ev_aload_n de_Ta_readNumber_45 rfl rfl ?_
          refine ev_getfield de_Ta_readNumber_46 t0 fl_Ta_34 rfl ?_
          refine ev_isub de_Ta_readNumber_49 ?_
          refine ev_iconst de_Ta_readNumber_50 ?_
          refine ev_icmp_ge (tgt := 72) de_Ta_readNumber_51 (by decide) (by omega) (by omega) (fun h51 => ?_) (fun h51 => ?_)
          · skip
            have eV : tk_num tx sr j = tk_num tx sr (j + 1) := by show _ = (if j < 5 then _ else _); rw [if_neg (by omega)]
            refine ev_aload_n de_Ta_readNumber_72 rfl rfl ?_
            refine ev_dup de_Ta_readNumber_73 rfl ?_
            refine ev_getfield de_Ta_readNumber_74 t0 fl_Ta_25 rfl ?_
            refine ev_iconst de_Ta_readNumber_77 ?_
            refine ev_iadd de_Ta_readNumber_78 ?_
            refine ev_putfield de_Ta_readNumber_79 t0 (fp_Ta_25 _) (Nat.le_of_ble_eq_true rfl) trivial ?_
            refine ev_gen (P := fun w1 => (tap t tx len (sr + (j : Int) + 1) wd fa sr sg nu wo w1) ∧ fr_at t 2 w0 w1) ⟨tap_o hT, fr_set hf (by omega) (by omega)⟩ (fun w1 hCf => ?_)
            obtain ⟨hT, hf⟩ := hCf
            obtain ⟨t0, t1⟩ := id hT
            rw [show sr + (j : Int) + 1 = sr + ((j + 1 : Nat) : Int) by omega] at hT
            refine ev_goto (tgt := 2) de_Ta_readNumber_82 (by decide) ?_
            have g5 : tk_dg tx len (sr + (j : Int)) = true := decide_eq_true ⟨by omega, by omega, by omega⟩
            have g6 := tk_to_s (p := tk_dg tx len) (taped := len) (i := sr + (j : Int)) (by omega) g5
            refine ev_loc (l2 := [some (ab_R t), some (ab_I (tk_num tx sr (j + 1)))]) (by rw [eV]) ?_
            exact ih (j + 1) _ (by omega) (by omega) (by rw [← g3]; unfold tk_de; rw [g6]; congr 1; omega) (fun k hk2 => by by_cases c : k = j; (rw [c]; omega); exact g4 k (by omega)) hT hf
          · skip
            have eV : tk_num tx sr j * 10 + tx (sr + (j : Int)) - 48 = tk_num tx sr (j + 1) := by show _ = (if j < 5 then _ else _); rw [if_pos (by omega)]; omega
            refine ev_iload_n de_Ta_readNumber_54 rfl rfl ?_
            refine ev_bipush de_Ta_readNumber_55 rfl ?_
            refine ev_imul de_Ta_readNumber_57 ?_
            refine ev_aload_n de_Ta_readNumber_58 rfl rfl ?_
            refine ev_getfield de_Ta_readNumber_59 t0 fl_Ta_9 rfl ?_
            refine ev_aload_n de_Ta_readNumber_62 rfl rfl ?_
            refine ev_getfield de_Ta_readNumber_63 t0 fl_Ta_25 rfl ?_
            refine ev_baload de_Ta_readNumber_66 t1 (by omega) (by omega) (by omega) ?_
            refine ev_iadd de_Ta_readNumber_67 ?_
            refine ev_bipush de_Ta_readNumber_68 rfl ?_
            refine ev_isub de_Ta_readNumber_70 ?_
            refine ev_istore_n (l' := [_, _]) de_Ta_readNumber_71 rfl (Nat.le_of_ble_eq_true rfl) rfl ?_
            refine ev_aload_n de_Ta_readNumber_72 rfl rfl ?_
            refine ev_dup de_Ta_readNumber_73 rfl ?_
            refine ev_getfield de_Ta_readNumber_74 t0 fl_Ta_25 rfl ?_
            refine ev_iconst de_Ta_readNumber_77 ?_
            refine ev_iadd de_Ta_readNumber_78 ?_
            refine ev_putfield de_Ta_readNumber_79 t0 (fp_Ta_25 _) (Nat.le_of_ble_eq_true rfl) trivial ?_
            refine ev_gen (P := fun w1 => (tap t tx len (sr + (j : Int) + 1) wd fa sr sg nu wo w1) ∧ fr_at t 2 w0 w1) ⟨tap_o hT, fr_set hf (by omega) (by omega)⟩ (fun w1 hCf => ?_)
            obtain ⟨hT, hf⟩ := hCf
            obtain ⟨t0, t1⟩ := id hT
            rw [show sr + (j : Int) + 1 = sr + ((j + 1 : Nat) : Int) by omega] at hT
            refine ev_goto (tgt := 2) de_Ta_readNumber_82 (by decide) ?_
            have g5 : tk_dg tx len (sr + (j : Int)) = true := decide_eq_true ⟨by omega, by omega, by omega⟩
            have g6 := tk_to_s (p := tk_dg tx len) (taped := len) (i := sr + (j : Int)) (by omega) g5
            refine ev_loc (l2 := [some (ab_R t), some (ab_I (tk_num tx sr (j + 1)))]) (by rw [eV]) ?_
            exact ih (j + 1) _ (by omega) (by omega) (by rw [← g3]; unfold tk_de; rw [g6]; congr 1; omega) (fun k hk2 => by by_cases c : k = j; (rw [c]; omega); exact g4 k (by omega)) hT hf
set_option maxHeartbeats 4000000 in
set_option maxRecDepth 10000 in
theorem co_Ta_readNumber {t : Nat} {tx : Int → Int} {len a fa sr sg nu wo : Int} {wd : Nat} {w : ab_W} (hT : (tap t tx len (sr) wd fa sr sg nu wo w)) (hk : tp_ok tx len) (hs0 : 0 ≤ sr) (hs1 : sr ≤ len) : ab_Mt g_G g_rs mt_Ta_readNumber 0 0 0 [ab_R t] w (fun r w2 => r = none ∧ (tap t tx len (tk_de tx len sr) wd fa sr sg (ct_num tx len sr) wo w2) ∧ fr_at t 2 w w2) := by
  refine ab_Mt.of rfl (Nat.le_of_ble_eq_true rfl) ?_
  show ab_Ev g_G g_rs mt_Ta_readNumber _ _ _ 0 [some (ab_R t), none] [] _ _
  refine ev_iconst de_Ta_readNumber_0 ?_
  refine ev_istore_n (l' := [_, _]) de_Ta_readNumber_1 rfl (Nat.le_of_ble_eq_true rfl) rfl ?_
  exact lo_Ta_readNumber (a := a) hk hs0 hs1 (len + 1).toNat 0 w (by omega) (by have := hk.1; omega) (by rw [show sr + ((0 : Nat) : Int) = sr by omega]) (fun k hk2 => absurd hk2 (Nat.not_lt_zero _)) (by rw [show sr + ((0 : Nat) : Int) = sr by omega]; exact hT) fr_0

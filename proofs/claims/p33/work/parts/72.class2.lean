theorem de_Ri_likesNow_0 : decode prog_7_method_13_code 0 = .ok (.aload_n 0, 1) := by decide +kernel
theorem de_Ri_likesNow_1 : decode prog_7_method_13_code 1 = .ok (.iload_n 1, 1) := by decide +kernel
theorem de_Ri_likesNow_2 : decode prog_7_method_13_code 2 = .ok (.aload_n 0, 1) := by decide +kernel
theorem de_Ri_likesNow_3 : decode prog_7_method_13_code 3 = .ok (.getfield 9, 3) := by decide +kernel
theorem de_Ri_likesNow_6 : decode prog_7_method_13_code 6 = .ok (.iload_n 1, 1) := by decide +kernel
theorem de_Ri_likesNow_7 : decode prog_7_method_13_code 7 = .ok (.iaload, 1) := by decide +kernel
theorem de_Ri_likesNow_8 : decode prog_7_method_13_code 8 = .ok (.aload_n 0, 1) := by decide +kernel
theorem de_Ri_likesNow_9 : decode prog_7_method_13_code 9 = .ok (.getfield 45, 3) := by decide +kernel
theorem de_Ri_likesNow_12 : decode prog_7_method_13_code 12 = .ok (.aload_n 0, 1) := by decide +kernel
theorem de_Ri_likesNow_13 : decode prog_7_method_13_code 13 = .ok (.getfield 49, 3) := by decide +kernel
theorem de_Ri_likesNow_16 : decode prog_7_method_13_code 16 = .ok (.invokevirtual 106, 3) := by decide +kernel
theorem de_Ri_likesNow_19 : decode prog_7_method_13_code 19 = .ok (.ireturn, 1) := by decide +kernel
def cs_all (f : Int → Int) (a t : Int) (k : Nat) : Int := sp_sum (fun h => sp_likesAt f h ((f (46 + h) + a) % 12) t) k
def cs_ab (f : Int → Int) (a t : Int) : Int := if f 7 = 1 ∧ t = 0 then a else (a + f (10 + (f 5 + t) % 24)) % 12
def cs_ang (f : Int → Int) : Nat → Int
  | 0 => f 4
  | k + 1 => cs_ab f (cs_ang f k) (k : Int)
theorem cs_ang_b {B : Int} {f : Int → Int} (hI : sg_ok B f) : ∀ k : Nat, 0 ≤ cs_ang f k ∧ cs_ang f k ≤ 11
  | 0 => (sg_all hI).2.2.2.2.1
  | k + 1 => by
    have ih := cs_ang_b hI k
    unfold cs_ang cs_ab
    split
    · exact ih
    · omega
def cs_day (f : Int → Int) (h slot : Int) : Nat → Int
  | 0 => 0
  | k + 1 => cs_day f h slot k + sp_likesAt f h ((slot + cs_ang f k) % 12) ((f 5 + (k : Int)) % 24)
def cs_sv (f : Int → Int) (k : Nat) : Int := sp_sum (fun h => if sp_wantsI f h = 1 then f (53 + h) else 0) k
theorem de_Ri_allLike_0 : decode prog_7_method_14_code 0 = .ok (.iconst 0, 1) := by decide +kernel
theorem de_Ri_allLike_1 : decode prog_7_method_14_code 1 = .ok (.istore_n 3, 1) := by decide +kernel
theorem de_Ri_allLike_2 : decode prog_7_method_14_code 2 = .ok (.iconst 0, 1) := by decide +kernel
theorem de_Ri_allLike_3 : decode prog_7_method_14_code 3 = .ok (.istore 4, 2) := by decide +kernel
theorem de_Ri_allLike_5 : decode prog_7_method_14_code 5 = .ok (.iload 4, 2) := by decide +kernel
theorem de_Ri_allLike_7 : decode prog_7_method_14_code 7 = .ok (.aload_n 0, 1) := by decide +kernel
theorem de_Ri_allLike_8 : decode prog_7_method_14_code 8 = .ok (.getfield 64, 3) := by decide +kernel
theorem de_Ri_allLike_11 : decode prog_7_method_14_code 11 = .ok (.if_icmp .ge 27, 3) := by decide +kernel
theorem de_Ri_allLike_14 : decode prog_7_method_14_code 14 = .ok (.iload_n 3, 1) := by decide +kernel
theorem de_Ri_allLike_15 : decode prog_7_method_14_code 15 = .ok (.aload_n 0, 1) := by decide +kernel
theorem de_Ri_allLike_16 : decode prog_7_method_14_code 16 = .ok (.iload 4, 2) := by decide +kernel
theorem de_Ri_allLike_18 : decode prog_7_method_14_code 18 = .ok (.aload_n 0, 1) := by decide +kernel
theorem de_Ri_allLike_19 : decode prog_7_method_14_code 19 = .ok (.getfield 9, 3) := by decide +kernel
theorem de_Ri_allLike_22 : decode prog_7_method_14_code 22 = .ok (.iload 4, 2) := by decide +kernel
theorem de_Ri_allLike_24 : decode prog_7_method_14_code 24 = .ok (.iaload, 1) := by decide +kernel
theorem de_Ri_allLike_25 : decode prog_7_method_14_code 25 = .ok (.iload_n 1, 1) := by decide +kernel
theorem de_Ri_allLike_26 : decode prog_7_method_14_code 26 = .ok (.iload_n 2, 1) := by decide +kernel
theorem de_Ri_allLike_27 : decode prog_7_method_14_code 27 = .ok (.invokevirtual 106, 3) := by decide +kernel
theorem de_Ri_allLike_30 : decode prog_7_method_14_code 30 = .ok (.iadd, 1) := by decide +kernel
theorem de_Ri_allLike_31 : decode prog_7_method_14_code 31 = .ok (.istore_n 3, 1) := by decide +kernel
theorem de_Ri_allLike_32 : decode prog_7_method_14_code 32 = .ok (.iinc 4 1, 3) := by decide +kernel
theorem de_Ri_allLike_35 : decode prog_7_method_14_code 35 = .ok (.goto (-30), 3) := by decide +kernel
theorem de_Ri_allLike_38 : decode prog_7_method_14_code 38 = .ok (.iload_n 3, 1) := by decide +kernel
theorem de_Ri_allLike_39 : decode prog_7_method_14_code 39 = .ok (.ireturn, 1) := by decide +kernel
theorem de_Ri_hourOn_0 : decode prog_7_method_23_code 0 = .ok (.aload_n 0, 1) := by decide +kernel
theorem de_Ri_hourOn_1 : decode prog_7_method_23_code 1 = .ok (.getfield 49, 3) := by decide +kernel
theorem de_Ri_hourOn_4 : decode prog_7_method_23_code 4 = .ok (.iload_n 1, 1) := by decide +kernel
theorem de_Ri_hourOn_5 : decode prog_7_method_23_code 5 = .ok (.iadd, 1) := by decide +kernel
theorem de_Ri_hourOn_6 : decode prog_7_method_23_code 6 = .ok (.bipush 24, 2) := by decide +kernel
theorem de_Ri_hourOn_8 : decode prog_7_method_23_code 8 = .ok (.irem, 1) := by decide +kernel
theorem de_Ri_hourOn_9 : decode prog_7_method_23_code 9 = .ok (.ireturn, 1) := by decide +kernel
theorem de_Ri_angleBehind_0 : decode prog_7_method_24_code 0 = .ok (.aload_n 0, 1) := by decide +kernel
theorem de_Ri_angleBehind_1 : decode prog_7_method_24_code 1 = .ok (.getfield 55, 3) := by decide +kernel
theorem de_Ri_angleBehind_4 : decode prog_7_method_24_code 4 = .ok (.ifCond .eq 11, 3) := by decide +kernel
theorem de_Ri_angleBehind_7 : decode prog_7_method_24_code 7 = .ok (.iload_n 2, 1) := by decide +kernel
theorem de_Ri_angleBehind_8 : decode prog_7_method_24_code 8 = .ok (.ifCond .ne 7, 3) := by decide +kernel
theorem de_Ri_angleBehind_11 : decode prog_7_method_24_code 11 = .ok (.iload_n 1, 1) := by decide +kernel
theorem de_Ri_angleBehind_12 : decode prog_7_method_24_code 12 = .ok (.goto 18, 3) := by decide +kernel
theorem de_Ri_angleBehind_15 : decode prog_7_method_24_code 15 = .ok (.iload_n 1, 1) := by decide +kernel
theorem de_Ri_angleBehind_16 : decode prog_7_method_24_code 16 = .ok (.aload_n 0, 1) := by decide +kernel
theorem de_Ri_angleBehind_17 : decode prog_7_method_24_code 17 = .ok (.getfield 28, 3) := by decide +kernel
theorem de_Ri_angleBehind_20 : decode prog_7_method_24_code 20 = .ok (.aload_n 0, 1) := by decide +kernel
theorem de_Ri_angleBehind_21 : decode prog_7_method_24_code 21 = .ok (.iload_n 2, 1) := by decide +kernel
theorem de_Ri_angleBehind_22 : decode prog_7_method_24_code 22 = .ok (.invokevirtual 125, 3) := by decide +kernel
theorem de_Ri_angleBehind_25 : decode prog_7_method_24_code 25 = .ok (.iaload, 1) := by decide +kernel
theorem de_Ri_angleBehind_26 : decode prog_7_method_24_code 26 = .ok (.iadd, 1) := by decide +kernel
theorem de_Ri_angleBehind_27 : decode prog_7_method_24_code 27 = .ok (.invokestatic 131, 3) := by decide +kernel
theorem de_Ri_angleBehind_30 : decode prog_7_method_24_code 30 = .ok (.ireturn, 1) := by decide +kernel
theorem de_Ri_angleOn_0 : decode prog_7_method_25_code 0 = .ok (.aload_n 0, 1) := by decide +kernel
theorem de_Ri_angleOn_1 : decode prog_7_method_25_code 1 = .ok (.getfield 45, 3) := by decide +kernel
theorem de_Ri_angleOn_4 : decode prog_7_method_25_code 4 = .ok (.istore_n 2, 1) := by decide +kernel
theorem de_Ri_angleOn_5 : decode prog_7_method_25_code 5 = .ok (.iconst 0, 1) := by decide +kernel
theorem de_Ri_angleOn_6 : decode prog_7_method_25_code 6 = .ok (.istore_n 3, 1) := by decide +kernel
theorem de_Ri_angleOn_7 : decode prog_7_method_25_code 7 = .ok (.iload_n 3, 1) := by decide +kernel
theorem de_Ri_angleOn_8 : decode prog_7_method_25_code 8 = .ok (.iload_n 1, 1) := by decide +kernel
theorem de_Ri_angleOn_9 : decode prog_7_method_25_code 9 = .ok (.if_icmp .ge 16, 3) := by decide +kernel
theorem de_Ri_angleOn_12 : decode prog_7_method_25_code 12 = .ok (.aload_n 0, 1) := by decide +kernel
theorem de_Ri_angleOn_13 : decode prog_7_method_25_code 13 = .ok (.iload_n 2, 1) := by decide +kernel
theorem de_Ri_angleOn_14 : decode prog_7_method_25_code 14 = .ok (.iload_n 3, 1) := by decide +kernel
theorem de_Ri_angleOn_15 : decode prog_7_method_25_code 15 = .ok (.invokevirtual 128, 3) := by decide +kernel
theorem de_Ri_angleOn_18 : decode prog_7_method_25_code 18 = .ok (.istore_n 2, 1) := by decide +kernel
theorem de_Ri_angleOn_19 : decode prog_7_method_25_code 19 = .ok (.iinc 3 1, 3) := by decide +kernel
theorem de_Ri_angleOn_22 : decode prog_7_method_25_code 22 = .ok (.goto (-15), 3) := by decide +kernel
theorem de_Ri_angleOn_25 : decode prog_7_method_25_code 25 = .ok (.iload_n 2, 1) := by decide +kernel
theorem de_Ri_angleOn_26 : decode prog_7_method_25_code 26 = .ok (.ireturn, 1) := by decide +kernel
theorem de_Ri_wantsStay_0 : decode prog_7_method_19_code 0 = .ok (.aload_n 0, 1) := by decide +kernel
theorem de_Ri_wantsStay_1 : decode prog_7_method_19_code 1 = .ok (.getfield 45, 3) := by decide +kernel
theorem de_Ri_wantsStay_4 : decode prog_7_method_19_code 4 = .ok (.aload_n 0, 1) := by decide +kernel
theorem de_Ri_wantsStay_5 : decode prog_7_method_19_code 5 = .ok (.getfield 28, 3) := by decide +kernel
theorem de_Ri_wantsStay_8 : decode prog_7_method_19_code 8 = .ok (.aload_n 0, 1) := by decide +kernel
theorem de_Ri_wantsStay_9 : decode prog_7_method_19_code 9 = .ok (.getfield 49, 3) := by decide +kernel
theorem de_Ri_wantsStay_12 : decode prog_7_method_19_code 12 = .ok (.iaload, 1) := by decide +kernel
theorem de_Ri_wantsStay_13 : decode prog_7_method_19_code 13 = .ok (.iadd, 1) := by decide +kernel
theorem de_Ri_wantsStay_14 : decode prog_7_method_19_code 14 = .ok (.invokestatic 131, 3) := by decide +kernel
theorem de_Ri_wantsStay_17 : decode prog_7_method_19_code 17 = .ok (.istore_n 2, 1) := by decide +kernel
theorem de_Ri_wantsStay_18 : decode prog_7_method_19_code 18 = .ok (.aload_n 0, 1) := by decide +kernel
theorem de_Ri_wantsStay_19 : decode prog_7_method_19_code 19 = .ok (.iload_n 1, 1) := by decide +kernel
theorem de_Ri_wantsStay_20 : decode prog_7_method_19_code 20 = .ok (.aload_n 0, 1) := by decide +kernel
theorem de_Ri_wantsStay_21 : decode prog_7_method_19_code 21 = .ok (.getfield 9, 3) := by decide +kernel
theorem de_Ri_wantsStay_24 : decode prog_7_method_19_code 24 = .ok (.iload_n 1, 1) := by decide +kernel
theorem de_Ri_wantsStay_25 : decode prog_7_method_19_code 25 = .ok (.iaload, 1) := by decide +kernel
theorem de_Ri_wantsStay_26 : decode prog_7_method_19_code 26 = .ok (.aload_n 0, 1) := by decide +kernel
theorem de_Ri_wantsStay_27 : decode prog_7_method_19_code 27 = .ok (.getfield 45, 3) := by decide +kernel
theorem de_Ri_wantsStay_30 : decode prog_7_method_19_code 30 = .ok (.aload_n 0, 1) := by decide +kernel
theorem de_Ri_wantsStay_31 : decode prog_7_method_19_code 31 = .ok (.getfield 49, 3) := by decide +kernel
theorem de_Ri_wantsStay_34 : decode prog_7_method_19_code 34 = .ok (.invokevirtual 106, 3) := by decide +kernel
theorem de_Ri_wantsStay_37 : decode prog_7_method_19_code 37 = .ok (.aload_n 0, 1) := by decide +kernel
theorem de_Ri_wantsStay_38 : decode prog_7_method_19_code 38 = .ok (.iload_n 1, 1) := by decide +kernel
theorem de_Ri_wantsStay_39 : decode prog_7_method_19_code 39 = .ok (.aload_n 0, 1) := by decide +kernel
theorem de_Ri_wantsStay_40 : decode prog_7_method_19_code 40 = .ok (.getfield 9, 3) := by decide +kernel
theorem de_Ri_wantsStay_43 : decode prog_7_method_19_code 43 = .ok (.iload_n 1, 1) := by decide +kernel
theorem de_Ri_wantsStay_44 : decode prog_7_method_19_code 44 = .ok (.iaload, 1) := by decide +kernel
theorem de_Ri_wantsStay_45 : decode prog_7_method_19_code 45 = .ok (.iload_n 2, 1) := by decide +kernel
theorem de_Ri_wantsStay_46 : decode prog_7_method_19_code 46 = .ok (.aload_n 0, 1) := by decide +kernel
theorem de_Ri_wantsStay_47 : decode prog_7_method_19_code 47 = .ok (.getfield 49, 3) := by decide +kernel
theorem de_Ri_wantsStay_50 : decode prog_7_method_19_code 50 = .ok (.invokevirtual 106, 3) := by decide +kernel
theorem de_Ri_wantsStay_53 : decode prog_7_method_19_code 53 = .ok (.if_icmp .le 7, 3) := by decide +kernel
theorem de_Ri_wantsStay_56 : decode prog_7_method_19_code 56 = .ok (.iconst 1, 1) := by decide +kernel
theorem de_Ri_wantsStay_57 : decode prog_7_method_19_code 57 = .ok (.goto 4, 3) := by decide +kernel
theorem de_Ri_wantsStay_60 : decode prog_7_method_19_code 60 = .ok (.iconst 0, 1) := by decide +kernel
theorem de_Ri_wantsStay_61 : decode prog_7_method_19_code 61 = .ok (.ireturn, 1) := by decide +kernel
theorem de_Ri_votesOf_0 : decode prog_7_method_22_code 0 = .ok (.iconst 0, 1) := by decide +kernel
theorem de_Ri_votesOf_1 : decode prog_7_method_22_code 1 = .ok (.istore_n 2, 1) := by decide +kernel
theorem de_Ri_votesOf_2 : decode prog_7_method_22_code 2 = .ok (.iconst 0, 1) := by decide +kernel
theorem de_Ri_votesOf_3 : decode prog_7_method_22_code 3 = .ok (.istore_n 3, 1) := by decide +kernel
theorem de_Ri_votesOf_4 : decode prog_7_method_22_code 4 = .ok (.iload_n 3, 1) := by decide +kernel
theorem de_Ri_votesOf_5 : decode prog_7_method_22_code 5 = .ok (.aload_n 0, 1) := by decide +kernel
theorem de_Ri_votesOf_6 : decode prog_7_method_22_code 6 = .ok (.getfield 64, 3) := by decide +kernel
theorem de_Ri_votesOf_9 : decode prog_7_method_22_code 9 = .ok (.if_icmp .ge 26, 3) := by decide +kernel
theorem de_Ri_votesOf_12 : decode prog_7_method_22_code 12 = .ok (.iload_n 1, 1) := by decide +kernel
theorem de_Ri_votesOf_13 : decode prog_7_method_22_code 13 = .ok (.iload_n 3, 1) := by decide +kernel
theorem de_Ri_votesOf_14 : decode prog_7_method_22_code 14 = .ok (.ishr, 1) := by decide +kernel
theorem de_Ri_votesOf_15 : decode prog_7_method_22_code 15 = .ok (.iconst 1, 1) := by decide +kernel
theorem de_Ri_votesOf_16 : decode prog_7_method_22_code 16 = .ok (.iand, 1) := by decide +kernel
theorem de_Ri_votesOf_17 : decode prog_7_method_22_code 17 = .ok (.ifCond .eq 12, 3) := by decide +kernel
theorem de_Ri_votesOf_20 : decode prog_7_method_22_code 20 = .ok (.iload_n 2, 1) := by decide +kernel
theorem de_Ri_votesOf_21 : decode prog_7_method_22_code 21 = .ok (.aload_n 0, 1) := by decide +kernel
theorem de_Ri_votesOf_22 : decode prog_7_method_22_code 22 = .ok (.getfield 18, 3) := by decide +kernel
theorem de_Ri_votesOf_25 : decode prog_7_method_22_code 25 = .ok (.iload_n 3, 1) := by decide +kernel
theorem de_Ri_votesOf_26 : decode prog_7_method_22_code 26 = .ok (.iaload, 1) := by decide +kernel
theorem de_Ri_votesOf_27 : decode prog_7_method_22_code 27 = .ok (.iadd, 1) := by decide +kernel
theorem de_Ri_votesOf_28 : decode prog_7_method_22_code 28 = .ok (.istore_n 2, 1) := by decide +kernel
theorem de_Ri_votesOf_29 : decode prog_7_method_22_code 29 = .ok (.iinc 3 1, 3) := by decide +kernel
theorem de_Ri_votesOf_32 : decode prog_7_method_22_code 32 = .ok (.goto (-28), 3) := by decide +kernel
theorem de_Ri_votesOf_35 : decode prog_7_method_22_code 35 = .ok (.iload_n 2, 1) := by decide +kernel
theorem de_Ri_votesOf_36 : decode prog_7_method_22_code 36 = .ok (.ireturn, 1) := by decide +kernel
theorem cs_every {f : Int → Int} (h0 : 0 ≤ f 1) (h1 : f 1 ≤ 7) : (1 : Int) * 2 ^ (f 1).toNat - 1 = ((sp_every f : Nat) : Int) ∧ (0 : Int) ≤ ((sp_every f : Nat) : Int) ∧ ((sp_every f : Nat) : Int) ≤ 127 := by
  unfold sp_every
  generalize e : (f 1).toNat = n
  have hn : n ≤ 7 := by omega
  rcases (by omega : n = 0 ∨ n = 1 ∨ n = 2 ∨ n = 3 ∨ n = 4 ∨ n = 5 ∨ n = 6 ∨ n = 7) with z | z | z | z | z | z | z | z <;> (subst z; decide)
theorem de_Ri_allVotes_0 : decode prog_7_method_21_code 0 = .ok (.aload_n 0, 1) := by decide +kernel
theorem de_Ri_allVotes_1 : decode prog_7_method_21_code 1 = .ok (.iconst 1, 1) := by decide +kernel
theorem de_Ri_allVotes_2 : decode prog_7_method_21_code 2 = .ok (.aload_n 0, 1) := by decide +kernel
theorem de_Ri_allVotes_3 : decode prog_7_method_21_code 3 = .ok (.getfield 64, 3) := by decide +kernel
theorem de_Ri_allVotes_6 : decode prog_7_method_21_code 6 = .ok (.ishl, 1) := by decide +kernel
theorem de_Ri_allVotes_7 : decode prog_7_method_21_code 7 = .ok (.iconst 1, 1) := by decide +kernel
theorem de_Ri_allVotes_8 : decode prog_7_method_21_code 8 = .ok (.isub, 1) := by decide +kernel
theorem de_Ri_allVotes_9 : decode prog_7_method_21_code 9 = .ok (.invokevirtual 137, 3) := by decide +kernel
theorem de_Ri_allVotes_12 : decode prog_7_method_21_code 12 = .ok (.ireturn, 1) := by decide +kernel
theorem de_Ri_stayVotes_0 : decode prog_7_method_20_code 0 = .ok (.iconst 0, 1) := by decide +kernel
theorem de_Ri_stayVotes_1 : decode prog_7_method_20_code 1 = .ok (.istore_n 1, 1) := by decide +kernel
theorem de_Ri_stayVotes_2 : decode prog_7_method_20_code 2 = .ok (.iconst 0, 1) := by decide +kernel
theorem de_Ri_stayVotes_3 : decode prog_7_method_20_code 3 = .ok (.istore_n 2, 1) := by decide +kernel
theorem de_Ri_stayVotes_4 : decode prog_7_method_20_code 4 = .ok (.iload_n 2, 1) := by decide +kernel
theorem de_Ri_stayVotes_5 : decode prog_7_method_20_code 5 = .ok (.aload_n 0, 1) := by decide +kernel
theorem de_Ri_stayVotes_6 : decode prog_7_method_20_code 6 = .ok (.getfield 64, 3) := by decide +kernel
theorem de_Ri_stayVotes_9 : decode prog_7_method_20_code 9 = .ok (.if_icmp .ge 26, 3) := by decide +kernel
theorem de_Ri_stayVotes_12 : decode prog_7_method_20_code 12 = .ok (.aload_n 0, 1) := by decide +kernel
theorem de_Ri_stayVotes_13 : decode prog_7_method_20_code 13 = .ok (.iload_n 2, 1) := by decide +kernel
theorem de_Ri_stayVotes_14 : decode prog_7_method_20_code 14 = .ok (.invokevirtual 134, 3) := by decide +kernel
theorem de_Ri_stayVotes_17 : decode prog_7_method_20_code 17 = .ok (.ifCond .eq 12, 3) := by decide +kernel
theorem de_Ri_stayVotes_20 : decode prog_7_method_20_code 20 = .ok (.iload_n 1, 1) := by decide +kernel
theorem de_Ri_stayVotes_21 : decode prog_7_method_20_code 21 = .ok (.aload_n 0, 1) := by decide +kernel
theorem de_Ri_stayVotes_22 : decode prog_7_method_20_code 22 = .ok (.getfield 18, 3) := by decide +kernel
theorem de_Ri_stayVotes_25 : decode prog_7_method_20_code 25 = .ok (.iload_n 2, 1) := by decide +kernel
theorem de_Ri_stayVotes_26 : decode prog_7_method_20_code 26 = .ok (.iaload, 1) := by decide +kernel
theorem de_Ri_stayVotes_27 : decode prog_7_method_20_code 27 = .ok (.iadd, 1) := by decide +kernel
theorem de_Ri_stayVotes_28 : decode prog_7_method_20_code 28 = .ok (.istore_n 1, 1) := by decide +kernel
theorem de_Ri_stayVotes_29 : decode prog_7_method_20_code 29 = .ok (.iinc 2 1, 3) := by decide +kernel
theorem de_Ri_stayVotes_32 : decode prog_7_method_20_code 32 = .ok (.goto (-28), 3) := by decide +kernel
theorem de_Ri_stayVotes_35 : decode prog_7_method_20_code 35 = .ok (.iload_n 1, 1) := by decide +kernel
theorem de_Ri_stayVotes_36 : decode prog_7_method_20_code 36 = .ok (.ireturn, 1) := by decide +kernel
theorem de_Ri_atGates_0 : decode prog_7_method_17_code 0 = .ok (.iconst 0, 1) := by decide +kernel
theorem de_Ri_atGates_1 : decode prog_7_method_17_code 1 = .ok (.istore_n 1, 1) := by decide +kernel
theorem de_Ri_atGates_2 : decode prog_7_method_17_code 2 = .ok (.iconst 0, 1) := by decide +kernel
theorem de_Ri_atGates_3 : decode prog_7_method_17_code 3 = .ok (.istore_n 2, 1) := by decide +kernel
theorem de_Ri_atGates_4 : decode prog_7_method_17_code 4 = .ok (.iload_n 2, 1) := by decide +kernel
theorem de_Ri_atGates_5 : decode prog_7_method_17_code 5 = .ok (.aload_n 0, 1) := by decide +kernel
theorem de_Ri_atGates_6 : decode prog_7_method_17_code 6 = .ok (.getfield 64, 3) := by decide +kernel
theorem de_Ri_atGates_9 : decode prog_7_method_17_code 9 = .ok (.if_icmp .ge 24, 3) := by decide +kernel
theorem de_Ri_atGates_12 : decode prog_7_method_17_code 12 = .ok (.aload_n 0, 1) := by decide +kernel
theorem de_Ri_atGates_13 : decode prog_7_method_17_code 13 = .ok (.aload_n 0, 1) := by decide +kernel
theorem de_Ri_atGates_14 : decode prog_7_method_17_code 14 = .ok (.iload_n 2, 1) := by decide +kernel
theorem de_Ri_atGates_15 : decode prog_7_method_17_code 15 = .ok (.invokevirtual 99, 3) := by decide +kernel
theorem de_Ri_atGates_18 : decode prog_7_method_17_code 18 = .ok (.invokevirtual 121, 3) := by decide +kernel
theorem de_Ri_atGates_21 : decode prog_7_method_17_code 21 = .ok (.ifCond .eq 6, 3) := by decide +kernel
theorem de_Ri_atGates_24 : decode prog_7_method_17_code 24 = .ok (.iinc 1 1, 3) := by decide +kernel
theorem de_Ri_atGates_27 : decode prog_7_method_17_code 27 = .ok (.iinc 2 1, 3) := by decide +kernel
theorem de_Ri_atGates_30 : decode prog_7_method_17_code 30 = .ok (.goto (-26), 3) := by decide +kernel
theorem de_Ri_atGates_33 : decode prog_7_method_17_code 33 = .ok (.iload_n 1, 1) := by decide +kernel
theorem de_Ri_atGates_34 : decode prog_7_method_17_code 34 = .ok (.ireturn, 1) := by decide +kernel
theorem de_Ri_dayIn_0 : decode prog_7_method_18_code 0 = .ok (.iconst 0, 1) := by decide +kernel
theorem de_Ri_dayIn_1 : decode prog_7_method_18_code 1 = .ok (.istore_n 3, 1) := by decide +kernel
theorem de_Ri_dayIn_2 : decode prog_7_method_18_code 2 = .ok (.aload_n 0, 1) := by decide +kernel
theorem de_Ri_dayIn_3 : decode prog_7_method_18_code 3 = .ok (.getfield 45, 3) := by decide +kernel
theorem de_Ri_dayIn_6 : decode prog_7_method_18_code 6 = .ok (.istore 4, 2) := by decide +kernel
theorem de_Ri_dayIn_8 : decode prog_7_method_18_code 8 = .ok (.iconst 0, 1) := by decide +kernel
theorem de_Ri_dayIn_9 : decode prog_7_method_18_code 9 = .ok (.istore 5, 2) := by decide +kernel
theorem de_Ri_dayIn_11 : decode prog_7_method_18_code 11 = .ok (.iload 5, 2) := by decide +kernel
theorem de_Ri_dayIn_13 : decode prog_7_method_18_code 13 = .ok (.bipush 24, 2) := by decide +kernel
theorem de_Ri_dayIn_15 : decode prog_7_method_18_code 15 = .ok (.if_icmp .ge 36, 3) := by decide +kernel
theorem de_Ri_dayIn_18 : decode prog_7_method_18_code 18 = .ok (.iload_n 3, 1) := by decide +kernel
theorem de_Ri_dayIn_19 : decode prog_7_method_18_code 19 = .ok (.aload_n 0, 1) := by decide +kernel
theorem de_Ri_dayIn_20 : decode prog_7_method_18_code 20 = .ok (.iload_n 1, 1) := by decide +kernel
theorem de_Ri_dayIn_21 : decode prog_7_method_18_code 21 = .ok (.iload_n 2, 1) := by decide +kernel
theorem de_Ri_dayIn_22 : decode prog_7_method_18_code 22 = .ok (.iload 4, 2) := by decide +kernel
theorem de_Ri_dayIn_24 : decode prog_7_method_18_code 24 = .ok (.aload_n 0, 1) := by decide +kernel
theorem de_Ri_dayIn_25 : decode prog_7_method_18_code 25 = .ok (.iload 5, 2) := by decide +kernel
theorem de_Ri_dayIn_27 : decode prog_7_method_18_code 27 = .ok (.invokevirtual 125, 3) := by decide +kernel
theorem de_Ri_dayIn_30 : decode prog_7_method_18_code 30 = .ok (.invokevirtual 106, 3) := by decide +kernel
theorem de_Ri_dayIn_33 : decode prog_7_method_18_code 33 = .ok (.iadd, 1) := by decide +kernel
theorem de_Ri_dayIn_34 : decode prog_7_method_18_code 34 = .ok (.istore_n 3, 1) := by decide +kernel
theorem de_Ri_dayIn_35 : decode prog_7_method_18_code 35 = .ok (.aload_n 0, 1) := by decide +kernel
theorem de_Ri_dayIn_36 : decode prog_7_method_18_code 36 = .ok (.iload 4, 2) := by decide +kernel
theorem de_Ri_dayIn_38 : decode prog_7_method_18_code 38 = .ok (.iload 5, 2) := by decide +kernel
theorem de_Ri_dayIn_40 : decode prog_7_method_18_code 40 = .ok (.invokevirtual 128, 3) := by decide +kernel
theorem de_Ri_dayIn_43 : decode prog_7_method_18_code 43 = .ok (.istore 4, 2) := by decide +kernel
theorem de_Ri_dayIn_45 : decode prog_7_method_18_code 45 = .ok (.iinc 5 1, 3) := by decide +kernel
theorem de_Ri_dayIn_48 : decode prog_7_method_18_code 48 = .ok (.goto (-37), 3) := by decide +kernel
theorem de_Ri_dayIn_51 : decode prog_7_method_18_code 51 = .ok (.iload_n 3, 1) := by decide +kernel
theorem de_Ri_dayIn_52 : decode prog_7_method_18_code 52 = .ok (.ireturn, 1) := by decide +kernel
theorem de_Ri_hoursBehind_0 : decode prog_7_method_26_code 0 = .ok (.aload_n 0, 1) := by decide +kernel
theorem de_Ri_hoursBehind_1 : decode prog_7_method_26_code 1 = .ok (.getfield 52, 3) := by decide +kernel
theorem de_Ri_hoursBehind_4 : decode prog_7_method_26_code 4 = .ok (.bipush 24, 2) := by decide +kernel
theorem de_Ri_hoursBehind_6 : decode prog_7_method_26_code 6 = .ok (.imul, 1) := by decide +kernel
theorem de_Ri_hoursBehind_7 : decode prog_7_method_26_code 7 = .ok (.aload_n 0, 1) := by decide +kernel
theorem de_Ri_hoursBehind_8 : decode prog_7_method_26_code 8 = .ok (.getfield 49, 3) := by decide +kernel
theorem de_Ri_hoursBehind_11 : decode prog_7_method_26_code 11 = .ok (.iadd, 1) := by decide +kernel
theorem de_Ri_hoursBehind_12 : decode prog_7_method_26_code 12 = .ok (.iload_n 1, 1) := by decide +kernel
theorem de_Ri_hoursBehind_13 : decode prog_7_method_26_code 13 = .ok (.iadd, 1) := by decide +kernel
theorem de_Ri_hoursBehind_14 : decode prog_7_method_26_code 14 = .ok (.ireturn, 1) := by decide +kernel
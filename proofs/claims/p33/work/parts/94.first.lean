def tm_fv : List tm_F → List ab_V → Prop
  | [], [] => True
  | F :: fs, v :: vs => F v ∧ tm_fv fs vs
  | _, _ => False
theorem tm_fv0 : tm_fv [] [] := trivial
theorem tm_fvc {F : tm_F} {v : ab_V} {fs : List tm_F} {vs : List ab_V} (h : F v) (r : tm_fv fs vs) : tm_fv (F :: fs) (v :: vs) := ⟨h, r⟩
theorem tm_fv_ok : ∀ (fs : List tm_F) (vs : List ab_V), tm_fv fs vs → vs.length = fs.length ∧ ∀ (k : Nat) (F : tm_F), fs[k]? = some F → ∃ v, vs[k]? = some v ∧ F v
  | [], [], _ => ⟨rfl, fun k F h => by cases h⟩
  | F :: fs, v :: vs, h => by
    obtain ⟨h1, h2⟩ := tm_fv_ok fs vs h.2
    refine ⟨by rw [List.length_cons, List.length_cons, h1], fun k G hk => ?_⟩
    cases k with
    | zero => cases hk; exact ⟨v, rfl, h.1⟩
    | succ k => exact h2 k G hk
  | [], _ :: _, h => h.elim
  | _ :: _, [], h => h.elim
theorem tm_fvo {ci : Nat} {fs : List tm_F} {vs : List ab_V} (h : tm_fv fs vs) : tm_o ci fs (some (ab_ob ci vs)) := ⟨vs, rfl, (tm_fv_ok fs vs h).1, (tm_fv_ok fs vs h).2⟩
def tm_all : List tm_S → List ab_E → Prop
  | [], [] => True
  | S :: ss, e :: es => S (some e) ∧ tm_all ss es
  | _, _ => False
theorem tm_all0 : tm_all [] [] := trivial
theorem tm_allc {S : tm_S} {e : ab_E} {ss : List tm_S} {es : List ab_E} (h : S (some e)) (r : tm_all ss es) : tm_all (S :: ss) (e :: es) := ⟨h, r⟩
theorem tm_all_ok : ∀ (ss : List tm_S) (es : List ab_E), tm_all ss es → ss.length = es.length ∧ ∀ p : Nat, (ss.getD p (fun _ => True)) es[p]?
  | [], [], _ => ⟨rfl, fun p => trivial⟩
  | S :: ss, e :: es, h => by
    obtain ⟨h1, h2⟩ := tm_all_ok ss es h.2
    refine ⟨by rw [List.length_cons, List.length_cons, h1], fun p => ?_⟩
    cases p with
    | zero => exact h.1
    | succ p => exact h2 p
  | [], _ :: _, h => h.elim
  | _ :: _, [], h => h.elim
theorem ab_sh1 {i : Nat} (h : i < 1000) : (ab_shV 107 (ab_R i)) = ab_R (107 + i) := by
  show ab_R (if i < ab_sb then 107 + i else i) = _
  rw [if_pos (by unfold ab_sb; omega)]
def t0_L : List tm_S := [tm_o 10 [tm_r 1, tm_rr 3 16, tm_rr 3 16, tm_r 29, tm_r 30, tm_r 31, tm_i 0 6, tm_r 32, tm_r 36, tm_r 38, tm_r 40, tm_r 45, tm_r 51], tm_o 8 [tm_r 2, tm_i 0 400, tm_i 0 400, tm_s, tm_i (-2147483648) 2147483647, tm_i 0 400, tm_i (-2147483648) 2147483647, tm_i (-2147483648) 2147483647, tm_i (-2147483648) 2147483647], tm_ai 1 400 (-128) 127, tm_o 5 [tm_i 0 1, tm_i 0 11, tm_i 0 23, tm_i (-2147483648) 2147483647, tm_i 0 1, tm_i (-2147483648) 2147483647, tm_i (-2147483648) 2147483647, tm_i 0 7, tm_i (-2147483648) 2147483647, tm_i (-2147483648) 2147483647, tm_r 4, tm_r 5, tm_r 6, tm_r 7, tm_r 8, tm_r 9, tm_r 10, tm_r 11], tm_ai 0 7 0 11, tm_ai 0 7 0 11, tm_ai 0 7 (-2147483648) 2147483647, tm_ai 0 35 (-2147483648) 2147483647, tm_al 24, tm_ai 0 24 (-2147483648) 2147483647, tm_ai 0 12 (-2147483648) 2147483647, tm_o 1 [tm_i 0 10, tm_r 12, tm_r 13, tm_r 14, tm_r 15], tm_ai 0 10 0 6, tm_ai 0 10 0 99, tm_ai 0 10 0 4, tm_ai 0 10 (-2147483648) 2147483647, tm_o 5 [tm_i 0 1, tm_i 0 11, tm_i 0 23, tm_i (-2147483648) 2147483647, tm_i 0 1, tm_i (-2147483648) 2147483647, tm_i (-2147483648) 2147483647, tm_i 0 7, tm_i (-2147483648) 2147483647, tm_i (-2147483648) 2147483647, tm_r 17, tm_r 18, tm_r 19, tm_r 20, tm_r 21, tm_r 22, tm_r 23, tm_r 24], tm_ai 0 7 0 11, tm_ai 0 7 0 11, tm_ai 0 7 (-2147483648) 2147483647, tm_ai 0 35 (-2147483648) 2147483647, tm_al 24, tm_ai 0 24 (-2147483648) 2147483647, tm_ai 0 12 (-2147483648) 2147483647, tm_o 1 [tm_i 0 10, tm_r 25, tm_r 26, tm_r 27, tm_r 28], tm_ai 0 10 0 6, tm_ai 0 10 0 99, tm_ai 0 10 0 4, tm_ai 0 10 (-2147483648) 2147483647, tm_ar 4 4, tm_ai 2 4 0 1, tm_ar 5 6, tm_o 0 [tm_r 33, tm_r 34, tm_r 35, tm_i 0 20, tm_i 0 19], tm_ai 0 20 0 3, tm_ai 0 20 (-2147483648) 2147483647, tm_ai 0 20 (-2147483648) 2147483647, tm_o 7 [tm_r 37, tm_i 0 400, tm_i (-2147483648) 2147483647], tm_ai 0 400 (-2147483648) 2147483647, tm_o 3 [tm_r 39, tm_i 0 32], tm_al 32, tm_o 4 [tm_r 41, tm_r 42, tm_i (-2147483648) 2147483647, tm_r 43, tm_r 44], tm_ai 0 5 (-2147483648) 2147483647, tm_ai 0 5 (-2147483648) 2147483647, tm_ai 0 6 0 11, tm_ai 0 42 (-2147483648) 2147483647, tm_o 9 [tm_r 46, tm_r 47, tm_r 48, tm_r 49, tm_r 50], tm_ai 0 7 0 11, tm_ai 0 49 (-2147483648) 2147483647, tm_ai 0 7 (-2147483648) 2147483647, tm_ai 0 128 (-2147483648) 2147483647, tm_ai 0 128 (-2147483648) 2147483647, tm_o 2 [tm_r 52, tm_r 53, tm_i 0 84, tm_r 54, tm_i (-2147483648) 2147483647, tm_i (-2147483648) 2147483647], tm_ai 0 84 0 11, tm_ai 0 84 (-2147483648) 2147483647, tm_ai 0 35 (-2147483648) 2147483647, tm_o 5 [tm_i 0 1, tm_i 0 11, tm_i 0 23, tm_i (-2147483648) 2147483647, tm_i 0 1, tm_i (-2147483648) 2147483647, tm_i (-2147483648) 2147483647, tm_i 0 7, tm_i (-2147483648) 2147483647, tm_i (-2147483648) 2147483647, tm_r 56, tm_r 57, tm_r 58, tm_r 59, tm_r 60, tm_r 61, tm_r 62, tm_r 63], tm_ai 0 7 0 11, tm_ai 0 7 0 11, tm_ai 0 7 (-2147483648) 2147483647, tm_ai 0 35 (-2147483648) 2147483647, tm_al 24, tm_ai 0 24 (-2147483648) 2147483647, tm_ai 0 12 (-2147483648) 2147483647, tm_o 1 [tm_i 0 10, tm_r 64, tm_r 65, tm_r 66, tm_r 67], tm_ai 0 10 0 6, tm_ai 0 10 0 99, tm_ai 0 10 0 4, tm_ai 0 10 (-2147483648) 2147483647, tm_o 5 [tm_i 0 1, tm_i 0 11, tm_i 0 23, tm_i (-2147483648) 2147483647, tm_i 0 1, tm_i (-2147483648) 2147483647, tm_i (-2147483648) 2147483647, tm_i 0 7, tm_i (-2147483648) 2147483647, tm_i (-2147483648) 2147483647, tm_r 69, tm_r 70, tm_r 71, tm_r 72, tm_r 73, tm_r 74, tm_r 75, tm_r 76], tm_ai 0 7 0 11, tm_ai 0 7 0 11, tm_ai 0 7 (-2147483648) 2147483647, tm_ai 0 35 (-2147483648) 2147483647, tm_al 24, tm_ai 0 24 (-2147483648) 2147483647, tm_ai 0 12 (-2147483648) 2147483647, tm_o 1 [tm_i 0 10, tm_r 77, tm_r 78, tm_r 79, tm_r 80], tm_ai 0 10 0 6, tm_ai 0 10 0 99, tm_ai 0 10 0 4, tm_ai 0 10 (-2147483648) 2147483647, tm_o 5 [tm_i 0 1, tm_i 0 11, tm_i 0 23, tm_i (-2147483648) 2147483647, tm_i 0 1, tm_i (-2147483648) 2147483647, tm_i (-2147483648) 2147483647, tm_i 0 7, tm_i (-2147483648) 2147483647, tm_i (-2147483648) 2147483647, tm_r 82, tm_r 83, tm_r 84, tm_r 85, tm_r 86, tm_r 87, tm_r 88, tm_r 89], tm_ai 0 7 0 11, tm_ai 0 7 0 11, tm_ai 0 7 (-2147483648) 2147483647, tm_ai 0 35 (-2147483648) 2147483647, tm_al 24, tm_ai 0 24 (-2147483648) 2147483647, tm_ai 0 12 (-2147483648) 2147483647, tm_o 1 [tm_i 0 10, tm_r 90, tm_r 91, tm_r 92, tm_r 93], tm_ai 0 10 0 6, tm_ai 0 10 0 99, tm_ai 0 10 0 4, tm_ai 0 10 (-2147483648) 2147483647, tm_o 5 [tm_i 0 1, tm_i 0 11, tm_i 0 23, tm_i (-2147483648) 2147483647, tm_i 0 1, tm_i (-2147483648) 2147483647, tm_i (-2147483648) 2147483647, tm_i 0 7, tm_i (-2147483648) 2147483647, tm_i (-2147483648) 2147483647, tm_r 95, tm_r 96, tm_r 97, tm_r 98, tm_r 99, tm_r 100, tm_r 101, tm_r 102], tm_ai 0 7 0 11, tm_ai 0 7 0 11, tm_ai 0 7 (-2147483648) 2147483647, tm_ai 0 35 (-2147483648) 2147483647, tm_al 24, tm_ai 0 24 (-2147483648) 2147483647, tm_ai 0 12 (-2147483648) 2147483647, tm_o 1 [tm_i 0 10, tm_r 103, tm_r 104, tm_r 105, tm_r 106], tm_ai 0 10 0 6, tm_ai 0 10 0 99, tm_ai 0 10 0 4, tm_ai 0 10 (-2147483648) 2147483647, (fun c => c = some (ab_shE 107 (ab_ob 11 [ab_R 1, ab_I 0, ab_I 0, ab_R 2, ab_R 3, ab_R 4, ab_R 5, ab_R 6, ab_I 0, ab_I 0, ab_I 0, ab_I 0, ab_I 0, ab_I 0, ab_I 0, ab_R 7, ab_I 0, ab_R 8, ab_I 0, ab_R 9, ab_R 10, ab_I 0, ab_R 11, ab_I 0, ab_R 12, ab_R 13, ab_R 14, ab_R 15, ab_R 16, ab_R 17, ab_R 18, ab_I 0, ab_I 0, ab_J 0, ab_R 19, ab_R 20, ab_R 21]))), (fun c => c = some (ab_shE 107 (ab_ai 1 400 (fun _ => 0)))), (fun c => c = some (ab_shE 107 (ab_ai 0 2400 (fun _ => 0)))), (fun c => c = some (ab_shE 107 (ab_ai 0 7 (fun _ => 0)))), (fun c => c = some (ab_shE 107 (ab_ai 0 288 (fun _ => 0)))), (fun c => c = some (ab_shE 107 (ab_ai 0 6 (fun _ => 0)))), (fun c => c = some (ab_shE 107 (ab_ai 0 150 (fun _ => 0)))), (fun c => c = some (ab_shE 107 (ab_ai 0 400 (fun _ => 0)))), (fun c => c = some (ab_shE 107 (ab_al 64 (fun _ => 0)))), (fun c => c = some (ab_shE 107 (ab_al 12 (fun _ => 0)))), (fun c => c = some (ab_shE 107 (ab_ai 0 191 (fun _ => 0)))), (fun c => c = some (ab_shE 107 (ab_ai 0 1060 (fun _ => 0)))), (fun c => c = some (ab_shE 107 (ab_ai 0 53 (fun _ => 0)))), (fun c => c = some (ab_shE 107 (ab_ai 0 7 (fun _ => 0)))), (fun c => c = some (ab_shE 107 (ab_ai 0 97 (fun _ => 0)))), (fun c => c = some (ab_shE 107 (ab_ai 0 7 (fun _ => 0)))), (fun c => c = some (ab_shE 107 (ab_ai 0 49 (fun _ => 0)))), (fun c => c = some (ab_shE 107 (ab_ai 0 7 (fun _ => 0)))), (fun c => c = some (ab_shE 107 (ab_ai 0 7 (fun _ => 0)))), (fun c => c = some (ab_shE 107 (ab_ai 0 764 (fun _ => 0)))), (fun c => c = some (ab_shE 107 (ab_ai 0 4 (fun _ => 0)))), (fun c => c = some (ab_shE 107 (ab_ai 2 4 (fun _ => 0))))]
def t0_T : Nat → tm_S := fun p => t0_L.getD p (fun _ => True)
theorem t0_ob : ab_shE 107 (ab_ob 11 [ab_R 1, ab_I 0, ab_I 0, ab_R 2, ab_R 3, ab_R 4, ab_R 5, ab_R 6, ab_I 0, ab_I 0, ab_I 0, ab_I 0, ab_I 0, ab_I 0, ab_I 0, ab_R 7, ab_I 0, ab_R 8, ab_I 0, ab_R 9, ab_R 10, ab_I 0, ab_R 11, ab_I 0, ab_R 12, ab_R 13, ab_R 14, ab_R 15, ab_R 16, ab_R 17, ab_R 18, ab_I 0, ab_I 0, ab_J 0, ab_R 19, ab_R 20, ab_R 21]) = ab_ob 11 [ab_R 108, ab_I 0, ab_I 0, ab_R 109, ab_R 110, ab_R 111, ab_R 112, ab_R 113, ab_I 0, ab_I 0, ab_I 0, ab_I 0, ab_I 0, ab_I 0, ab_I 0, ab_R 114, ab_I 0, ab_R 115, ab_I 0, ab_R 116, ab_R 117, ab_I 0, ab_R 118, ab_I 0, ab_R 119, ab_R 120, ab_R 121, ab_R 122, ab_R 123, ab_R 124, ab_R 125, ab_I 0, ab_I 0, ab_J 0, ab_R 126, ab_R 127, ab_R 128] := by
  show ab_ob 11 (List.map (ab_shV 107) [ab_R 1, ab_I 0, ab_I 0, ab_R 2, ab_R 3, ab_R 4, ab_R 5, ab_R 6, ab_I 0, ab_I 0, ab_I 0, ab_I 0, ab_I 0, ab_I 0, ab_I 0, ab_R 7, ab_I 0, ab_R 8, ab_I 0, ab_R 9, ab_R 10, ab_I 0, ab_R 11, ab_I 0, ab_R 12, ab_R 13, ab_R 14, ab_R 15, ab_R 16, ab_R 17, ab_R 18, ab_I 0, ab_I 0, ab_J 0, ab_R 19, ab_R 20, ab_R 21]) = _
  simp only [List.map_cons, List.map_nil, ab_sh1 (i := 1) (by decide), ab_sh1 (i := 2) (by decide), ab_sh1 (i := 3) (by decide), ab_sh1 (i := 4) (by decide), ab_sh1 (i := 5) (by decide), ab_sh1 (i := 6) (by decide), ab_sh1 (i := 7) (by decide), ab_sh1 (i := 8) (by decide), ab_sh1 (i := 9) (by decide), ab_sh1 (i := 10) (by decide), ab_sh1 (i := 11) (by decide), ab_sh1 (i := 12) (by decide), ab_sh1 (i := 13) (by decide), ab_sh1 (i := 14) (by decide), ab_sh1 (i := 15) (by decide), ab_sh1 (i := 16) (by decide), ab_sh1 (i := 17) (by decide), ab_sh1 (i := 18) (by decide), ab_sh1 (i := 19) (by decide), ab_sh1 (i := 20) (by decide), ab_sh1 (i := 21) (by decide)]
  rfl
set_option maxRecDepth 20000 in
theorem t0_W : tm_all t0_L fw_42 := by
  unfold t0_L fw_42
  refine tm_allc (tm_fvo (tm_fvc rfl (tm_fvc (Or.inl rfl) (tm_fvc (Or.inr rfl) (tm_fvc rfl (tm_fvc rfl (tm_fvc rfl (tm_fvc ⟨0, rfl, by decide, by decide⟩ (tm_fvc rfl (tm_fvc rfl (tm_fvc rfl (tm_fvc rfl (tm_fvc rfl (tm_fvc rfl tm_fv0)))))))))))))) ?_
  refine tm_allc (tm_fvo (tm_fvc rfl (tm_fvc ⟨0, rfl, by decide, by decide⟩ (tm_fvc ⟨0, rfl, by decide, by decide⟩ (tm_fvc ⟨0, rfl, by decide⟩ (tm_fvc ⟨0, rfl, by decide, by decide⟩ (tm_fvc ⟨0, rfl, by decide, by decide⟩ (tm_fvc ⟨0, rfl, by decide, by decide⟩ (tm_fvc ⟨0, rfl, by decide, by decide⟩ (tm_fvc ⟨0, rfl, by decide, by decide⟩ tm_fv0)))))))))) ?_
  refine tm_allc ⟨_, rfl, fun _ => ⟨by decide, by decide⟩⟩ ?_
  refine tm_allc (tm_fvo (tm_fvc ⟨0, rfl, by decide, by decide⟩ (tm_fvc ⟨0, rfl, by decide, by decide⟩ (tm_fvc ⟨0, rfl, by decide, by decide⟩ (tm_fvc ⟨0, rfl, by decide, by decide⟩ (tm_fvc ⟨0, rfl, by decide, by decide⟩ (tm_fvc ⟨0, rfl, by decide, by decide⟩ (tm_fvc ⟨0, rfl, by decide, by decide⟩ (tm_fvc ⟨0, rfl, by decide, by decide⟩ (tm_fvc ⟨0, rfl, by decide, by decide⟩ (tm_fvc ⟨0, rfl, by decide, by decide⟩ (tm_fvc rfl (tm_fvc rfl (tm_fvc rfl (tm_fvc rfl (tm_fvc rfl (tm_fvc rfl (tm_fvc rfl (tm_fvc rfl tm_fv0))))))))))))))))))) ?_
  refine tm_allc ⟨_, rfl, fun _ => ⟨by decide, by decide⟩⟩ ?_
  refine tm_allc ⟨_, rfl, fun _ => ⟨by decide, by decide⟩⟩ ?_
  refine tm_allc ⟨_, rfl, fun _ => ⟨by decide, by decide⟩⟩ ?_
  refine tm_allc ⟨_, rfl, fun _ => ⟨by decide, by decide⟩⟩ ?_
  refine tm_allc ⟨_, rfl⟩ ?_
  refine tm_allc ⟨_, rfl, fun _ => ⟨by decide, by decide⟩⟩ ?_
  refine tm_allc ⟨_, rfl, fun _ => ⟨by decide, by decide⟩⟩ ?_
  refine tm_allc (tm_fvo (tm_fvc ⟨0, rfl, by decide, by decide⟩ (tm_fvc rfl (tm_fvc rfl (tm_fvc rfl (tm_fvc rfl tm_fv0)))))) ?_
  refine tm_allc ⟨_, rfl, fun _ => ⟨by decide, by decide⟩⟩ ?_
  refine tm_allc ⟨_, rfl, fun _ => ⟨by decide, by decide⟩⟩ ?_
  refine tm_allc ⟨_, rfl, fun _ => ⟨by decide, by decide⟩⟩ ?_
  refine tm_allc ⟨_, rfl, fun _ => ⟨by decide, by decide⟩⟩ ?_
  refine tm_allc (tm_fvo (tm_fvc ⟨0, rfl, by decide, by decide⟩ (tm_fvc ⟨0, rfl, by decide, by decide⟩ (tm_fvc ⟨0, rfl, by decide, by decide⟩ (tm_fvc ⟨0, rfl, by decide, by decide⟩ (tm_fvc ⟨0, rfl, by decide, by decide⟩ (tm_fvc ⟨0, rfl, by decide, by decide⟩ (tm_fvc ⟨0, rfl, by decide, by decide⟩ (tm_fvc ⟨0, rfl, by decide, by decide⟩ (tm_fvc ⟨0, rfl, by decide, by decide⟩ (tm_fvc ⟨0, rfl, by decide, by decide⟩ (tm_fvc rfl (tm_fvc rfl (tm_fvc rfl (tm_fvc rfl (tm_fvc rfl (tm_fvc rfl (tm_fvc rfl (tm_fvc rfl tm_fv0))))))))))))))))))) ?_
  refine tm_allc ⟨_, rfl, fun _ => ⟨by decide, by decide⟩⟩ ?_
  refine tm_allc ⟨_, rfl, fun _ => ⟨by decide, by decide⟩⟩ ?_
  refine tm_allc ⟨_, rfl, fun _ => ⟨by decide, by decide⟩⟩ ?_
  refine tm_allc ⟨_, rfl, fun _ => ⟨by decide, by decide⟩⟩ ?_
  refine tm_allc ⟨_, rfl⟩ ?_
  refine tm_allc ⟨_, rfl, fun _ => ⟨by decide, by decide⟩⟩ ?_
  refine tm_allc ⟨_, rfl, fun _ => ⟨by decide, by decide⟩⟩ ?_
  refine tm_allc (tm_fvo (tm_fvc ⟨0, rfl, by decide, by decide⟩ (tm_fvc rfl (tm_fvc rfl (tm_fvc rfl (tm_fvc rfl tm_fv0)))))) ?_
  refine tm_allc ⟨_, rfl, fun _ => ⟨by decide, by decide⟩⟩ ?_
  refine tm_allc ⟨_, rfl, fun _ => ⟨by decide, by decide⟩⟩ ?_
  refine tm_allc ⟨_, rfl, fun _ => ⟨by decide, by decide⟩⟩ ?_
  refine tm_allc ⟨_, rfl, fun _ => ⟨by decide, by decide⟩⟩ ?_
  refine tm_allc ⟨_, rfl⟩ ?_
  refine tm_allc ⟨_, rfl, fun _ => ⟨by decide, by decide⟩⟩ ?_
  refine tm_allc ⟨_, rfl⟩ ?_
  refine tm_allc (tm_fvo (tm_fvc rfl (tm_fvc rfl (tm_fvc rfl (tm_fvc ⟨0, rfl, by decide, by decide⟩ (tm_fvc ⟨0, rfl, by decide, by decide⟩ tm_fv0)))))) ?_
  refine tm_allc ⟨_, rfl, fun _ => ⟨by decide, by decide⟩⟩ ?_
  refine tm_allc ⟨_, rfl, fun _ => ⟨by decide, by decide⟩⟩ ?_
  refine tm_allc ⟨_, rfl, fun _ => ⟨by decide, by decide⟩⟩ ?_
  refine tm_allc (tm_fvo (tm_fvc rfl (tm_fvc ⟨0, rfl, by decide, by decide⟩ (tm_fvc ⟨0, rfl, by decide, by decide⟩ tm_fv0)))) ?_
  refine tm_allc ⟨_, rfl, fun _ => ⟨by decide, by decide⟩⟩ ?_
  refine tm_allc (tm_fvo (tm_fvc rfl (tm_fvc ⟨0, rfl, by decide, by decide⟩ tm_fv0))) ?_
  refine tm_allc ⟨_, rfl⟩ ?_
  refine tm_allc (tm_fvo (tm_fvc rfl (tm_fvc rfl (tm_fvc ⟨0, rfl, by decide, by decide⟩ (tm_fvc rfl (tm_fvc rfl tm_fv0)))))) ?_
  refine tm_allc ⟨_, rfl, fun _ => ⟨by decide, by decide⟩⟩ ?_
  refine tm_allc ⟨_, rfl, fun _ => ⟨by decide, by decide⟩⟩ ?_
  refine tm_allc ⟨_, rfl, fun _ => ⟨by decide, by decide⟩⟩ ?_
  refine tm_allc ⟨_, rfl, fun _ => ⟨by decide, by decide⟩⟩ ?_
  refine tm_allc (tm_fvo (tm_fvc rfl (tm_fvc rfl (tm_fvc rfl (tm_fvc rfl (tm_fvc rfl tm_fv0)))))) ?_
  refine tm_allc ⟨_, rfl, fun _ => ⟨by decide, by decide⟩⟩ ?_
  refine tm_allc ⟨_, rfl, fun _ => ⟨by decide, by decide⟩⟩ ?_
  refine tm_allc ⟨_, rfl, fun _ => ⟨by decide, by decide⟩⟩ ?_
  refine tm_allc ⟨_, rfl, fun _ => ⟨by decide, by decide⟩⟩ ?_
  refine tm_allc ⟨_, rfl, fun _ => ⟨by decide, by decide⟩⟩ ?_
  refine tm_allc (tm_fvo (tm_fvc rfl (tm_fvc rfl (tm_fvc ⟨0, rfl, by decide, by decide⟩ (tm_fvc rfl (tm_fvc ⟨0, rfl, by decide, by decide⟩ (tm_fvc ⟨0, rfl, by decide, by decide⟩ tm_fv0))))))) ?_
  refine tm_allc ⟨_, rfl, fun _ => ⟨by decide, by decide⟩⟩ ?_
  refine tm_allc ⟨_, rfl, fun _ => ⟨by decide, by decide⟩⟩ ?_
  refine tm_allc ⟨_, rfl, fun _ => ⟨by decide, by decide⟩⟩ ?_
  refine tm_allc (tm_fvo (tm_fvc ⟨0, rfl, by decide, by decide⟩ (tm_fvc ⟨0, rfl, by decide, by decide⟩ (tm_fvc ⟨0, rfl, by decide, by decide⟩ (tm_fvc ⟨0, rfl, by decide, by decide⟩ (tm_fvc ⟨0, rfl, by decide, by decide⟩ (tm_fvc ⟨0, rfl, by decide, by decide⟩ (tm_fvc ⟨0, rfl, by decide, by decide⟩ (tm_fvc ⟨0, rfl, by decide, by decide⟩ (tm_fvc ⟨0, rfl, by decide, by decide⟩ (tm_fvc ⟨0, rfl, by decide, by decide⟩ (tm_fvc rfl (tm_fvc rfl (tm_fvc rfl (tm_fvc rfl (tm_fvc rfl (tm_fvc rfl (tm_fvc rfl (tm_fvc rfl tm_fv0))))))))))))))))))) ?_
  refine tm_allc ⟨_, rfl, fun _ => ⟨by decide, by decide⟩⟩ ?_
  refine tm_allc ⟨_, rfl, fun _ => ⟨by decide, by decide⟩⟩ ?_
  refine tm_allc ⟨_, rfl, fun _ => ⟨by decide, by decide⟩⟩ ?_
  refine tm_allc ⟨_, rfl, fun _ => ⟨by decide, by decide⟩⟩ ?_
  refine tm_allc ⟨_, rfl⟩ ?_
  refine tm_allc ⟨_, rfl, fun _ => ⟨by decide, by decide⟩⟩ ?_
  refine tm_allc ⟨_, rfl, fun _ => ⟨by decide, by decide⟩⟩ ?_
  refine tm_allc (tm_fvo (tm_fvc ⟨0, rfl, by decide, by decide⟩ (tm_fvc rfl (tm_fvc rfl (tm_fvc rfl (tm_fvc rfl tm_fv0)))))) ?_
  refine tm_allc ⟨_, rfl, fun _ => ⟨by decide, by decide⟩⟩ ?_
  refine tm_allc ⟨_, rfl, fun _ => ⟨by decide, by decide⟩⟩ ?_
  refine tm_allc ⟨_, rfl, fun _ => ⟨by decide, by decide⟩⟩ ?_
  refine tm_allc ⟨_, rfl, fun _ => ⟨by decide, by decide⟩⟩ ?_
  refine tm_allc (tm_fvo (tm_fvc ⟨0, rfl, by decide, by decide⟩ (tm_fvc ⟨0, rfl, by decide, by decide⟩ (tm_fvc ⟨0, rfl, by decide, by decide⟩ (tm_fvc ⟨0, rfl, by decide, by decide⟩ (tm_fvc ⟨0, rfl, by decide, by decide⟩ (tm_fvc ⟨0, rfl, by decide, by decide⟩ (tm_fvc ⟨0, rfl, by decide, by decide⟩ (tm_fvc ⟨0, rfl, by decide, by decide⟩ (tm_fvc ⟨0, rfl, by decide, by decide⟩ (tm_fvc ⟨0, rfl, by decide, by decide⟩ (tm_fvc rfl (tm_fvc rfl (tm_fvc rfl (tm_fvc rfl (tm_fvc rfl (tm_fvc rfl (tm_fvc rfl (tm_fvc rfl tm_fv0))))))))))))))))))) ?_
  refine tm_allc ⟨_, rfl, fun _ => ⟨by decide, by decide⟩⟩ ?_
  refine tm_allc ⟨_, rfl, fun _ => ⟨by decide, by decide⟩⟩ ?_
  refine tm_allc ⟨_, rfl, fun _ => ⟨by decide, by decide⟩⟩ ?_
  refine tm_allc ⟨_, rfl, fun _ => ⟨by decide, by decide⟩⟩ ?_
  refine tm_allc ⟨_, rfl⟩ ?_
  refine tm_allc ⟨_, rfl, fun _ => ⟨by decide, by decide⟩⟩ ?_
  refine tm_allc ⟨_, rfl, fun _ => ⟨by decide, by decide⟩⟩ ?_
  refine tm_allc (tm_fvo (tm_fvc ⟨0, rfl, by decide, by decide⟩ (tm_fvc rfl (tm_fvc rfl (tm_fvc rfl (tm_fvc rfl tm_fv0)))))) ?_
  refine tm_allc ⟨_, rfl, fun _ => ⟨by decide, by decide⟩⟩ ?_
  refine tm_allc ⟨_, rfl, fun _ => ⟨by decide, by decide⟩⟩ ?_
  refine tm_allc ⟨_, rfl, fun _ => ⟨by decide, by decide⟩⟩ ?_
  refine tm_allc ⟨_, rfl, fun _ => ⟨by decide, by decide⟩⟩ ?_
  refine tm_allc (tm_fvo (tm_fvc ⟨0, rfl, by decide, by decide⟩ (tm_fvc ⟨0, rfl, by decide, by decide⟩ (tm_fvc ⟨0, rfl, by decide, by decide⟩ (tm_fvc ⟨0, rfl, by decide, by decide⟩ (tm_fvc ⟨0, rfl, by decide, by decide⟩ (tm_fvc ⟨0, rfl, by decide, by decide⟩ (tm_fvc ⟨0, rfl, by decide, by decide⟩ (tm_fvc ⟨0, rfl, by decide, by decide⟩ (tm_fvc ⟨0, rfl, by decide, by decide⟩ (tm_fvc ⟨0, rfl, by decide, by decide⟩ (tm_fvc rfl (tm_fvc rfl (tm_fvc rfl (tm_fvc rfl (tm_fvc rfl (tm_fvc rfl (tm_fvc rfl (tm_fvc rfl tm_fv0))))))))))))))))))) ?_
  refine tm_allc ⟨_, rfl, fun _ => ⟨by decide, by decide⟩⟩ ?_
  refine tm_allc ⟨_, rfl, fun _ => ⟨by decide, by decide⟩⟩ ?_
  refine tm_allc ⟨_, rfl, fun _ => ⟨by decide, by decide⟩⟩ ?_
  refine tm_allc ⟨_, rfl, fun _ => ⟨by decide, by decide⟩⟩ ?_
  refine tm_allc ⟨_, rfl⟩ ?_
  refine tm_allc ⟨_, rfl, fun _ => ⟨by decide, by decide⟩⟩ ?_
  refine tm_allc ⟨_, rfl, fun _ => ⟨by decide, by decide⟩⟩ ?_
  refine tm_allc (tm_fvo (tm_fvc ⟨0, rfl, by decide, by decide⟩ (tm_fvc rfl (tm_fvc rfl (tm_fvc rfl (tm_fvc rfl tm_fv0)))))) ?_
  refine tm_allc ⟨_, rfl, fun _ => ⟨by decide, by decide⟩⟩ ?_
  refine tm_allc ⟨_, rfl, fun _ => ⟨by decide, by decide⟩⟩ ?_
  refine tm_allc ⟨_, rfl, fun _ => ⟨by decide, by decide⟩⟩ ?_
  refine tm_allc ⟨_, rfl, fun _ => ⟨by decide, by decide⟩⟩ ?_
  refine tm_allc (tm_fvo (tm_fvc ⟨0, rfl, by decide, by decide⟩ (tm_fvc ⟨0, rfl, by decide, by decide⟩ (tm_fvc ⟨0, rfl, by decide, by decide⟩ (tm_fvc ⟨0, rfl, by decide, by decide⟩ (tm_fvc ⟨0, rfl, by decide, by decide⟩ (tm_fvc ⟨0, rfl, by decide, by decide⟩ (tm_fvc ⟨0, rfl, by decide, by decide⟩ (tm_fvc ⟨0, rfl, by decide, by decide⟩ (tm_fvc ⟨0, rfl, by decide, by decide⟩ (tm_fvc ⟨0, rfl, by decide, by decide⟩ (tm_fvc rfl (tm_fvc rfl (tm_fvc rfl (tm_fvc rfl (tm_fvc rfl (tm_fvc rfl (tm_fvc rfl (tm_fvc rfl tm_fv0))))))))))))))))))) ?_
  refine tm_allc ⟨_, rfl, fun _ => ⟨by decide, by decide⟩⟩ ?_
  refine tm_allc ⟨_, rfl, fun _ => ⟨by decide, by decide⟩⟩ ?_
  refine tm_allc ⟨_, rfl, fun _ => ⟨by decide, by decide⟩⟩ ?_
  refine tm_allc ⟨_, rfl, fun _ => ⟨by decide, by decide⟩⟩ ?_
  refine tm_allc ⟨_, rfl⟩ ?_
  refine tm_allc ⟨_, rfl, fun _ => ⟨by decide, by decide⟩⟩ ?_
  refine tm_allc ⟨_, rfl, fun _ => ⟨by decide, by decide⟩⟩ ?_
  refine tm_allc (tm_fvo (tm_fvc ⟨0, rfl, by decide, by decide⟩ (tm_fvc rfl (tm_fvc rfl (tm_fvc rfl (tm_fvc rfl tm_fv0)))))) ?_
  refine tm_allc ⟨_, rfl, fun _ => ⟨by decide, by decide⟩⟩ ?_
  refine tm_allc ⟨_, rfl, fun _ => ⟨by decide, by decide⟩⟩ ?_
  refine tm_allc ⟨_, rfl, fun _ => ⟨by decide, by decide⟩⟩ ?_
  refine tm_allc ⟨_, rfl, fun _ => ⟨by decide, by decide⟩⟩ ?_
  refine tm_allc (congrArg some t0_ob.symm) ?_
  refine tm_allc rfl ?_
  refine tm_allc rfl ?_
  refine tm_allc rfl ?_
  refine tm_allc rfl ?_
  refine tm_allc rfl ?_
  refine tm_allc rfl ?_
  refine tm_allc rfl ?_
  refine tm_allc rfl ?_
  refine tm_allc rfl ?_
  refine tm_allc rfl ?_
  refine tm_allc rfl ?_
  refine tm_allc rfl ?_
  refine tm_allc rfl ?_
  refine tm_allc rfl ?_
  refine tm_allc rfl ?_
  refine tm_allc rfl ?_
  refine tm_allc rfl ?_
  refine tm_allc rfl ?_
  refine tm_allc rfl ?_
  refine tm_allc rfl ?_
  refine tm_allc rfl ?_
  exact tm_all0
set_option maxRecDepth 20000 in
theorem t0_okW : ab_okW fw_42 := ab_okW_r (by decide +kernel) rfl (ab_all2 (ab_okru (by decide) (ab_okru (by decide) (ab_okru (by decide) (ab_okru (by decide) ab_okr0)))) ab_okr0)
set_option maxRecDepth 20000 in
theorem t0_Ta_1 : is_Ta t0_T 1 := ⟨rfl, rfl⟩
set_option maxRecDepth 20000 in
theorem t0_Ri_3 : is_Ri t0_T 3 := ⟨rfl, rfl, rfl, rfl, rfl, rfl, rfl, rfl, rfl, rfl, rfl, rfl, rfl⟩
set_option maxRecDepth 20000 in
theorem t0_Ri_16 : is_Ri t0_T 16 := ⟨rfl, rfl, rfl, rfl, rfl, rfl, rfl, rfl, rfl, rfl, rfl, rfl, rfl⟩
set_option maxRecDepth 20000 in
theorem t0_Ac_32 : is_Ac t0_T 32 := ⟨rfl, rfl, rfl, rfl⟩
set_option maxRecDepth 20000 in
theorem t0_Ru_36 : is_Ru t0_T 36 := ⟨rfl, rfl⟩
set_option maxRecDepth 20000 in
theorem t0_Ma_38 : is_Ma t0_T 38 := ⟨rfl, rfl⟩
set_option maxRecDepth 20000 in
theorem t0_Pl_40 : is_Pl t0_T 40 := ⟨rfl, rfl, rfl, rfl, rfl⟩
set_option maxRecDepth 20000 in
theorem t0_Tr_45 : is_Tr t0_T 45 := ⟨rfl, rfl, rfl, rfl, rfl, rfl⟩
set_option maxRecDepth 20000 in
theorem t0_Gu_51 : is_Gu t0_T 51 := ⟨rfl, rfl, rfl, rfl⟩
set_option maxRecDepth 20000 in
theorem t0_Ri_55 : is_Ri t0_T 55 := ⟨rfl, rfl, rfl, rfl, rfl, rfl, rfl, rfl, rfl, rfl, rfl, rfl, rfl⟩
set_option maxRecDepth 20000 in
theorem t0_Ri_68 : is_Ri t0_T 68 := ⟨rfl, rfl, rfl, rfl, rfl, rfl, rfl, rfl, rfl, rfl, rfl, rfl, rfl⟩
set_option maxRecDepth 20000 in
theorem t0_Ri_81 : is_Ri t0_T 81 := ⟨rfl, rfl, rfl, rfl, rfl, rfl, rfl, rfl, rfl, rfl, rfl, rfl, rfl⟩
set_option maxRecDepth 20000 in
theorem t0_Ri_94 : is_Ri t0_T 94 := ⟨rfl, rfl, rfl, rfl, rfl, rfl, rfl, rfl, rfl, rfl, rfl, rfl, rfl⟩
set_option maxRecDepth 20000 in
theorem t0_C : is_C t0_T 3 16 := ⟨rfl, rfl, rfl, rfl, t0_Ta_1, t0_Ac_32, t0_Ru_36, t0_Ma_38, t0_Pl_40, t0_Tr_45, t0_Gu_51, t0_Ri_3, t0_Ri_16, by decide, Or.inl ⟨rfl, rfl⟩⟩
set_option maxRecDepth 20000 in
theorem t0_seg : ∀ (i : Nat) (e : ab_E), mo_0[i]? = some e → t0_T (107 + i) = fun c => c = some (ab_shE 107 e) := by
  intro i e hi
  have hl : i < 22 := tm_lt hi
  rcases (by omega : i = 0 ∨ i = 1 ∨ i = 2 ∨ i = 3 ∨ i = 4 ∨ i = 5 ∨ i = 6 ∨ i = 7 ∨ i = 8 ∨ i = 9 ∨ i = 10 ∨ i = 11 ∨ i = 12 ∨ i = 13 ∨ i = 14 ∨ i = 15 ∨ i = 16 ∨ i = 17 ∨ i = 18 ∨ i = 19 ∨ i = 20 ∨ i = 21) with rfl | rfl | rfl | rfl | rfl | rfl | rfl | rfl | rfl | rfl | rfl | rfl | rfl | rfl | rfl | rfl | rfl | rfl | rfl | rfl | rfl | rfl
  · cases hi; rfl
  · cases hi; rfl
  · cases hi; rfl
  · cases hi; rfl
  · cases hi; rfl
  · cases hi; rfl
  · cases hi; rfl
  · cases hi; rfl
  · cases hi; rfl
  · cases hi; rfl
  · cases hi; rfl
  · cases hi; rfl
  · cases hi; rfl
  · cases hi; rfl
  · cases hi; rfl
  · cases hi; rfl
  · cases hi; rfl
  · cases hi; rfl
  · cases hi; rfl
  · cases hi; rfl
  · cases hi; rfl
  · cases hi; rfl
set_option maxRecDepth 20000 in
def t0_S : fs_S := ⟨0, fun _ => 0, fun _ => 0, fun _ => 0, 0, 0, fun _ => 0, fun _ => 0, 0, fun _ => 0, fun _ => []⟩
theorem t0_ri {o : Nat} {w : ab_W} (q0 : w[o]? = some (ab_ob 5 [ab_I 0, ab_I 0, ab_I 0, ab_I 0, ab_I 0, ab_I 0, ab_I 0, ab_I 0, ab_I 0, ab_I 0, ab_R (o + 1), ab_R (o + 2), ab_R (o + 3), ab_R (o + 4), ab_R (o + 5), ab_R (o + 6), ab_R (o + 7), ab_R (o + 8)])) (q1 : w[o + 1]? = some (ab_ai 0 7 (fun _ => 0))) (q2 : w[o + 2]? = some (ab_ai 0 7 (fun _ => 0))) (q3 : w[o + 3]? = some (ab_ai 0 7 (fun _ => 0))) (q4 : w[o + 4]? = some (ab_ai 0 35 (fun _ => 0))) (q5 : w[o + 5]? = some (ab_al 24 (fun _ => 0))) (q6 : w[o + 6]? = some (ab_ai 0 24 (fun _ => 0))) (q7 : w[o + 7]? = some (ab_ai 0 12 (fun _ => 0))) (q8 : w[o + 8]? = some (ab_ob 1 [ab_I 0, ab_R (o + 9), ab_R (o + 10), ab_R (o + 11), ab_R (o + 12)])) (q9 : w[o + 9]? = some (ab_ai 0 10 (fun _ => 0))) (q10 : w[o + 10]? = some (ab_ai 0 10 (fun _ => 0))) (q11 : w[o + 11]? = some (ab_ai 0 10 (fun _ => 0))) (q12 : w[o + 12]? = some (ab_ai 0 10 (fun _ => 0))) : ri_at_j o (fun _ => 0) 0 w :=
  ⟨fun _ => 0, fun _ => 0, fun _ => 0, fun _ => 0, fun _ => 0, fun _ => 0, fun _ => 0, fun _ => 0, fun _ => 0, fun _ => 0, fun _ => 0, q0, q1, q2, q3, q4, q5, q6, q7, q8, q9, q10, q11, q12, fun k (h0 : 0 ≤ k) (h1 : k < 0) => by omega, fun k (h0 : 0 ≤ k) (h1 : k < 0) => by omega, fun k (h0 : 0 ≤ k) (h1 : k < 5 * 0) => by omega, fun k (h0 : 0 ≤ k) (h1 : k < 5 * 0) => by omega, fun k _ _ => rfl, fun k _ _ => rfl, fun d h a b _ _ => cs_s1_0 a b, fun k (h0 : 0 ≤ k) (h1 : k < 0) => by omega, fun k (h0 : 0 ≤ k) (h1 : k < 0) => by omega⟩
set_option maxRecDepth 20000 in
theorem t0_r3 : ri_at_j 3 (fun _ => 0) 0 fw_42 := t0_ri rfl rfl rfl rfl rfl rfl rfl rfl rfl rfl rfl rfl rfl
set_option maxRecDepth 20000 in
theorem t0_r55 : ri_at_j 55 (fun _ => 0) 0 fw_42 := t0_ri rfl rfl rfl rfl rfl rfl rfl rfl rfl rfl rfl rfl rfl
set_option maxRecDepth 20000 in
theorem t0_r68 : ri_at_j 68 (fun _ => 0) 0 fw_42 := t0_ri rfl rfl rfl rfl rfl rfl rfl rfl rfl rfl rfl rfl rfl
set_option maxRecDepth 20000 in
theorem t0_r81 : ri_at_j 81 (fun _ => 0) 0 fw_42 := t0_ri rfl rfl rfl rfl rfl rfl rfl rfl rfl rfl rfl rfl rfl
set_option maxRecDepth 20000 in
theorem t0_r94 : ri_at_j 94 (fun _ => 0) 0 fw_42 := t0_ri rfl rfl rfl rfl rfl rfl rfl rfl rfl rfl rfl rfl rfl
theorem sg_z : ∀ k : Int, 0 ≤ k → k < 191 → sg_lo k ≤ 0 ∧ 0 ≤ sg_hi k := by
  intro k h0 h1
  have h : ∀ n : Nat, n < 191 → sg_lo (n : Int) ≤ 0 ∧ 0 ≤ sg_hi (n : Int) := by decide +kernel
  obtain ⟨n, rfl⟩ := Int.eq_ofNat_of_zero_le h0
  exact h n (by omega)
theorem sgc_z : sgc 0 (fun _ => 0) := ⟨⟨sg_z, by decide, fun k h0 h1 => show (0 : Int) ≤ 3 * (24 * 0 + 0) from by decide⟩, by decide⟩
set_option maxRecDepth 20000 in
theorem t0_cF : ci_F 129 t0_T fw_42 3 16 0 0 (fun _ => 0) (fun _ => 0) (fun _ => 0) 0 mo_0 := by
  have hw := tm_all_ok _ _ t0_W
  refine ⟨⟨rfl, fun p => hw.2 p, t0_okW⟩, t0_C, ⟨rfl, rfl, rfl, rfl, fun j => rfl⟩, ⟨⟨by decide, by decide⟩, by decide⟩, fun j h0 h1 => by omega, fun j h0 h1 => ?_, ?_, rfl, fun j h0 h1 => rfl, fun j h0 h1 ik e => ?_, t0_seg⟩
  · rcases (by omega : j = 0 ∨ j = 1 ∨ j = 2 ∨ j = 3) with rfl | rfl | rfl | rfl
    · exact ⟨55, rfl, t0_Ri_55, by decide⟩
    · exact ⟨68, rfl, t0_Ri_68, by decide⟩
    · exact ⟨81, rfl, t0_Ri_81, by decide⟩
    · exact ⟨94, rfl, t0_Ri_94, by decide⟩
  · intro k h0 h1 a b c ha hb hc
    have ha : some (ab_I 0) = some (ab_I a) := ha
    injection ha with ha
    injection ha with ha
    subst ha
    exact ⟨fun h => absurd h (by decide), fun h => absurd h (by decide)⟩
  · rcases (by omega : ik = 55 ∨ ik = 68 ∨ ik = 81 ∨ ik = 94) with rfl | rfl | rfl | rfl <;> rfl
set_option maxRecDepth 20000 in
theorem t0_cy : cy_I fw_42 t0_S mo_0 := ⟨129, t0_T, 3, 16, t0_cF, t0_r3, ⟨fun _ => 0, fun _ => 0, fun _ => 0, 0, ⟨rfl, rfl, rfl, rfl⟩, by decide, by decide, fun k _ _ => ⟨show ab_in 0 by decide, show ab_in 0 by decide, show ab_in 0 by decide⟩, ar_0⟩, fun j j0 j1 ik e => by
  rcases (by omega : ik = 55 ∨ ik = 68 ∨ ik = 81 ∨ ik = 94) with rfl | rfl | rfl | rfl
  · exact ⟨⟨_, _, t0_r55, sgc_z.1⟩, fun z => absurd (show (0 : Int) = 1 from z) (by decide)⟩
  · exact ⟨⟨_, _, t0_r68, sgc_z.1⟩, fun z => absurd (show (0 : Int) = 1 from z) (by decide)⟩
  · exact ⟨⟨_, _, t0_r81, sgc_z.1⟩, fun z => absurd (show (0 : Int) = 1 from z) (by decide)⟩
  · exact ⟨⟨_, _, t0_r94, sgc_z.1⟩, fun z => absurd (show (0 : Int) = 1 from z) (by decide)⟩, fun r r0 r1 => by omega⟩
set_option maxRecDepth 20000 in
theorem t0_my : my_I 0 t0_S mo_0 :=
  ⟨(fun _ => 0), (fun _ => 0), (fun _ => 0), (fun _ => 0), (fun _ => 0), 0, 0, 0, 0, 0, 0, 0, (fun _ => 0), 0, (fun _ => 0), 0, (fun _ => 0), (fun _ => 0), (fun _ => 0), (fun _ => 0), (fun _ => 0), (fun _ => 0), (fun _ => 0), (fun _ => 0), 0, 0, 0, rfl, ⟨⟨⟨by decide, by decide, fun k h0 h1 => show (-128 : Int) ≤ 0 ∧ (0 : Int) ≤ 127 from by decide⟩, ⟨fun k h0 h1 => sg_z k h0 (by omega), fun k h => rfl⟩, by decide⟩, ⟨⟨by decide, by decide⟩, fun r h0 h1 => by omega⟩, sgc_z, by decide, ⟨⟨by decide, by decide⟩, fun u h0 h1 => by omega⟩, ⟨fun k h0 h1 => show (0 : Int) ≤ 0 ∧ (0 : Int) ≤ 11 from by decide, fun k h0 h1 => show (-2000 : Int) ≤ 0 ∧ (0 : Int) ≤ 2000 from by decide, by decide, by decide⟩, fun j h0 h1 => Or.inl rfl, fun j h0 h1 h2 => absurd (show (0 : Int) = 1 from h2) (by decide), fun j h0 h1 => show (0 : Int) ≤ 0 ∧ (0 : Int) ≤ 2147483647 from by decide⟩, fun r h0 h1 => by omega⟩
theorem t0_li : lj_I 0 fw_42 := ⟨t0_S, mo_0, t0_cy, t0_my⟩
set_option maxRecDepth 20000 in
theorem la_start {b L : Nat} {xs : Nat → Int32} (hL : L ≤ 3072) : ab_Ex b L xs g_G g_rs mt_La 40 (129 + 2 * 513) (8622 + 401 * 513) 0 [some (ab_R (ab_sb + 1000)), none, none, none] [] [] () := by
  refine ex_new (N := 13) (bc := 128 + 2 * 513) (bs := 8609 + 401 * 513) de_La_0 nw_La_7 (Nat.le_of_ble_eq_true rfl) (ab_okW_of rfl) (ab_okS_of rfl) (ab_okL_of rfl) (ab_okS_of rfl) ?_
  refine ex_top (c := ab_R 0) rfl ?_
  refine ex_world (w' := fw_a) rfl ?_
  refine ex_dup de_La_3 rfl ?_
  refine ex_xn (bc := 22 + 2 * 513) (bs := 6014 + 401 * 513) de_La_4 co_Tu_init kb_La_9 ⟨im_Tu_init, rfl, rfl⟩ rfl (Nat.le_of_ble_eq_true rfl) (by decide) (ab_okL_of rfl) (ab_okS_of rfl) ?_
  refine ex_astore_n (l' := [_, _, _, _]) de_La_7 rfl (Nat.le_of_ble_eq_true rfl) rfl ?_
  refine ex_new (N := 37) (bc := 21 + 2 * 513) (bs := 5977 + 401 * 513) de_La_8 nw_La_10 (Nat.le_of_ble_eq_true rfl) (ab_okW_r (by decide +kernel) rfl (ab_all2 (ab_okru (by decide) (ab_okru (by decide) (ab_okru (by decide) (ab_okru (by decide) ab_okr0)))) ab_okr0)) (ab_okS_of rfl) (ab_okL_of rfl) (ab_okS_of rfl) ?_
  refine ex_top (c := ab_R 107) rfl ?_
  refine ex_world (w' := fw_b) rfl ?_
  refine ex_dup de_La_11 rfl ?_
  refine ex_xn (bc := 2 * 513) (bs := 401 * 513) de_La_12 zco_Mo_init kb_La_12 ⟨im_Mo_init, rfl, rfl⟩ rfl (Nat.le_of_ble_eq_true rfl) (by decide) (ab_okL_of rfl) (ab_okS_of rfl) ?_
  refine ex_astore_n (l' := [_, _, _, _]) de_La_15 rfl (Nat.le_of_ble_eq_true rfl) rfl ?_
  refine ex_iconst de_La_16 ?_
  refine ex_istore_n (l' := [_, _, _, _]) de_La_17 rfl (Nat.le_of_ble_eq_true rfl) rfl ?_
  exact la_loop hL 513 0 0 fw_42 (by decide) (by omega) (by omega) (by decide) (by decide) t0_li

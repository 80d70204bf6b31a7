/-! names: classes, words, methods (printed by a program out of the claim) -/
def tf_Ac : u_T := fun k => match k with
  | 0 => ("TurnRing$ActLog", "kinds", "[I", true)
  | 1 => ("TurnRing$ActLog", "firsts", "[I", true)
  | 2 => ("TurnRing$ActLog", "seconds", "[I", true)
  | 3 => ("TurnRing$ActLog", "size", "I", false)
  | _ => ("TurnRing$ActLog", "next", "I", false)
def ty_Ac : Nat → FieldType := fun k => match k with
  | 0 => .array .int
  | 1 => .array .int
  | 2 => .array .int
  | 3 => .int
  | _ => .int
def tf_Di : u_T := fun k => match k with
  | 0 => ("TurnRing$Diary", "lines", "I", false)
  | 1 => ("TurnRing$Diary", "house", "[I", true)
  | 2 => ("TurnRing$Diary", "after", "[I", true)
  | 3 => ("TurnRing$Diary", "sort", "[I", true)
  | _ => ("TurnRing$Diary", "seen", "[I", true)
def ty_Di : Nat → FieldType := fun k => match k with
  | 0 => .int
  | 1 => .array .int
  | 2 => .array .int
  | 3 => .array .int
  | _ => .array .int
def tf_Gu : u_T := fun k => match k with
  | 0 => ("TurnRing$Guesser", "angle", "[I", true)
  | 1 => ("TurnRing$Guesser", "rate", "[I", true)
  | 2 => ("TurnRing$Guesser", "turns", "I", false)
  | 3 => ("TurnRing$Guesser", "seenIn", "[I", true)
  | 4 => ("TurnRing$Guesser", "lookAt", "I", false)
  | _ => ("TurnRing$Guesser", "greaterPart", "I", false)
def ty_Gu : Nat → FieldType := fun k => match k with
  | 0 => .array .int
  | 1 => .array .int
  | 2 => .int
  | 3 => .array .int
  | 4 => .int
  | _ => .int
def tf_Ma : u_T := fun k => match k with
  | 0 => ("TurnRing$Machine", "stack", "[J", true)
  | _ => ("TurnRing$Machine", "top", "I", false)
def ty_Ma : Nat → FieldType := fun k => match k with
  | 0 => .array .long
  | _ => .int
def tf_Pl : u_T := fun k => match k with
  | 0 => ("TurnRing$Planner", "row", "[I", true)
  | 1 => ("TurnRing$Planner", "best", "[I", true)
  | 2 => ("TurnRing$Planner", "worth", "I", false)
  | 3 => ("TurnRing$Planner", "angles", "[I", true)
  | _ => ("TurnRing$Planner", "had", "[I", true)
def ty_Pl : Nat → FieldType := fun k => match k with
  | 0 => .array .int
  | 1 => .array .int
  | 2 => .int
  | 3 => .array .int
  | _ => .array .int
def tf_Ri : u_T := fun k => match k with
  | 0 => ("TurnRing$Ring", "told", "Z", false)
  | 1 => ("TurnRing$Ring", "angle", "I", false)
  | 2 => ("TurnRing$Ring", "hour", "I", false)
  | 3 => ("TurnRing$Ring", "day", "I", false)
  | 4 => ("TurnRing$Ring", "stopped", "Z", false)
  | 5 => ("TurnRing$Ring", "stops", "I", false)
  | 6 => ("TurnRing$Ring", "x", "I", false)
  | 7 => ("TurnRing$Ring", "houses", "I", false)
  | 8 => ("TurnRing$Ring", "sights", "I", false)
  | 9 => ("TurnRing$Ring", "gates", "I", false)
  | 10 => ("TurnRing$Ring", "slots", "[I", true)
  | 11 => ("TurnRing$Ring", "firstSlots", "[I", true)
  | 12 => ("TurnRing$Ring", "votes", "[I", true)
  | 13 => ("TurnRing$Ring", "liking", "[I", true)
  | 14 => ("TurnRing$Ring", "view", "[J", true)
  | 15 => ("TurnRing$Ring", "rates", "[I", true)
  | 16 => ("TurnRing$Ring", "worn", "[I", true)
  | _ => ("TurnRing$Ring", "diary", "LTurnRing$Diary;", true)
def ty_Ri : Nat → FieldType := fun k => match k with
  | 0 => .boolean
  | 1 => .int
  | 2 => .int
  | 3 => .int
  | 4 => .boolean
  | 5 => .int
  | 6 => .int
  | 7 => .int
  | 8 => .int
  | 9 => .int
  | 10 => .array .int
  | 11 => .array .int
  | 12 => .array .int
  | 13 => .array .int
  | 14 => .array .long
  | 15 => .array .int
  | 16 => .array .int
  | _ => .object "TurnRing$Diary"
def tf_Ro : u_T := fun k => match k with
  | _ => ("TurnRing$Rule", "code", "[I", true)
def ty_Ro : Nat → FieldType := fun k => match k with
  | _ => .array .int
def tf_Ru : u_T := fun k => match k with
  | 0 => ("TurnRing$RuleReader", "code", "[I", true)
  | 1 => ("TurnRing$RuleReader", "size", "I", false)
  | _ => ("TurnRing$RuleReader", "counted", "I", false)
def ty_Ru : Nat → FieldType := fun k => match k with
  | 0 => .array .int
  | 1 => .int
  | _ => .int
def tf_Ta : u_T := fun k => match k with
  | 0 => ("TurnRing$Tape", "text", "[B", true)
  | 1 => ("TurnRing$Tape", "length", "I", false)
  | 2 => ("TurnRing$Tape", "at", "I", false)
  | 3 => ("TurnRing$Tape", "words", "Ljava/lang/String;", false)
  | 4 => ("TurnRing$Tape", "fault", "I", false)
  | 5 => ("TurnRing$Tape", "start", "I", false)
  | 6 => ("TurnRing$Tape", "sign", "I", false)
  | 7 => ("TurnRing$Tape", "number", "I", false)
  | _ => ("TurnRing$Tape", "word", "I", false)
def ty_Ta : Nat → FieldType := fun k => match k with
  | 0 => .array .byte
  | 1 => .int
  | 2 => .int
  | 3 => .object "java/lang/String"
  | 4 => .int
  | 5 => .int
  | 6 => .int
  | 7 => .int
  | _ => .int
def tf_Tr : u_T := fun k => match k with
  | 0 => ("TurnRing$Trader", "slots", "[I", true)
  | 1 => ("TurnRing$Trader", "daysIn", "[I", true)
  | 2 => ("TurnRing$Trader", "daysNow", "[I", true)
  | 3 => ("TurnRing$Trader", "ways", "[I", true)
  | _ => ("TurnRing$Trader", "most", "[I", true)
def ty_Tr : Nat → FieldType := fun k => match k with
  | 0 => .array .int
  | 1 => .array .int
  | 2 => .array .int
  | 3 => .array .int
  | _ => .array .int
def tf_Tu : u_T := fun k => match k with
  | 0 => ("TurnRing", "tape", "LTurnRing$Tape;", true)
  | 1 => ("TurnRing", "now", "LTurnRing$Ring;", false)
  | 2 => ("TurnRing", "trial", "LTurnRing$Ring;", false)
  | 3 => ("TurnRing", "images", "[LTurnRing$Ring;", true)
  | 4 => ("TurnRing", "imageMade", "[Z", true)
  | 5 => ("TurnRing", "rules", "[LTurnRing$Rule;", true)
  | 6 => ("TurnRing", "ruleCount", "I", false)
  | 7 => ("TurnRing", "acts", "LTurnRing$ActLog;", true)
  | 8 => ("TurnRing", "ruleReader", "LTurnRing$RuleReader;", true)
  | 9 => ("TurnRing", "machine", "LTurnRing$Machine;", true)
  | 10 => ("TurnRing", "planner", "LTurnRing$Planner;", true)
  | 11 => ("TurnRing", "trader", "LTurnRing$Trader;", true)
  | _ => ("TurnRing", "guesser", "LTurnRing$Guesser;", true)
def ty_Tu : Nat → FieldType := fun k => match k with
  | 0 => .object "TurnRing$Tape"
  | 1 => .object "TurnRing$Ring"
  | 2 => .object "TurnRing$Ring"
  | 3 => .array (.object "TurnRing$Ring")
  | 4 => .array .boolean
  | 5 => .array (.object "TurnRing$Rule")
  | 6 => .int
  | 7 => .object "TurnRing$ActLog"
  | 8 => .object "TurnRing$RuleReader"
  | 9 => .object "TurnRing$Machine"
  | 10 => .object "TurnRing$Planner"
  | 11 => .object "TurnRing$Trader"
  | _ => .object "TurnRing$Guesser"
def tf_Mo : u_T := fun k => match k with
  | 0 => ("TurnRingModel", "tape", "[B", true)
  | 1 => ("TurnRingModel", "taped", "I", false)
  | 2 => ("TurnRingModel", "rules", "I", false)
  | 3 => ("TurnRingModel", "sign", "[I", true)
  | 4 => ("TurnRingModel", "length", "[I", true)
  | 5 => ("TurnRingModel", "clause", "[I", true)
  | 6 => ("TurnRingModel", "clauses", "[I", true)
  | 7 => ("TurnRingModel", "read", "[I", true)
  | 8 => ("TurnRingModel", "next", "I", false)
  | 9 => ("TurnRingModel", "wrong", "I", false)
  | 10 => ("TurnRingModel", "number", "I", false)
  | 11 => ("TurnRingModel", "text", "I", false)
  | 12 => ("TurnRingModel", "made", "I", false)
  | 13 => ("TurnRingModel", "deep", "I", false)
  | 14 => ("TurnRingModel", "lines", "I", false)
  | 15 => ("TurnRingModel", "open", "[I", true)
  | 16 => ("TurnRingModel", "opened", "I", false)
  | 17 => ("TurnRingModel", "stack", "[J", true)
  | 18 => ("TurnRingModel", "top", "I", false)
  | 19 => ("TurnRingModel", "word", "[J", true)
  | 20 => ("TurnRingModel", "said", "[I", true)
  | 21 => ("TurnRingModel", "x", "I", false)
  | 22 => ("TurnRingModel", "wasSaid", "[I", true)
  | 23 => ("TurnRingModel", "undone", "I", false)
  | 24 => ("TurnRingModel", "kept", "[I", true)
  | 25 => ("TurnRingModel", "sumOf", "[I", true)
  | 26 => ("TurnRingModel", "faced", "[I", true)
  | 27 => ("TurnRingModel", "slotAt", "[I", true)
  | 28 => ("TurnRingModel", "dayAt", "[I", true)
  | 29 => ("TurnRingModel", "row", "[I", true)
  | 30 => ("TurnRingModel", "bestRow", "[I", true)
  | 31 => ("TurnRingModel", "tradeMany", "I", false)
  | 32 => ("TurnRingModel", "tradeMost", "I", false)
  | 33 => ("TurnRingModel", "drawX", "J", false)
  | 34 => ("TurnRingModel", "images", "[I", true)
  | 35 => ("TurnRingModel", "imageX", "[I", true)
  | _ => ("TurnRingModel", "isMade", "[Z", true)
def ty_Mo : Nat → FieldType := fun k => match k with
  | 0 => .array .byte
  | 1 => .int
  | 2 => .int
  | 3 => .array .int
  | 4 => .array .int
  | 5 => .array .int
  | 6 => .array .int
  | 7 => .array .int
  | 8 => .int
  | 9 => .int
  | 10 => .int
  | 11 => .int
  | 12 => .int
  | 13 => .int
  | 14 => .int
  | 15 => .array .int
  | 16 => .int
  | 17 => .array .long
  | 18 => .int
  | 19 => .array .long
  | 20 => .array .int
  | 21 => .int
  | 22 => .array .int
  | 23 => .int
  | 24 => .array .int
  | 25 => .array .int
  | 26 => .array .int
  | 27 => .array .int
  | 28 => .array .int
  | 29 => .array .int
  | 30 => .array .int
  | 31 => .int
  | 32 => .int
  | 33 => .long
  | 34 => .array .int
  | 35 => .array .int
  | _ => .array .boolean
def ab_isN : Cond → Bool
  | .methodLinkNest _ _ _ _ => true
  | .fieldLinkNest _ _ _ _ _ _ => true
  | .castable _ _ => true
  | _ => false
def g_cl : List vw_C := [("TurnRing$ActLog", tf_Ac, 5), ("TurnRing$Diary", tf_Di, 5), ("TurnRing$Guesser", tf_Gu, 6), ("TurnRing$Machine", tf_Ma, 2), ("TurnRing$Planner", tf_Pl, 5), ("TurnRing$Ring", tf_Ri, 18), ("TurnRing$Rule", tf_Ro, 1), ("TurnRing$RuleReader", tf_Ru, 3), ("TurnRing$Tape", tf_Ta, 9), ("TurnRing$Trader", tf_Tr, 5), ("TurnRing", tf_Tu, 13), ("TurnRingModel", tf_Mo, 37)]
def g_TT : List Cond := lw_tbl.filter goodWord
def g_NL : List Cond := lw_tbl.filter ab_isN
def g_ST : ab_T := [("TurnRing$Tape", 15, "", 0), ("TurnRing$RingReader", 11, "ring house sight likes loathes gate rate", 1), ("TurnRing$RuleReader", 15, "hour day angle rate worn liked best least stays votes gates stops turn if not and or", 2)]
def g_ln : List Nat := [0, 40, 84]
def g_by : List (List Int32) := [[], [114, 105, 110, 103, 32, 104, 111, 117, 115, 101, 32, 115, 105, 103, 104, 116, 32, 108, 105, 107, 101, 115, 32, 108, 111, 97, 116, 104, 101, 115, 32, 103, 97, 116, 101, 32, 114, 97, 116, 101], [104, 111, 117, 114, 32, 100, 97, 121, 32, 97, 110, 103, 108, 101, 32, 114, 97, 116, 101, 32, 119, 111, 114, 110, 32, 108, 105, 107, 101, 100, 32, 98, 101, 115, 116, 32, 108, 101, 97, 115, 116, 32, 115, 116, 97, 121, 115, 32, 118, 111, 116, 101, 115, 32, 103, 97, 116, 101, 115, 32, 115, 116, 111, 112, 115, 32, 116, 117, 114, 110, 32, 105, 102, 32, 110, 111, 116, 32, 97, 110, 100, 32, 111, 114]]
def g_rs : List String := ["TurnRing$Ring", "TurnRing$Rule"]
def g_G : ab_G := (g_cl, g_TT, g_NL, g_ST, g_ln, g_by)
set_option maxRecDepth 4000 in
theorem g_memT {w : Cond} (h : w ∈ lw_tbl) (hg : goodWord w = true) : w ∈ g_G.2.1 := (List.mem_filter (p := goodWord) (as := lw_tbl)).mpr ⟨h, hg⟩
set_option maxRecDepth 4000 in
theorem g_memM {w : Cond} (h : w ∈ lw_tbl) (hg : ab_isN w = true) : w ∈ g_G.2.2.1 := (List.mem_filter (p := ab_isN) (as := lw_tbl)).mpr ⟨h, hg⟩
theorem g_t1 {w : Cond} (i : Nat) (h : tables_1_1[i]? = some w) : w ∈ lw_tbl := List.mem_append_right _ (List.mem_append_left _ (List.mem_of_getElem? h))
theorem g_t2 {w : Cond} (i : Nat) (h : tables_1_2[i]? = some w) : w ∈ lw_tbl := List.mem_append_right _ (List.mem_append_right _ (List.mem_append_left _ (List.mem_of_getElem? h)))
theorem g_t3 {w : Cond} (i : Nat) (h : tables_1_3[i]? = some w) : w ∈ lw_tbl := List.mem_append_right _ (List.mem_append_right _ (List.mem_append_right _ (List.mem_append_left _ (List.mem_of_getElem? h))))
theorem g_t4 {w : Cond} (i : Nat) (h : tables_1_4[i]? = some w) : w ∈ lw_tbl := List.mem_append_right _ (List.mem_append_right _ (List.mem_append_right _ (List.mem_append_right _ (List.mem_append_left _ (List.mem_of_getElem? h)))))
theorem g_t5 {w : Cond} (i : Nat) (h : tables_1_5[i]? = some w) : w ∈ lw_tbl := List.mem_append_right _ (List.mem_append_right _ (List.mem_append_right _ (List.mem_append_right _ (List.mem_append_right _ (List.mem_append_left _ (List.mem_of_getElem? h))))))
theorem g_t6 {w : Cond} (i : Nat) (h : tables_1_6[i]? = some w) : w ∈ lw_tbl := List.mem_append_right _ (List.mem_append_right _ (List.mem_append_right _ (List.mem_append_right _ (List.mem_append_right _ (List.mem_append_right _ (List.mem_append_left _ (List.mem_of_getElem? h)))))))
theorem g_t7 {w : Cond} (i : Nat) (h : tables_1_7[i]? = some w) : w ∈ lw_tbl := List.mem_append_right _ (List.mem_append_right _ (List.mem_append_right _ (List.mem_append_right _ (List.mem_append_right _ (List.mem_append_right _ (List.mem_append_right _ ((List.mem_of_getElem? h))))))))
theorem g_t0 {w : Cond} (i : Nat) (h : (k2_sels lw_privs)[i]? = some w) : w ∈ lw_tbl := List.mem_append_left _ (List.mem_of_getElem? h)
theorem g_good : ∀ x ∈ g_G.2.1, goodWord x = true := fun x h => (List.mem_filter.mp h).2
theorem uw_Ac : ∀ x ∈ u_ws "TurnRing$ActLog" tf_Ac 5, x ∈ g_G.2.1 := by
  intro x hx
  have hy : x ∈ (List.range 5).map (u_lay "TurnRing$ActLog" tf_Ac) := hx
  obtain ⟨k, hk, e⟩ := List.mem_map.mp hy
  have h5 := List.mem_range.mp hk
  subst e
  clear hx hy hk
  rcases (by omega : k = 0 ∨ k = 1 ∨ k = 2 ∨ k = 3 ∨ k = 4) with rfl | rfl | rfl | rfl | rfl
  · show Cond.laysFinal "TurnRing$ActLog" "TurnRing$ActLog" "kinds" "[I" ∈ g_G.2.1
    exact g_memT (g_t1 221 rfl) rfl
  · show Cond.laysFinal "TurnRing$ActLog" "TurnRing$ActLog" "firsts" "[I" ∈ g_G.2.1
    exact g_memT (g_t1 223 rfl) rfl
  · show Cond.laysFinal "TurnRing$ActLog" "TurnRing$ActLog" "seconds" "[I" ∈ g_G.2.1
    exact g_memT (g_t1 225 rfl) rfl
  · show Cond.lays "TurnRing$ActLog" "TurnRing$ActLog" "size" "I" ∈ g_G.2.1
    exact g_memT (g_t1 227 rfl) rfl
  · show Cond.lays "TurnRing$ActLog" "TurnRing$ActLog" "next" "I" ∈ g_G.2.1
    exact g_memT (g_t1 229 rfl) rfl
theorem nm_Ac : ∀ a, a < 5 → ∀ b, b < 5 → a ≠ b → (tf_Ac a).2.1 ≠ (tf_Ac b).2.1 := by decide +kernel
theorem tk_Ac : ∀ k, k < 5 → parseFieldDescriptor (tf_Ac k).2.2.1 = some (ty_Ac k) := by decide +kernel
def df_Ac : List ab_V := [ab_N, ab_N, ab_N, ab_I 0, ab_I 0]
theorem dk_Ac : ∀ (as : Nat → Nat) (j : Nat), j < 5 → defaultValue (ty_Ac j) = vp_V (df_Ac.map (ab_cv as)) j := by
  intro as j hj
  rcases (by omega : j = 0 ∨ j = 1 ∨ j = 2 ∨ j = 3 ∨ j = 4) with rfl | rfl | rfl | rfl | rfl <;> rfl
theorem uw_Di : ∀ x ∈ u_ws "TurnRing$Diary" tf_Di 5, x ∈ g_G.2.1 := by
  intro x hx
  have hy : x ∈ (List.range 5).map (u_lay "TurnRing$Diary" tf_Di) := hx
  obtain ⟨k, hk, e⟩ := List.mem_map.mp hy
  have h5 := List.mem_range.mp hk
  subst e
  clear hx hy hk
  rcases (by omega : k = 0 ∨ k = 1 ∨ k = 2 ∨ k = 3 ∨ k = 4) with rfl | rfl | rfl | rfl | rfl
  · show Cond.lays "TurnRing$Diary" "TurnRing$Diary" "lines" "I" ∈ g_G.2.1
    exact g_memT (g_t1 99 rfl) rfl
  · show Cond.laysFinal "TurnRing$Diary" "TurnRing$Diary" "house" "[I" ∈ g_G.2.1
    exact g_memT (g_t1 101 rfl) rfl
  · show Cond.laysFinal "TurnRing$Diary" "TurnRing$Diary" "after" "[I" ∈ g_G.2.1
    exact g_memT (g_t1 103 rfl) rfl
  · show Cond.laysFinal "TurnRing$Diary" "TurnRing$Diary" "sort" "[I" ∈ g_G.2.1
    exact g_memT (g_t1 105 rfl) rfl
  · show Cond.laysFinal "TurnRing$Diary" "TurnRing$Diary" "seen" "[I" ∈ g_G.2.1
    exact g_memT (g_t1 107 rfl) rfl
theorem nm_Di : ∀ a, a < 5 → ∀ b, b < 5 → a ≠ b → (tf_Di a).2.1 ≠ (tf_Di b).2.1 := by decide +kernel
theorem tk_Di : ∀ k, k < 5 → parseFieldDescriptor (tf_Di k).2.2.1 = some (ty_Di k) := by decide +kernel
def df_Di : List ab_V := [ab_I 0, ab_N, ab_N, ab_N, ab_N]
theorem dk_Di : ∀ (as : Nat → Nat) (j : Nat), j < 5 → defaultValue (ty_Di j) = vp_V (df_Di.map (ab_cv as)) j := by
  intro as j hj
  rcases (by omega : j = 0 ∨ j = 1 ∨ j = 2 ∨ j = 3 ∨ j = 4) with rfl | rfl | rfl | rfl | rfl <;> rfl
theorem uw_Gu : ∀ x ∈ u_ws "TurnRing$Guesser" tf_Gu 6, x ∈ g_G.2.1 := by
  intro x hx
  have hy : x ∈ (List.range 6).map (u_lay "TurnRing$Guesser" tf_Gu) := hx
  obtain ⟨k, hk, e⟩ := List.mem_map.mp hy
  have h5 := List.mem_range.mp hk
  subst e
  clear hx hy hk
  rcases (by omega : k = 0 ∨ k = 1 ∨ k = 2 ∨ k = 3 ∨ k = 4 ∨ k = 5) with rfl | rfl | rfl | rfl | rfl | rfl
  · show Cond.laysFinal "TurnRing$Guesser" "TurnRing$Guesser" "angle" "[I" ∈ g_G.2.1
    exact g_memT (g_t2 87 rfl) rfl
  · show Cond.laysFinal "TurnRing$Guesser" "TurnRing$Guesser" "rate" "[I" ∈ g_G.2.1
    exact g_memT (g_t2 89 rfl) rfl
  · show Cond.lays "TurnRing$Guesser" "TurnRing$Guesser" "turns" "I" ∈ g_G.2.1
    exact g_memT (g_t2 91 rfl) rfl
  · show Cond.laysFinal "TurnRing$Guesser" "TurnRing$Guesser" "seenIn" "[I" ∈ g_G.2.1
    exact g_memT (g_t2 93 rfl) rfl
  · show Cond.lays "TurnRing$Guesser" "TurnRing$Guesser" "lookAt" "I" ∈ g_G.2.1
    exact g_memT (g_t2 95 rfl) rfl
  · show Cond.lays "TurnRing$Guesser" "TurnRing$Guesser" "greaterPart" "I" ∈ g_G.2.1
    exact g_memT (g_t2 97 rfl) rfl
theorem nm_Gu : ∀ a, a < 6 → ∀ b, b < 6 → a ≠ b → (tf_Gu a).2.1 ≠ (tf_Gu b).2.1 := by decide +kernel
theorem tk_Gu : ∀ k, k < 6 → parseFieldDescriptor (tf_Gu k).2.2.1 = some (ty_Gu k) := by decide +kernel
def df_Gu : List ab_V := [ab_N, ab_N, ab_I 0, ab_N, ab_I 0, ab_I 0]
theorem dk_Gu : ∀ (as : Nat → Nat) (j : Nat), j < 6 → defaultValue (ty_Gu j) = vp_V (df_Gu.map (ab_cv as)) j := by
  intro as j hj
  rcases (by omega : j = 0 ∨ j = 1 ∨ j = 2 ∨ j = 3 ∨ j = 4 ∨ j = 5) with rfl | rfl | rfl | rfl | rfl | rfl <;> rfl
theorem uw_Ma : ∀ x ∈ u_ws "TurnRing$Machine" tf_Ma 2, x ∈ g_G.2.1 := by
  intro x hx
  have hy : x ∈ (List.range 2).map (u_lay "TurnRing$Machine" tf_Ma) := hx
  obtain ⟨k, hk, e⟩ := List.mem_map.mp hy
  have h5 := List.mem_range.mp hk
  subst e
  clear hx hy hk
  rcases (by omega : k = 0 ∨ k = 1) with rfl | rfl
  · show Cond.laysFinal "TurnRing$Machine" "TurnRing$Machine" "stack" "[J" ∈ g_G.2.1
    exact g_memT (g_t2 17 rfl) rfl
  · show Cond.lays "TurnRing$Machine" "TurnRing$Machine" "top" "I" ∈ g_G.2.1
    exact g_memT (g_t2 19 rfl) rfl
theorem nm_Ma : ∀ a, a < 2 → ∀ b, b < 2 → a ≠ b → (tf_Ma a).2.1 ≠ (tf_Ma b).2.1 := by decide +kernel
theorem tk_Ma : ∀ k, k < 2 → parseFieldDescriptor (tf_Ma k).2.2.1 = some (ty_Ma k) := by decide +kernel
def df_Ma : List ab_V := [ab_N, ab_I 0]
theorem dk_Ma : ∀ (as : Nat → Nat) (j : Nat), j < 2 → defaultValue (ty_Ma j) = vp_V (df_Ma.map (ab_cv as)) j := by
  intro as j hj
  rcases (by omega : j = 0 ∨ j = 1) with rfl | rfl <;> rfl
theorem uw_Pl : ∀ x ∈ u_ws "TurnRing$Planner" tf_Pl 5, x ∈ g_G.2.1 := by
  intro x hx
  have hy : x ∈ (List.range 5).map (u_lay "TurnRing$Planner" tf_Pl) := hx
  obtain ⟨k, hk, e⟩ := List.mem_map.mp hy
  have h5 := List.mem_range.mp hk
  subst e
  clear hx hy hk
  rcases (by omega : k = 0 ∨ k = 1 ∨ k = 2 ∨ k = 3 ∨ k = 4) with rfl | rfl | rfl | rfl | rfl
  · show Cond.laysFinal "TurnRing$Planner" "TurnRing$Planner" "row" "[I" ∈ g_G.2.1
    exact g_memT (g_t2 35 rfl) rfl
  · show Cond.laysFinal "TurnRing$Planner" "TurnRing$Planner" "best" "[I" ∈ g_G.2.1
    exact g_memT (g_t2 37 rfl) rfl
  · show Cond.lays "TurnRing$Planner" "TurnRing$Planner" "worth" "I" ∈ g_G.2.1
    exact g_memT (g_t2 39 rfl) rfl
  · show Cond.laysFinal "TurnRing$Planner" "TurnRing$Planner" "angles" "[I" ∈ g_G.2.1
    exact g_memT (g_t2 41 rfl) rfl
  · show Cond.laysFinal "TurnRing$Planner" "TurnRing$Planner" "had" "[I" ∈ g_G.2.1
    exact g_memT (g_t2 43 rfl) rfl
theorem nm_Pl : ∀ a, a < 5 → ∀ b, b < 5 → a ≠ b → (tf_Pl a).2.1 ≠ (tf_Pl b).2.1 := by decide +kernel
theorem tk_Pl : ∀ k, k < 5 → parseFieldDescriptor (tf_Pl k).2.2.1 = some (ty_Pl k) := by decide +kernel
def df_Pl : List ab_V := [ab_N, ab_N, ab_I 0, ab_N, ab_N]
theorem dk_Pl : ∀ (as : Nat → Nat) (j : Nat), j < 5 → defaultValue (ty_Pl j) = vp_V (df_Pl.map (ab_cv as)) j := by
  intro as j hj
  rcases (by omega : j = 0 ∨ j = 1 ∨ j = 2 ∨ j = 3 ∨ j = 4) with rfl | rfl | rfl | rfl | rfl <;> rfl
theorem uw_Ri : ∀ x ∈ u_ws "TurnRing$Ring" tf_Ri 18, x ∈ g_G.2.1 := by
  intro x hx
  have hy : x ∈ (List.range 18).map (u_lay "TurnRing$Ring" tf_Ri) := hx
  obtain ⟨k, hk, e⟩ := List.mem_map.mp hy
  have h5 := List.mem_range.mp hk
  subst e
  clear hx hy hk
  rcases (by omega : k = 0 ∨ k = 1 ∨ k = 2 ∨ k = 3 ∨ k = 4 ∨ k = 5 ∨ k = 6 ∨ k = 7 ∨ k = 8 ∨ k = 9 ∨ k = 10 ∨ k = 11 ∨ k = 12 ∨ k = 13 ∨ k = 14 ∨ k = 15 ∨ k = 16 ∨ k = 17) with rfl | rfl | rfl | rfl | rfl | rfl | rfl | rfl | rfl | rfl | rfl | rfl | rfl | rfl | rfl | rfl | rfl | rfl
  · show Cond.lays "TurnRing$Ring" "TurnRing$Ring" "told" "Z" ∈ g_G.2.1
    exact g_memT (g_t1 169 rfl) rfl
  · show Cond.lays "TurnRing$Ring" "TurnRing$Ring" "angle" "I" ∈ g_G.2.1
    exact g_memT (g_t1 171 rfl) rfl
  · show Cond.lays "TurnRing$Ring" "TurnRing$Ring" "hour" "I" ∈ g_G.2.1
    exact g_memT (g_t1 173 rfl) rfl
  · show Cond.lays "TurnRing$Ring" "TurnRing$Ring" "day" "I" ∈ g_G.2.1
    exact g_memT (g_t1 175 rfl) rfl
  · show Cond.lays "TurnRing$Ring" "TurnRing$Ring" "stopped" "Z" ∈ g_G.2.1
    exact g_memT (g_t1 177 rfl) rfl
  · show Cond.lays "TurnRing$Ring" "TurnRing$Ring" "stops" "I" ∈ g_G.2.1
    exact g_memT (g_t1 179 rfl) rfl
  · show Cond.lays "TurnRing$Ring" "TurnRing$Ring" "x" "I" ∈ g_G.2.1
    exact g_memT (g_t1 181 rfl) rfl
  · show Cond.lays "TurnRing$Ring" "TurnRing$Ring" "houses" "I" ∈ g_G.2.1
    exact g_memT (g_t1 183 rfl) rfl
  · show Cond.lays "TurnRing$Ring" "TurnRing$Ring" "sights" "I" ∈ g_G.2.1
    exact g_memT (g_t1 185 rfl) rfl
  · show Cond.lays "TurnRing$Ring" "TurnRing$Ring" "gates" "I" ∈ g_G.2.1
    exact g_memT (g_t1 187 rfl) rfl
  · show Cond.laysFinal "TurnRing$Ring" "TurnRing$Ring" "slots" "[I" ∈ g_G.2.1
    exact g_memT (g_t1 189 rfl) rfl
  · show Cond.laysFinal "TurnRing$Ring" "TurnRing$Ring" "firstSlots" "[I" ∈ g_G.2.1
    exact g_memT (g_t1 191 rfl) rfl
  · show Cond.laysFinal "TurnRing$Ring" "TurnRing$Ring" "votes" "[I" ∈ g_G.2.1
    exact g_memT (g_t1 193 rfl) rfl
  · show Cond.laysFinal "TurnRing$Ring" "TurnRing$Ring" "liking" "[I" ∈ g_G.2.1
    exact g_memT (g_t1 195 rfl) rfl
  · show Cond.laysFinal "TurnRing$Ring" "TurnRing$Ring" "view" "[J" ∈ g_G.2.1
    exact g_memT (g_t1 197 rfl) rfl
  · show Cond.laysFinal "TurnRing$Ring" "TurnRing$Ring" "rates" "[I" ∈ g_G.2.1
    exact g_memT (g_t1 199 rfl) rfl
  · show Cond.laysFinal "TurnRing$Ring" "TurnRing$Ring" "worn" "[I" ∈ g_G.2.1
    exact g_memT (g_t1 201 rfl) rfl
  · show Cond.laysFinal "TurnRing$Ring" "TurnRing$Ring" "diary" "LTurnRing$Diary;" ∈ g_G.2.1
    exact g_memT (g_t1 203 rfl) rfl
theorem nm_Ri : ∀ a, a < 18 → ∀ b, b < 18 → a ≠ b → (tf_Ri a).2.1 ≠ (tf_Ri b).2.1 := by decide +kernel
theorem tk_Ri : ∀ k, k < 18 → parseFieldDescriptor (tf_Ri k).2.2.1 = some (ty_Ri k) := by decide +kernel
def df_Ri : List ab_V := [ab_I 0, ab_I 0, ab_I 0, ab_I 0, ab_I 0, ab_I 0, ab_I 0, ab_I 0, ab_I 0, ab_I 0, ab_N, ab_N, ab_N, ab_N, ab_N, ab_N, ab_N, ab_N]
theorem dk_Ri : ∀ (as : Nat → Nat) (j : Nat), j < 18 → defaultValue (ty_Ri j) = vp_V (df_Ri.map (ab_cv as)) j := by
  intro as j hj
  rcases (by omega : j = 0 ∨ j = 1 ∨ j = 2 ∨ j = 3 ∨ j = 4 ∨ j = 5 ∨ j = 6 ∨ j = 7 ∨ j = 8 ∨ j = 9 ∨ j = 10 ∨ j = 11 ∨ j = 12 ∨ j = 13 ∨ j = 14 ∨ j = 15 ∨ j = 16 ∨ j = 17) with rfl | rfl | rfl | rfl | rfl | rfl | rfl | rfl | rfl | rfl | rfl | rfl | rfl | rfl | rfl | rfl | rfl | rfl <;> rfl
theorem uw_Ro : ∀ x ∈ u_ws "TurnRing$Rule" tf_Ro 1, x ∈ g_G.2.1 := by
  intro x hx
  have hy : x ∈ (List.range 1).map (u_lay "TurnRing$Rule" tf_Ro) := hx
  obtain ⟨k, hk, e⟩ := List.mem_map.mp hy
  have h5 := List.mem_range.mp hk
  subst e
  clear hx hy hk
  rcases (by omega : k = 0) with rfl
  · show Cond.laysFinal "TurnRing$Rule" "TurnRing$Rule" "code" "[I" ∈ g_G.2.1
    exact g_memT (g_t3 124 rfl) rfl
theorem nm_Ro : ∀ a, a < 1 → ∀ b, b < 1 → a ≠ b → (tf_Ro a).2.1 ≠ (tf_Ro b).2.1 := by decide +kernel
theorem tk_Ro : ∀ k, k < 1 → parseFieldDescriptor (tf_Ro k).2.2.1 = some (ty_Ro k) := by decide +kernel
def df_Ro : List ab_V := [ab_N]
theorem dk_Ro : ∀ (as : Nat → Nat) (j : Nat), j < 1 → defaultValue (ty_Ro j) = vp_V (df_Ro.map (ab_cv as)) j := by
  intro as j hj
  rcases (by omega : j = 0) with rfl <;> rfl
theorem uw_Ru : ∀ x ∈ u_ws "TurnRing$RuleReader" tf_Ru 3, x ∈ g_G.2.1 := by
  intro x hx
  have hy : x ∈ (List.range 3).map (u_lay "TurnRing$RuleReader" tf_Ru) := hx
  obtain ⟨k, hk, e⟩ := List.mem_map.mp hy
  have h5 := List.mem_range.mp hk
  subst e
  clear hx hy hk
  rcases (by omega : k = 0 ∨ k = 1 ∨ k = 2) with rfl | rfl | rfl
  · show Cond.laysFinal "TurnRing$RuleReader" "TurnRing$RuleReader" "code" "[I" ∈ g_G.2.1
    exact g_memT (g_t2 2 rfl) rfl
  · show Cond.lays "TurnRing$RuleReader" "TurnRing$RuleReader" "size" "I" ∈ g_G.2.1
    exact g_memT (g_t2 4 rfl) rfl
  · show Cond.lays "TurnRing$RuleReader" "TurnRing$RuleReader" "counted" "I" ∈ g_G.2.1
    exact g_memT (g_t2 6 rfl) rfl
theorem nm_Ru : ∀ a, a < 3 → ∀ b, b < 3 → a ≠ b → (tf_Ru a).2.1 ≠ (tf_Ru b).2.1 := by decide +kernel
theorem tk_Ru : ∀ k, k < 3 → parseFieldDescriptor (tf_Ru k).2.2.1 = some (ty_Ru k) := by decide +kernel
def df_Ru : List ab_V := [ab_N, ab_I 0, ab_I 0]
theorem dk_Ru : ∀ (as : Nat → Nat) (j : Nat), j < 3 → defaultValue (ty_Ru j) = vp_V (df_Ru.map (ab_cv as)) j := by
  intro as j hj
  rcases (by omega : j = 0 ∨ j = 1 ∨ j = 2) with rfl | rfl | rfl <;> rfl
theorem uw_Ta : ∀ x ∈ u_ws "TurnRing$Tape" tf_Ta 9, x ∈ g_G.2.1 := by
  intro x hx
  have hy : x ∈ (List.range 9).map (u_lay "TurnRing$Tape" tf_Ta) := hx
  obtain ⟨k, hk, e⟩ := List.mem_map.mp hy
  have h5 := List.mem_range.mp hk
  subst e
  clear hx hy hk
  rcases (by omega : k = 0 ∨ k = 1 ∨ k = 2 ∨ k = 3 ∨ k = 4 ∨ k = 5 ∨ k = 6 ∨ k = 7 ∨ k = 8) with rfl | rfl | rfl | rfl | rfl | rfl | rfl | rfl | rfl
  · show Cond.laysFinal "TurnRing$Tape" "TurnRing$Tape" "text" "[B" ∈ g_G.2.1
    exact g_memT (g_t1 55 rfl) rfl
  · show Cond.lays "TurnRing$Tape" "TurnRing$Tape" "length" "I" ∈ g_G.2.1
    exact g_memT (g_t1 57 rfl) rfl
  · show Cond.lays "TurnRing$Tape" "TurnRing$Tape" "at" "I" ∈ g_G.2.1
    exact g_memT (g_t1 59 rfl) rfl
  · show Cond.lays "TurnRing$Tape" "TurnRing$Tape" "words" "Ljava/lang/String;" ∈ g_G.2.1
    exact g_memT (g_t1 61 rfl) rfl
  · show Cond.lays "TurnRing$Tape" "TurnRing$Tape" "fault" "I" ∈ g_G.2.1
    exact g_memT (g_t1 63 rfl) rfl
  · show Cond.lays "TurnRing$Tape" "TurnRing$Tape" "start" "I" ∈ g_G.2.1
    exact g_memT (g_t1 65 rfl) rfl
  · show Cond.lays "TurnRing$Tape" "TurnRing$Tape" "sign" "I" ∈ g_G.2.1
    exact g_memT (g_t1 67 rfl) rfl
  · show Cond.lays "TurnRing$Tape" "TurnRing$Tape" "number" "I" ∈ g_G.2.1
    exact g_memT (g_t1 69 rfl) rfl
  · show Cond.lays "TurnRing$Tape" "TurnRing$Tape" "word" "I" ∈ g_G.2.1
    exact g_memT (g_t1 71 rfl) rfl
theorem nm_Ta : ∀ a, a < 9 → ∀ b, b < 9 → a ≠ b → (tf_Ta a).2.1 ≠ (tf_Ta b).2.1 := by decide +kernel
theorem tk_Ta : ∀ k, k < 9 → parseFieldDescriptor (tf_Ta k).2.2.1 = some (ty_Ta k) := by decide +kernel
def df_Ta : List ab_V := [ab_N, ab_I 0, ab_I 0, ab_N, ab_I 0, ab_I 0, ab_I 0, ab_I 0, ab_I 0]
theorem dk_Ta : ∀ (as : Nat → Nat) (j : Nat), j < 9 → defaultValue (ty_Ta j) = vp_V (df_Ta.map (ab_cv as)) j := by
  intro as j hj
  rcases (by omega : j = 0 ∨ j = 1 ∨ j = 2 ∨ j = 3 ∨ j = 4 ∨ j = 5 ∨ j = 6 ∨ j = 7 ∨ j = 8) with rfl | rfl | rfl | rfl | rfl | rfl | rfl | rfl | rfl <;> rfl
theorem uw_Tr : ∀ x ∈ u_ws "TurnRing$Trader" tf_Tr 5, x ∈ g_G.2.1 := by
  intro x hx
  have hy : x ∈ (List.range 5).map (u_lay "TurnRing$Trader" tf_Tr) := hx
  obtain ⟨k, hk, e⟩ := List.mem_map.mp hy
  have h5 := List.mem_range.mp hk
  subst e
  clear hx hy hk
  rcases (by omega : k = 0 ∨ k = 1 ∨ k = 2 ∨ k = 3 ∨ k = 4) with rfl | rfl | rfl | rfl | rfl
  · show Cond.laysFinal "TurnRing$Trader" "TurnRing$Trader" "slots" "[I" ∈ g_G.2.1
    exact g_memT (g_t2 59 rfl) rfl
  · show Cond.laysFinal "TurnRing$Trader" "TurnRing$Trader" "daysIn" "[I" ∈ g_G.2.1
    exact g_memT (g_t2 61 rfl) rfl
  · show Cond.laysFinal "TurnRing$Trader" "TurnRing$Trader" "daysNow" "[I" ∈ g_G.2.1
    exact g_memT (g_t2 63 rfl) rfl
  · show Cond.laysFinal "TurnRing$Trader" "TurnRing$Trader" "ways" "[I" ∈ g_G.2.1
    exact g_memT (g_t2 65 rfl) rfl
  · show Cond.laysFinal "TurnRing$Trader" "TurnRing$Trader" "most" "[I" ∈ g_G.2.1
    exact g_memT (g_t2 67 rfl) rfl
theorem nm_Tr : ∀ a, a < 5 → ∀ b, b < 5 → a ≠ b → (tf_Tr a).2.1 ≠ (tf_Tr b).2.1 := by decide +kernel
theorem tk_Tr : ∀ k, k < 5 → parseFieldDescriptor (tf_Tr k).2.2.1 = some (ty_Tr k) := by decide +kernel
def df_Tr : List ab_V := [ab_N, ab_N, ab_N, ab_N, ab_N]
theorem dk_Tr : ∀ (as : Nat → Nat) (j : Nat), j < 5 → defaultValue (ty_Tr j) = vp_V (df_Tr.map (ab_cv as)) j := by
  intro as j hj
  rcases (by omega : j = 0 ∨ j = 1 ∨ j = 2 ∨ j = 3 ∨ j = 4) with rfl | rfl | rfl | rfl | rfl <;> rfl
theorem uw_Tu : ∀ x ∈ u_ws "TurnRing" tf_Tu 13, x ∈ g_G.2.1 := by
  intro x hx
  have hy : x ∈ (List.range 13).map (u_lay "TurnRing" tf_Tu) := hx
  obtain ⟨k, hk, e⟩ := List.mem_map.mp hy
  have h5 := List.mem_range.mp hk
  subst e
  clear hx hy hk
  rcases (by omega : k = 0 ∨ k = 1 ∨ k = 2 ∨ k = 3 ∨ k = 4 ∨ k = 5 ∨ k = 6 ∨ k = 7 ∨ k = 8 ∨ k = 9 ∨ k = 10 ∨ k = 11 ∨ k = 12) with rfl | rfl | rfl | rfl | rfl | rfl | rfl | rfl | rfl | rfl | rfl | rfl | rfl
  · show Cond.laysFinal "TurnRing" "TurnRing" "tape" "LTurnRing$Tape;" ∈ g_G.2.1
    exact g_memT (g_t2 113 rfl) rfl
  · show Cond.lays "TurnRing" "TurnRing" "now" "LTurnRing$Ring;" ∈ g_G.2.1
    exact g_memT (g_t2 115 rfl) rfl
  · show Cond.lays "TurnRing" "TurnRing" "trial" "LTurnRing$Ring;" ∈ g_G.2.1
    exact g_memT (g_t2 117 rfl) rfl
  · show Cond.laysFinal "TurnRing" "TurnRing" "images" "[LTurnRing$Ring;" ∈ g_G.2.1
    exact g_memT (g_t2 119 rfl) rfl
  · show Cond.laysFinal "TurnRing" "TurnRing" "imageMade" "[Z" ∈ g_G.2.1
    exact g_memT (g_t2 121 rfl) rfl
  · show Cond.laysFinal "TurnRing" "TurnRing" "rules" "[LTurnRing$Rule;" ∈ g_G.2.1
    exact g_memT (g_t2 123 rfl) rfl
  · show Cond.lays "TurnRing" "TurnRing" "ruleCount" "I" ∈ g_G.2.1
    exact g_memT (g_t2 125 rfl) rfl
  · show Cond.laysFinal "TurnRing" "TurnRing" "acts" "LTurnRing$ActLog;" ∈ g_G.2.1
    exact g_memT (g_t2 127 rfl) rfl
  · show Cond.laysFinal "TurnRing" "TurnRing" "ruleReader" "LTurnRing$RuleReader;" ∈ g_G.2.1
    exact g_memT (g_t2 129 rfl) rfl
  · show Cond.laysFinal "TurnRing" "TurnRing" "machine" "LTurnRing$Machine;" ∈ g_G.2.1
    exact g_memT (g_t2 131 rfl) rfl
  · show Cond.laysFinal "TurnRing" "TurnRing" "planner" "LTurnRing$Planner;" ∈ g_G.2.1
    exact g_memT (g_t2 133 rfl) rfl
  · show Cond.laysFinal "TurnRing" "TurnRing" "trader" "LTurnRing$Trader;" ∈ g_G.2.1
    exact g_memT (g_t2 135 rfl) rfl
  · show Cond.laysFinal "TurnRing" "TurnRing" "guesser" "LTurnRing$Guesser;" ∈ g_G.2.1
    exact g_memT (g_t2 137 rfl) rfl
theorem nm_Tu : ∀ a, a < 13 → ∀ b, b < 13 → a ≠ b → (tf_Tu a).2.1 ≠ (tf_Tu b).2.1 := by decide +kernel
theorem tk_Tu : ∀ k, k < 13 → parseFieldDescriptor (tf_Tu k).2.2.1 = some (ty_Tu k) := by decide +kernel
def df_Tu : List ab_V := [ab_N, ab_N, ab_N, ab_N, ab_N, ab_N, ab_I 0, ab_N, ab_N, ab_N, ab_N, ab_N, ab_N]
theorem dk_Tu : ∀ (as : Nat → Nat) (j : Nat), j < 13 → defaultValue (ty_Tu j) = vp_V (df_Tu.map (ab_cv as)) j := by
  intro as j hj
  rcases (by omega : j = 0 ∨ j = 1 ∨ j = 2 ∨ j = 3 ∨ j = 4 ∨ j = 5 ∨ j = 6 ∨ j = 7 ∨ j = 8 ∨ j = 9 ∨ j = 10 ∨ j = 11 ∨ j = 12) with rfl | rfl | rfl | rfl | rfl | rfl | rfl | rfl | rfl | rfl | rfl | rfl | rfl <;> rfl
theorem uw_Mo : ∀ x ∈ u_ws "TurnRingModel" tf_Mo 37, x ∈ g_G.2.1 := by
  intro x hx
  have hy : x ∈ (List.range 37).map (u_lay "TurnRingModel" tf_Mo) := hx
  obtain ⟨k, hk, e⟩ := List.mem_map.mp hy
  have h5 := List.mem_range.mp hk
  subst e
  clear hx hy hk
  rcases (by omega : k = 0 ∨ k = 1 ∨ k = 2 ∨ k = 3 ∨ k = 4 ∨ k = 5 ∨ k = 6 ∨ k = 7 ∨ k = 8 ∨ k = 9 ∨ k = 10 ∨ k = 11 ∨ k = 12 ∨ k = 13 ∨ k = 14 ∨ k = 15 ∨ k = 16 ∨ k = 17 ∨ k = 18 ∨ k = 19 ∨ k = 20 ∨ k = 21 ∨ k = 22 ∨ k = 23 ∨ k = 24 ∨ k = 25 ∨ k = 26 ∨ k = 27 ∨ k = 28 ∨ k = 29 ∨ k = 30 ∨ k = 31 ∨ k = 32 ∨ k = 33 ∨ k = 34 ∨ k = 35 ∨ k = 36) with rfl | rfl | rfl | rfl | rfl | rfl | rfl | rfl | rfl | rfl | rfl | rfl | rfl | rfl | rfl | rfl | rfl | rfl | rfl | rfl | rfl | rfl | rfl | rfl | rfl | rfl | rfl | rfl | rfl | rfl | rfl | rfl | rfl | rfl | rfl | rfl | rfl
  · show Cond.laysFinal "TurnRingModel" "TurnRingModel" "tape" "[B" ∈ g_G.2.1
    exact g_memT (g_t5 95 rfl) rfl
  · show Cond.lays "TurnRingModel" "TurnRingModel" "taped" "I" ∈ g_G.2.1
    exact g_memT (g_t5 97 rfl) rfl
  · show Cond.lays "TurnRingModel" "TurnRingModel" "rules" "I" ∈ g_G.2.1
    exact g_memT (g_t5 99 rfl) rfl
  · show Cond.laysFinal "TurnRingModel" "TurnRingModel" "sign" "[I" ∈ g_G.2.1
    exact g_memT (g_t5 101 rfl) rfl
  · show Cond.laysFinal "TurnRingModel" "TurnRingModel" "length" "[I" ∈ g_G.2.1
    exact g_memT (g_t5 103 rfl) rfl
  · show Cond.laysFinal "TurnRingModel" "TurnRingModel" "clause" "[I" ∈ g_G.2.1
    exact g_memT (g_t5 105 rfl) rfl
  · show Cond.laysFinal "TurnRingModel" "TurnRingModel" "clauses" "[I" ∈ g_G.2.1
    exact g_memT (g_t5 107 rfl) rfl
  · show Cond.laysFinal "TurnRingModel" "TurnRingModel" "read" "[I" ∈ g_G.2.1
    exact g_memT (g_t5 109 rfl) rfl
  · show Cond.lays "TurnRingModel" "TurnRingModel" "next" "I" ∈ g_G.2.1
    exact g_memT (g_t5 111 rfl) rfl
  · show Cond.lays "TurnRingModel" "TurnRingModel" "wrong" "I" ∈ g_G.2.1
    exact g_memT (g_t5 113 rfl) rfl
  · show Cond.lays "TurnRingModel" "TurnRingModel" "number" "I" ∈ g_G.2.1
    exact g_memT (g_t5 115 rfl) rfl
  · show Cond.lays "TurnRingModel" "TurnRingModel" "text" "I" ∈ g_G.2.1
    exact g_memT (g_t5 117 rfl) rfl
  · show Cond.lays "TurnRingModel" "TurnRingModel" "made" "I" ∈ g_G.2.1
    exact g_memT (g_t5 119 rfl) rfl
  · show Cond.lays "TurnRingModel" "TurnRingModel" "deep" "I" ∈ g_G.2.1
    exact g_memT (g_t5 121 rfl) rfl
  · show Cond.lays "TurnRingModel" "TurnRingModel" "lines" "I" ∈ g_G.2.1
    exact g_memT (g_t5 123 rfl) rfl
  · show Cond.laysFinal "TurnRingModel" "TurnRingModel" "open" "[I" ∈ g_G.2.1
    exact g_memT (g_t5 125 rfl) rfl
  · show Cond.lays "TurnRingModel" "TurnRingModel" "opened" "I" ∈ g_G.2.1
    exact g_memT (g_t5 127 rfl) rfl
  · show Cond.laysFinal "TurnRingModel" "TurnRingModel" "stack" "[J" ∈ g_G.2.1
    exact g_memT (g_t5 129 rfl) rfl
  · show Cond.lays "TurnRingModel" "TurnRingModel" "top" "I" ∈ g_G.2.1
    exact g_memT (g_t5 131 rfl) rfl
  · show Cond.laysFinal "TurnRingModel" "TurnRingModel" "word" "[J" ∈ g_G.2.1
    exact g_memT (g_t5 133 rfl) rfl
  · show Cond.laysFinal "TurnRingModel" "TurnRingModel" "said" "[I" ∈ g_G.2.1
    exact g_memT (g_t5 135 rfl) rfl
  · show Cond.lays "TurnRingModel" "TurnRingModel" "x" "I" ∈ g_G.2.1
    exact g_memT (g_t5 137 rfl) rfl
  · show Cond.laysFinal "TurnRingModel" "TurnRingModel" "wasSaid" "[I" ∈ g_G.2.1
    exact g_memT (g_t5 139 rfl) rfl
  · show Cond.lays "TurnRingModel" "TurnRingModel" "undone" "I" ∈ g_G.2.1
    exact g_memT (g_t5 141 rfl) rfl
  · show Cond.laysFinal "TurnRingModel" "TurnRingModel" "kept" "[I" ∈ g_G.2.1
    exact g_memT (g_t5 143 rfl) rfl
  · show Cond.laysFinal "TurnRingModel" "TurnRingModel" "sumOf" "[I" ∈ g_G.2.1
    exact g_memT (g_t5 145 rfl) rfl
  · show Cond.laysFinal "TurnRingModel" "TurnRingModel" "faced" "[I" ∈ g_G.2.1
    exact g_memT (g_t5 147 rfl) rfl
  · show Cond.laysFinal "TurnRingModel" "TurnRingModel" "slotAt" "[I" ∈ g_G.2.1
    exact g_memT (g_t5 149 rfl) rfl
  · show Cond.laysFinal "TurnRingModel" "TurnRingModel" "dayAt" "[I" ∈ g_G.2.1
    exact g_memT (g_t5 151 rfl) rfl
  · show Cond.laysFinal "TurnRingModel" "TurnRingModel" "row" "[I" ∈ g_G.2.1
    exact g_memT (g_t5 153 rfl) rfl
  · show Cond.laysFinal "TurnRingModel" "TurnRingModel" "bestRow" "[I" ∈ g_G.2.1
    exact g_memT (g_t5 155 rfl) rfl
  · show Cond.lays "TurnRingModel" "TurnRingModel" "tradeMany" "I" ∈ g_G.2.1
    exact g_memT (g_t5 157 rfl) rfl
  · show Cond.lays "TurnRingModel" "TurnRingModel" "tradeMost" "I" ∈ g_G.2.1
    exact g_memT (g_t5 159 rfl) rfl
  · show Cond.lays "TurnRingModel" "TurnRingModel" "drawX" "J" ∈ g_G.2.1
    exact g_memT (g_t5 161 rfl) rfl
  · show Cond.laysFinal "TurnRingModel" "TurnRingModel" "images" "[I" ∈ g_G.2.1
    exact g_memT (g_t5 163 rfl) rfl
  · show Cond.laysFinal "TurnRingModel" "TurnRingModel" "imageX" "[I" ∈ g_G.2.1
    exact g_memT (g_t5 165 rfl) rfl
  · show Cond.laysFinal "TurnRingModel" "TurnRingModel" "isMade" "[Z" ∈ g_G.2.1
    exact g_memT (g_t5 167 rfl) rfl
theorem nm_Mo : ∀ a, a < 37 → ∀ b, b < 37 → a ≠ b → (tf_Mo a).2.1 ≠ (tf_Mo b).2.1 := by decide +kernel
theorem tk_Mo : ∀ k, k < 37 → parseFieldDescriptor (tf_Mo k).2.2.1 = some (ty_Mo k) := by decide +kernel
def df_Mo : List ab_V := [ab_N, ab_I 0, ab_I 0, ab_N, ab_N, ab_N, ab_N, ab_N, ab_I 0, ab_I 0, ab_I 0, ab_I 0, ab_I 0, ab_I 0, ab_I 0, ab_N, ab_I 0, ab_N, ab_I 0, ab_N, ab_N, ab_I 0, ab_N, ab_I 0, ab_N, ab_N, ab_N, ab_N, ab_N, ab_N, ab_N, ab_I 0, ab_I 0, ab_J 0, ab_N, ab_N, ab_N]
theorem dk_Mo : ∀ (as : Nat → Nat) (j : Nat), j < 37 → defaultValue (ty_Mo j) = vp_V (df_Mo.map (ab_cv as)) j := by
  intro as j hj
  rcases (by omega : j = 0 ∨ j = 1 ∨ j = 2 ∨ j = 3 ∨ j = 4 ∨ j = 5 ∨ j = 6 ∨ j = 7 ∨ j = 8 ∨ j = 9 ∨ j = 10 ∨ j = 11 ∨ j = 12 ∨ j = 13 ∨ j = 14 ∨ j = 15 ∨ j = 16 ∨ j = 17 ∨ j = 18 ∨ j = 19 ∨ j = 20 ∨ j = 21 ∨ j = 22 ∨ j = 23 ∨ j = 24 ∨ j = 25 ∨ j = 26 ∨ j = 27 ∨ j = 28 ∨ j = 29 ∨ j = 30 ∨ j = 31 ∨ j = 32 ∨ j = 33 ∨ j = 34 ∨ j = 35 ∨ j = 36) with rfl | rfl | rfl | rfl | rfl | rfl | rfl | rfl | rfl | rfl | rfl | rfl | rfl | rfl | rfl | rfl | rfl | rfl | rfl | rfl | rfl | rfl | rfl | rfl | rfl | rfl | rfl | rfl | rfl | rfl | rfl | rfl | rfl | rfl | rfl | rfl | rfl <;> rfl
abbrev mt_Tu_init : ab_M := (⟨"TurnRing", "<init>", "()V"⟩, prog_1_method_1_code, 2, none)
abbrev mt_Ta_init : ab_M := (⟨"TurnRing$Tape", "<init>", "()V"⟩, prog_11_method_1_code, 1, none)
abbrev mt_Ri_init : ab_M := (⟨"TurnRing$Ring", "<init>", "()V"⟩, prog_7_method_1_code, 1, none)
abbrev mt_Di_init : ab_M := (⟨"TurnRing$Diary", "<init>", "()V"⟩, prog_3_method_1_code, 1, none)
abbrev mt_Ac_init : ab_M := (⟨"TurnRing$ActLog", "<init>", "()V"⟩, prog_2_method_1_code, 1, none)
abbrev mt_Ru_init : ab_M := (⟨"TurnRing$RuleReader", "<init>", "()V"⟩, prog_10_method_1_code, 1, none)
abbrev mt_Ma_init : ab_M := (⟨"TurnRing$Machine", "<init>", "()V"⟩, prog_5_method_1_code, 1, none)
abbrev mt_Pl_init : ab_M := (⟨"TurnRing$Planner", "<init>", "()V"⟩, prog_6_method_1_code, 1, none)
abbrev mt_Tr_init : ab_M := (⟨"TurnRing$Trader", "<init>", "()V"⟩, prog_12_method_1_code, 1, none)
abbrev mt_Gu_init : ab_M := (⟨"TurnRing$Guesser", "<init>", "()V"⟩, prog_4_method_1_code, 1, none)
abbrev mt_Tu_feed : ab_M := (⟨"TurnRing", "feed", "(IIIII)I"⟩, prog_1_method_2_code, 6, (some .int))
abbrev mt_Ta_putBytes : ab_M := (⟨"TurnRing$Tape", "putBytes", "(I)V"⟩, prog_11_method_2_code, 3, none)
abbrev mt_Tu_end : ab_M := (⟨"TurnRing", "end", "(I)I"⟩, prog_1_method_3_code, 2, (some .int))
abbrev mt_Tu_ring : ab_M := (⟨"TurnRing", "ring", "()I"⟩, prog_1_method_4_code, 3, (some .int))
abbrev mt_Rr_readAll : ab_M := (⟨"TurnRing$RingReader", "readAll", "(LTurnRing$Tape;LTurnRing$Ring;)I"⟩, prog_8_method_2_code, 5, (some .int))
abbrev mt_Ta_begin : ab_M := (⟨"TurnRing$Tape", "begin", "(Ljava/lang/String;)V"⟩, prog_11_method_3_code, 2, none)
abbrev mt_Ta_advance : ab_M := (⟨"TurnRing$Tape", "advance", "()V"⟩, prog_11_method_5_code, 1, none)
abbrev mt_Ta_readNumber : ab_M := (⟨"TurnRing$Tape", "readNumber", "()V"⟩, prog_11_method_6_code, 2, none)
abbrev mt_Ta_readWord : ab_M := (⟨"TurnRing$Tape", "readWord", "()V"⟩, prog_11_method_7_code, 6, none)
abbrev mt_St_length : ab_M := (⟨"java/lang/String", "length", "()I"⟩, prog_18_method_54_code, 1, (some .int))
abbrev mt_St_coder : ab_M := (⟨"java/lang/String", "coder", "()B"⟩, prog_18_method_152_code, 1, (some .byte))
abbrev mt_St_charAt : ab_M := (⟨"java/lang/String", "charAt", "(I)C"⟩, prog_18_method_56_code, 2, (some .char))
abbrev mt_St_isLatin1 : ab_M := (⟨"java/lang/String", "isLatin1", "()Z"⟩, prog_18_method_154_code, 1, (some .boolean))
abbrev mt_Sl_charAt : ab_M := (⟨"java/lang/StringLatin1", "charAt", "([BI)C"⟩, prog_19_method_2_code, 2, (some .char))
abbrev mt_St_checkIndex : ab_M := (⟨"java/lang/String", "checkIndex", "(II)V"⟩, prog_18_method_155_code, 2, none)
abbrev mt_Zz_checkIndex : ab_M := (⟨"jdk/internal/util/Preconditions", "checkIndex", "(IILjava/util/function/BiFunction;)I"⟩, prog_23_method_11_code, 3, (some .int))
abbrev mt_Ta_readSign : ab_M := (⟨"TurnRing$Tape", "readSign", "()V"⟩, prog_11_method_8_code, 2, none)
abbrev mt_Ri_clear : ab_M := (⟨"TurnRing$Ring", "clear", "()V"⟩, prog_7_method_2_code, 1, none)
abbrev mt_Ar_fill_AIIV : ab_M := (⟨"java/util/Arrays", "fill", "([II)V"⟩, prog_22_method_103_code, 4, none)
abbrev mt_Ar_fill_AJJV : ab_M := (⟨"java/util/Arrays", "fill", "([JJ)V"⟩, prog_22_method_101_code, 5, none)
abbrev mt_Ta_fail : ab_M := (⟨"TurnRing$Tape", "fail", "(I)V"⟩, prog_11_method_4_code, 2, none)
abbrev mt_Rr_mayFollow : ab_M := (⟨"TurnRing$RingReader", "mayFollow", "(LTurnRing$Ring;II)Z"⟩, prog_8_method_3_code, 3, (some .boolean))
abbrev mt_Rr_readRest : ab_M := (⟨"TurnRing$RingReader", "readRest", "(LTurnRing$Tape;LTurnRing$Ring;I)V"⟩, prog_8_method_4_code, 3, none)
abbrev mt_Ta_takeNumber : ab_M := (⟨"TurnRing$Tape", "takeNumber", "(II)I"⟩, prog_11_method_9_code, 4, (some .int))
abbrev mt_Rr_readHouse : ab_M := (⟨"TurnRing$RingReader", "readHouse", "(LTurnRing$Tape;LTurnRing$Ring;)V"⟩, prog_8_method_5_code, 4, none)
abbrev mt_Ri_slotTaken : ab_M := (⟨"TurnRing$Ring", "slotTaken", "(I)Z"⟩, prog_7_method_4_code, 3, (some .boolean))
abbrev mt_Ri_addHouse : ab_M := (⟨"TurnRing$Ring", "addHouse", "(II)V"⟩, prog_7_method_5_code, 3, none)
abbrev mt_Rr_readSight : ab_M := (⟨"TurnRing$RingReader", "readSight", "(LTurnRing$Tape;LTurnRing$Ring;)V"⟩, prog_8_method_6_code, 6, none)
abbrev mt_Ri_addSight : ab_M := (⟨"TurnRing$Ring", "addSight", "(IIII)V"⟩, prog_7_method_6_code, 6, none)
abbrev mt_Rr_readLiking : ab_M := (⟨"TurnRing$RingReader", "readLiking", "(LTurnRing$Tape;LTurnRing$Ring;I)V"⟩, prog_8_method_7_code, 6, none)
abbrev mt_Rr_readGate : ab_M := (⟨"TurnRing$RingReader", "readGate", "(LTurnRing$Tape;LTurnRing$Ring;)V"⟩, prog_8_method_8_code, 3, none)
abbrev mt_Rr_readRate : ab_M := (⟨"TurnRing$RingReader", "readRate", "(LTurnRing$Tape;LTurnRing$Ring;)V"⟩, prog_8_method_9_code, 5, none)
abbrev mt_Ri_setRates : ab_M := (⟨"TurnRing$Ring", "setRates", "(III)V"⟩, prog_7_method_7_code, 5, none)
abbrev mt_Ac_forget : ab_M := (⟨"TurnRing$ActLog", "forget", "()V"⟩, prog_2_method_2_code, 1, none)
abbrev mt_Tu_rule : ab_M := (⟨"TurnRing", "rule", "()I"⟩, prog_1_method_5_code, 2, (some .int))
abbrev mt_Ru_readAll : ab_M := (⟨"TurnRing$RuleReader", "readAll", "(LTurnRing$Tape;)I"⟩, prog_10_method_2_code, 5, (some .int))
abbrev mt_Ru_readSum : ab_M := (⟨"TurnRing$RuleReader", "readSum", "(LTurnRing$Tape;)V"⟩, prog_10_method_8_code, 6, none)
abbrev mt_Ru_checkValue : ab_M := (⟨"TurnRing$RuleReader", "checkValue", "(LTurnRing$Tape;)V"⟩, prog_10_method_9_code, 3, none)
abbrev mt_Ru_countToken : ab_M := (⟨"TurnRing$RuleReader", "countToken", "(LTurnRing$Tape;)V"⟩, prog_10_method_5_code, 2, none)
abbrev mt_Ru_emit : ab_M := (⟨"TurnRing$RuleReader", "emit", "(I)V"⟩, prog_10_method_4_code, 2, none)
abbrev mt_Ru_timingOf : ab_M := (⟨"TurnRing$RuleReader", "timingOf", "(I)I"⟩, prog_10_method_11_code, 1, (some .int))
abbrev mt_Ru_addingOf : ab_M := (⟨"TurnRing$RuleReader", "addingOf", "(I)I"⟩, prog_10_method_10_code, 1, (some .int))
abbrev mt_Ru_readTest : ab_M := (⟨"TurnRing$RuleReader", "readTest", "(LTurnRing$Tape;I)V"⟩, prog_10_method_6_code, 7, none)
abbrev mt_Ru_readFact : ab_M := (⟨"TurnRing$RuleReader", "readFact", "(LTurnRing$Tape;I)V"⟩, prog_10_method_7_code, 5, none)
abbrev mt_Ru_comparisonOf : ab_M := (⟨"TurnRing$RuleReader", "comparisonOf", "(I)I"⟩, prog_10_method_12_code, 1, (some .int))
abbrev mt_Ru_codeRead : ab_M := (⟨"TurnRing$RuleReader", "codeRead", "()[I"⟩, prog_10_method_3_code, 1, (Option.some (FieldType.array FieldType.int)))
abbrev mt_Ar_copyOf : ab_M := (⟨"java/util/Arrays", "copyOf", "([II)[I"⟩, prog_22_method_123_code, 3, (Option.some (FieldType.array FieldType.int)))
abbrev mt_Ro_init : ab_M := (⟨"TurnRing$Rule", "<init>", "([I)V"⟩, prog_9_method_1_code, 2, none)
abbrev mt_Tu_house : ab_M := (⟨"TurnRing", "house", "(II)I"⟩, prog_1_method_6_code, 3, (some .int))
abbrev mt_Tu_hasHouse : ab_M := (⟨"TurnRing", "hasHouse", "(I)Z"⟩, prog_1_method_37_code, 2, (some .boolean))
abbrev mt_Ri_facing : ab_M := (⟨"TurnRing$Ring", "facing", "(I)I"⟩, prog_7_method_9_code, 2, (some .int))
abbrev mt_Tu_facedBy : ab_M := (⟨"TurnRing", "facedBy", "(II)I"⟩, prog_1_method_44_code, 3, (some .int))
abbrev mt_Ri_sortsAt : ab_M := (⟨"TurnRing$Ring", "sortsAt", "(II)I"⟩, prog_7_method_11_code, 3, (some .int))
abbrev mt_Ri_likesNow : ab_M := (⟨"TurnRing$Ring", "likesNow", "(I)I"⟩, prog_7_method_13_code, 2, (some .int))
abbrev mt_Ri_likesIn : ab_M := (⟨"TurnRing$Ring", "likesIn", "(IIII)I"⟩, prog_7_method_12_code, 8, (some .int))
abbrev mt_Ri_isGate : ab_M := (⟨"TurnRing$Ring", "isGate", "(I)Z"⟩, prog_7_method_8_code, 2, (some .boolean))
abbrev mt_Ri_wantsStay : ab_M := (⟨"TurnRing$Ring", "wantsStay", "(I)Z"⟩, prog_7_method_19_code, 3, (some .boolean))
abbrev mt_Tu_wrapped : ab_M := (⟨"TurnRing", "wrapped", "(I)I"⟩, prog_1_method_43_code, 2, (some .int))
abbrev mt_Tu_direction : ab_M := (⟨"TurnRing", "direction", "(II)I"⟩, prog_1_method_7_code, 3, (some .int))
abbrev mt_Tu_isDirection : ab_M := (⟨"TurnRing", "isDirection", "(I)Z"⟩, prog_1_method_39_code, 1, (some .boolean))
abbrev mt_Ri_houseFacing : ab_M := (⟨"TurnRing$Ring", "houseFacing", "(I)I"⟩, prog_7_method_10_code, 3, (some .int))
abbrev mt_Tu_rateOf : ab_M := (⟨"TurnRing", "rateOf", "(I)I"⟩, prog_1_method_8_code, 2, (some .int))
abbrev mt_Tu_isHour : ab_M := (⟨"TurnRing", "isHour", "(I)Z"⟩, prog_1_method_40_code, 1, (some .boolean))
abbrev mt_Tu_worn : ab_M := (⟨"TurnRing", "worn", "(I)I"⟩, prog_1_method_9_code, 2, (some .int))
abbrev mt_Tu_count : ab_M := (⟨"TurnRing", "count", "(I)I"⟩, prog_1_method_10_code, 2, (some .int))
abbrev mt_Ri_allLike : ab_M := (⟨"TurnRing$Ring", "allLike", "(II)I"⟩, prog_7_method_14_code, 5, (some .int))
abbrev mt_Ri_allVotes : ab_M := (⟨"TurnRing$Ring", "allVotes", "()I"⟩, prog_7_method_21_code, 1, (some .int))
abbrev mt_Ri_votesOf : ab_M := (⟨"TurnRing$Ring", "votesOf", "(I)I"⟩, prog_7_method_22_code, 4, (some .int))
abbrev mt_Tu_hour : ab_M := (⟨"TurnRing", "hour", "()I"⟩, prog_1_method_11_code, 3, (some .int))
abbrev mt_Ri_hoursBehind : ab_M := (⟨"TurnRing$Ring", "hoursBehind", "(I)I"⟩, prog_7_method_26_code, 2, (some .int))
abbrev mt_Tu_lastHour : ab_M := (⟨"TurnRing", "lastHour", "()I"⟩, prog_1_method_42_code, 0, (some .int))
abbrev mt_Ri_passHour : ab_M := (⟨"TurnRing$Ring", "passHour", "(I)I"⟩, prog_7_method_27_code, 5, (some .int))
abbrev mt_Ac_keep : ab_M := (⟨"TurnRing$ActLog", "keep", "(III)V"⟩, prog_2_method_3_code, 4, none)
abbrev mt_Tu_rate : ab_M := (⟨"TurnRing", "rate", "(II)I"⟩, prog_1_method_12_code, 4, (some .int))
abbrev mt_Tu_swap : ab_M := (⟨"TurnRing", "swap", "(II)Z"⟩, prog_1_method_13_code, 3, (some .boolean))
abbrev mt_Ri_swapSlots : ab_M := (⟨"TurnRing$Ring", "swapSlots", "(II)V"⟩, prog_7_method_29_code, 4, none)
abbrev mt_Tu_stop : ab_M := (⟨"TurnRing", "stop", "()Z"⟩, prog_1_method_14_code, 1, (some .boolean))
abbrev mt_Tu_undo : ab_M := (⟨"TurnRing", "undo", "()I"⟩, prog_1_method_15_code, 1, (some .int))
abbrev mt_Ac_undoLast : ab_M := (⟨"TurnRing$ActLog", "undoLast", "(LTurnRing$Ring;)Z"⟩, prog_2_method_4_code, 4, (some .boolean))
abbrev mt_Ri_takeHourBack : ab_M := (⟨"TurnRing$Ring", "takeHourBack", "(IZ)V"⟩, prog_7_method_28_code, 5, none)
abbrev mt_Tu_run : ab_M := (⟨"TurnRing", "run", "(II)I"⟩, prog_1_method_16_code, 4, (some .int))
abbrev mt_Tu_hasRule : ab_M := (⟨"TurnRing", "hasRule", "(I)Z"⟩, prog_1_method_38_code, 2, (some .boolean))
abbrev mt_Ma_rateBy : ab_M := (⟨"TurnRing$Machine", "rateBy", "(LTurnRing$Rule;LTurnRing$Ring;)I"⟩, prog_5_method_2_code, 9, (some .int))
abbrev mt_Ma_push : ab_M := (⟨"TurnRing$Machine", "push", "(J)V"⟩, prog_5_method_4_code, 3, none)
abbrev mt_Ma_wordOf : ab_M := (⟨"TurnRing$Machine", "wordOf", "(ILTurnRing$Ring;)I"⟩, prog_5_method_8_code, 2, (some .int))
abbrev mt_Ri_bestLike : ab_M := (⟨"TurnRing$Ring", "bestLike", "()I"⟩, prog_7_method_15_code, 3, (some .int))
abbrev mt_Ri_leastLike : ab_M := (⟨"TurnRing$Ring", "leastLike", "()I"⟩, prog_7_method_16_code, 3, (some .int))
abbrev mt_Ri_stayVotes : ab_M := (⟨"TurnRing$Ring", "stayVotes", "()I"⟩, prog_7_method_20_code, 3, (some .int))
abbrev mt_Ri_atGates : ab_M := (⟨"TurnRing$Ring", "atGates", "()I"⟩, prog_7_method_17_code, 3, (some .int))
abbrev mt_Ma_pop : ab_M := (⟨"TurnRing$Machine", "pop", "()J"⟩, prog_5_method_5_code, 1, (some .long))
abbrev mt_Ma_truth : ab_M := (⟨"TurnRing$Machine", "truth", "(Z)J"⟩, prog_5_method_6_code, 1, (some .long))
abbrev mt_Ma_held : ab_M := (⟨"TurnRing$Machine", "held", "(J)I"⟩, prog_5_method_3_code, 2, (some .int))
abbrev mt_Ma_joined : ab_M := (⟨"TurnRing$Machine", "joined", "(IJJ)J"⟩, prog_5_method_7_code, 5, (some .long))
abbrev mt_Tu_seed : ab_M := (⟨"TurnRing", "seed", "(I)I"⟩, prog_1_method_17_code, 3, (some .int))
abbrev mt_Tu_image : ab_M := (⟨"TurnRing", "image", "(I)I"⟩, prog_1_method_18_code, 2, (some .int))
abbrev mt_Ri_copyFrom : ab_M := (⟨"TurnRing$Ring", "copyFrom", "(LTurnRing$Ring;)V"⟩, prog_7_method_3_code, 2, none)
abbrev mt_Di_copyFrom : ab_M := (⟨"TurnRing$Diary", "copyFrom", "(LTurnRing$Diary;)V"⟩, prog_3_method_2_code, 2, none)
abbrev mt_Tu_back : ab_M := (⟨"TurnRing", "back", "(I)I"⟩, prog_1_method_19_code, 2, (some .int))
abbrev mt_Tu_faces : ab_M := (⟨"TurnRing", "faces", "(II)I"⟩, prog_1_method_20_code, 3, (some .int))
abbrev mt_Ri_angleOn : ab_M := (⟨"TurnRing$Ring", "angleOn", "(I)I"⟩, prog_7_method_25_code, 4, (some .int))
abbrev mt_Ri_angleBehind : ab_M := (⟨"TurnRing$Ring", "angleBehind", "(II)I"⟩, prog_7_method_24_code, 3, (some .int))
abbrev mt_Ri_hourOn : ab_M := (⟨"TurnRing$Ring", "hourOn", "(I)I"⟩, prog_7_method_23_code, 2, (some .int))
abbrev mt_Tu_sees : ab_M := (⟨"TurnRing", "sees", "(II)I"⟩, prog_1_method_21_code, 3, (some .int))
abbrev mt_Tu_day : ab_M := (⟨"TurnRing", "day", "(I)I"⟩, prog_1_method_22_code, 2, (some .int))
abbrev mt_Ri_dayIn : ab_M := (⟨"TurnRing$Ring", "dayIn", "(II)I"⟩, prog_7_method_18_code, 6, (some .int))
abbrev mt_Tu_errand : ab_M := (⟨"TurnRing", "errand", "(IIII)I"⟩, prog_1_method_23_code, 10, (some .int))
abbrev mt_Tu_wayBetween : ab_M := (⟨"TurnRing", "wayBetween", "(II)I"⟩, prog_1_method_24_code, 3, (some .int))
abbrev mt_Tu_stay : ab_M := (⟨"TurnRing", "stay", "(I)I"⟩, prog_1_method_25_code, 4, (some .int))
abbrev mt_Tu_swings : ab_M := (⟨"TurnRing", "swings", "(I)I"⟩, prog_1_method_26_code, 6, (some .int))
abbrev mt_Tu_plan : ab_M := (⟨"TurnRing", "plan", "(IZI)I"⟩, prog_1_method_27_code, 4, (some .int))
abbrev mt_Pl_findBest : ab_M := (⟨"TurnRing$Planner", "findBest", "(LTurnRing$Ring;IZ)V"⟩, prog_6_method_2_code, 7, none)
abbrev mt_Pl_weighFrom : ab_M := (⟨"TurnRing$Planner", "weighFrom", "(LTurnRing$Ring;II)V"⟩, prog_6_method_3_code, 6, none)
abbrev mt_Pl_leastHad : ab_M := (⟨"TurnRing$Planner", "leastHad", "(LTurnRing$Ring;I)I"⟩, prog_6_method_6_code, 5, (some .int))
abbrev mt_Pl_allHad : ab_M := (⟨"TurnRing$Planner", "allHad", "(LTurnRing$Ring;I)I"⟩, prog_6_method_5_code, 5, (some .int))
abbrev mt_Pl_nextRow : ab_M := (⟨"TurnRing$Planner", "nextRow", "(I)I"⟩, prog_6_method_4_code, 3, (some .int))
abbrev mt_Tu_trade : ab_M := (⟨"TurnRing", "trade", "(I)I"⟩, prog_1_method_28_code, 2, (some .int))
abbrev mt_Tr_findRows : ab_M := (⟨"TurnRing$Trader", "findRows", "(LTurnRing$Ring;)V"⟩, prog_12_method_2_code, 5, none)
abbrev mt_Tr_sortSlots : ab_M := (⟨"TurnRing$Trader", "sortSlots", "(LTurnRing$Ring;)V"⟩, prog_12_method_3_code, 4, none)
abbrev mt_Tr_weighSet : ab_M := (⟨"TurnRing$Trader", "weighSet", "(II)V"⟩, prog_12_method_6_code, 6, none)
abbrev mt_In_bitCount : ab_M := (⟨"java/lang/Integer", "bitCount", "(I)I"⟩, prog_16_method_49_code, 1, (some .int))
abbrev mt_Tr_mayTake : ab_M := (⟨"TurnRing$Trader", "mayTake", "(III)Z"⟩, prog_12_method_4_code, 4, (some .boolean))
abbrev mt_Tr_sumWith : ab_M := (⟨"TurnRing$Trader", "sumWith", "(III)I"⟩, prog_12_method_5_code, 4, (some .int))
abbrev mt_Tr_firstSlotOf : ab_M := (⟨"TurnRing$Trader", "firstSlotOf", "(LTurnRing$Ring;I)I"⟩, prog_12_method_7_code, 7, (some .int))
abbrev mt_Tr_firstChoice : ab_M := (⟨"TurnRing$Trader", "firstChoice", "(III)I"⟩, prog_12_method_8_code, 5, (some .int))
abbrev mt_Tu_spare : ab_M := (⟨"TurnRing", "spare", "(III)I"⟩, prog_1_method_29_code, 4, (some .int))
abbrev mt_Ri_mostWornBehind : ab_M := (⟨"TurnRing$Ring", "mostWornBehind", "(I)I"⟩, prog_7_method_30_code, 5, (some .int))
abbrev mt_Tu_apart : ab_M := (⟨"TurnRing", "apart", "(IIIII)I"⟩, prog_1_method_30_code, 6, (some .int))
abbrev mt_Tu_isSort : ab_M := (⟨"TurnRing", "isSort", "(I)Z"⟩, prog_1_method_41_code, 1, (some .boolean))
abbrev mt_Tu_hoursSeen : ab_M := (⟨"TurnRing", "hoursSeen", "(LTurnRing$Rule;III)I"⟩, prog_1_method_31_code, 7, (some .int))
abbrev mt_Tu_diary : ab_M := (⟨"TurnRing", "diary", "(IIIZ)I"⟩, prog_1_method_32_code, 5, (some .int))
abbrev mt_Di_write : ab_M := (⟨"TurnRing$Diary", "write", "(IIIZ)V"⟩, prog_3_method_3_code, 5, none)
abbrev mt_Tu_turned : ab_M := (⟨"TurnRing", "turned", "(I)I"⟩, prog_1_method_33_code, 2, (some .int))
abbrev mt_Gu_findTurns : ab_M := (⟨"TurnRing$Guesser", "findTurns", "(LTurnRing$Ring;)V"⟩, prog_4_method_2_code, 4, none)
abbrev mt_Gu_fitsDiary : ab_M := (⟨"TurnRing$Guesser", "fitsDiary", "(LTurnRing$Ring;II)Z"⟩, prog_4_method_4_code, 6, (some .boolean))
abbrev mt_Gu_sortsSeen : ab_M := (⟨"TurnRing$Guesser", "sortsSeen", "(LTurnRing$Ring;IIII)I"⟩, prog_4_method_3_code, 6, (some .int))
abbrev mt_Tu_look : ab_M := (⟨"TurnRing", "look", "(II)I"⟩, prog_1_method_34_code, 3, (some .int))
abbrev mt_Gu_findLook : ab_M := (⟨"TurnRing$Guesser", "findLook", "(LTurnRing$Ring;I)V"⟩, prog_4_method_5_code, 7, none)
abbrev mt_Tu_days : ab_M := (⟨"TurnRing", "days", "(IIII)I"⟩, prog_1_method_35_code, 12, (some .int))
abbrev mt_Tu_nextDraw : ab_M := (⟨"TurnRing", "nextDraw", "(I)I"⟩, prog_1_method_36_code, 1, (some .int))
abbrev mt_Mo_init : ab_M := (⟨"TurnRingModel", "<init>", "()V"⟩, prog_14_method_1_code, 1, none)
abbrev mt_Mo_feed : ab_M := (⟨"TurnRingModel", "feed", "(IIIII)I"⟩, prog_14_method_6_code, 6, (some .int))
abbrev mt_Mo_four : ab_M := (⟨"TurnRingModel", "four", "(I)V"⟩, prog_14_method_5_code, 3, none)
abbrev mt_Mo_end : ab_M := (⟨"TurnRingModel", "end", "(I)I"⟩, prog_14_method_7_code, 2, (some .int))
abbrev mt_Mo_rule : ab_M := (⟨"TurnRingModel", "rule", "()I"⟩, prog_14_method_42_code, 1, (some .int))
abbrev mt_Mo_readsAll : ab_M := (⟨"TurnRingModel", "readsAll", "()Z"⟩, prog_14_method_41_code, 2, (some .boolean))
abbrev mt_Mo_clauseHere : ab_M := (⟨"TurnRingModel", "clauseHere", "()Z"⟩, prog_14_method_40_code, 3, (some .boolean))
abbrev mt_Mo_see : ab_M := (⟨"TurnRingModel", "see", "()I"⟩, prog_14_method_9_code, 1, (some .int))
abbrev mt_Mo_isRingWord : ab_M := (⟨"TurnRingModel", "isRingWord", "()Z"⟩, prog_14_method_39_code, 2, (some .boolean))
abbrev mt_Mo_isWord : ab_M := (⟨"TurnRingModel", "isWord", "(J)Z"⟩, prog_14_method_12_code, 6, (some .boolean))
abbrev mt_Mo_isLetter : ab_M := (⟨"TurnRingModel", "isLetter", "(I)Z"⟩, prog_14_method_11_code, 2, (some .boolean))
abbrev mt_Mo_fails : ab_M := (⟨"TurnRingModel", "fails", "(II)Z"⟩, prog_14_method_8_code, 3, (some .boolean))
abbrev mt_Mo_ringLineHere : ab_M := (⟨"TurnRingModel", "ringLineHere", "(I)Z"⟩, prog_14_method_38_code, 2, (some .boolean))
abbrev mt_Mo_isRingHere : ab_M := (⟨"TurnRingModel", "isRingHere", "(I)Z"⟩, prog_14_method_32_code, 2, (some .boolean))
abbrev mt_Mo_passWord : ab_M := (⟨"TurnRingModel", "passWord", "()V"⟩, prog_14_method_13_code, 1, none)
abbrev mt_Mo_cellHere : ab_M := (⟨"TurnRingModel", "cellHere", "(III)Z"⟩, prog_14_method_31_code, 4, (some .boolean))
abbrev mt_Mo_numberHere : ab_M := (⟨"TurnRingModel", "numberHere", "(II)Z"⟩, prog_14_method_15_code, 5, (some .boolean))
abbrev mt_Mo_isDigit : ab_M := (⟨"TurnRingModel", "isDigit", "(I)Z"⟩, prog_14_method_10_code, 2, (some .boolean))
abbrev mt_Mo_in : ab_M := (⟨"TurnRingModel", "in", "(JJJ)Z"⟩, prog_14_method_2_code, 6, (some .boolean))
abbrev mt_Mo_isHouseHere : ab_M := (⟨"TurnRingModel", "isHouseHere", "(I)Z"⟩, prog_14_method_33_code, 5, (some .boolean))
abbrev mt_Mo_isSightHere : ab_M := (⟨"TurnRingModel", "isSightHere", "(I)Z"⟩, prog_14_method_34_code, 3, (some .boolean))
abbrev mt_Mo_isLikeHere : ab_M := (⟨"TurnRingModel", "isLikeHere", "(I)Z"⟩, prog_14_method_35_code, 3, (some .boolean))
abbrev mt_Mo_isGateHere : ab_M := (⟨"TurnRingModel", "isGateHere", "()Z"⟩, prog_14_method_36_code, 1, (some .boolean))
abbrev mt_Mo_isRateHere : ab_M := (⟨"TurnRingModel", "isRateHere", "()Z"⟩, prog_14_method_37_code, 4, (some .boolean))
abbrev mt_Mo_isTurnHere : ab_M := (⟨"TurnRingModel", "isTurnHere", "()Z"⟩, prog_14_method_30_code, 2, (some .boolean))
abbrev mt_Mo_sum : ab_M := (⟨"TurnRingModel", "sum", "()Z"⟩, prog_14_method_24_code, 2, (some .boolean))
abbrev mt_Mo_term : ab_M := (⟨"TurnRingModel", "term", "()Z"⟩, prog_14_method_23_code, 2, (some .boolean))
abbrev mt_Mo_value : ab_M := (⟨"TurnRingModel", "value", "()Z"⟩, prog_14_method_22_code, 3, (some .boolean))
abbrev mt_Mo_makes : ab_M := (⟨"TurnRingModel", "makes", "(I)Z"⟩, prog_14_method_18_code, 2, (some .boolean))
abbrev mt_Mo_puts : ab_M := (⟨"TurnRingModel", "puts", "(II)V"⟩, prog_14_method_17_code, 3, none)
abbrev mt_Mo_wordHere : ab_M := (⟨"TurnRingModel", "wordHere", "()I"⟩, prog_14_method_16_code, 1, (some .int))
abbrev mt_Mo_takesWord : ab_M := (⟨"TurnRingModel", "takesWord", "(J)Z"⟩, prog_14_method_14_code, 3, (some .boolean))
abbrev mt_Mo_tested : ab_M := (⟨"TurnRingModel", "tested", "()Z"⟩, prog_14_method_29_code, 3, (some .boolean))
abbrev mt_Mo_fact : ab_M := (⟨"TurnRingModel", "fact", "()Z"⟩, prog_14_method_26_code, 3, (some .boolean))
abbrev mt_Mo_opens : ab_M := (⟨"TurnRingModel", "opens", "(I)Z"⟩, prog_14_method_19_code, 2, (some .boolean))
abbrev mt_Mo_compare : ab_M := (⟨"TurnRingModel", "compare", "()Z"⟩, prog_14_method_25_code, 5, (some .boolean))
abbrev mt_Mo_closes : ab_M := (⟨"TurnRingModel", "closes", "()V"⟩, prog_14_method_28_code, 1, none)
abbrev mt_Mo_settles : ab_M := (⟨"TurnRingModel", "settles", "(I)V"⟩, prog_14_method_21_code, 2, none)
abbrev mt_Mo_strength : ab_M := (⟨"TurnRingModel", "strength", "(I)I"⟩, prog_14_method_20_code, 1, (some .int))
abbrev mt_Mo_isInside : ab_M := (⟨"TurnRingModel", "isInside", "()Z"⟩, prog_14_method_27_code, 2, (some .boolean))
abbrev mt_Mo_ring : ab_M := (⟨"TurnRingModel", "ring", "()I"⟩, prog_14_method_43_code, 2, (some .int))
abbrev mt_Mo_house : ab_M := (⟨"TurnRingModel", "house", "(II)I"⟩, prog_14_method_62_code, 3, (some .int))
abbrev mt_Mo_isHouse : ab_M := (⟨"TurnRingModel", "isHouse", "(I)Z"⟩, prog_14_method_50_code, 2, (some .boolean))
abbrev mt_Mo_facesOf : ab_M := (⟨"TurnRingModel", "facesOf", "(I)I"⟩, prog_14_method_53_code, 2, (some .int))
abbrev mt_Mo_round : ab_M := (⟨"TurnRingModel", "round", "(I)I"⟩, prog_14_method_4_code, 2, (some .int))
abbrev mt_Mo_sortsAt : ab_M := (⟨"TurnRingModel", "sortsAt", "(II)I"⟩, prog_14_method_51_code, 6, (some .int))
abbrev mt_Mo_likesOf : ab_M := (⟨"TurnRingModel", "likesOf", "(I)I"⟩, prog_14_method_54_code, 2, (some .int))
abbrev mt_Mo_likesAt : ab_M := (⟨"TurnRingModel", "likesAt", "(III)I"⟩, prog_14_method_52_code, 7, (some .int))
abbrev mt_Mo_isOf : ab_M := (⟨"TurnRingModel", "isOf", "(II)Z"⟩, prog_14_method_3_code, 2, (some .boolean))
abbrev mt_Mo_wantsStay : ab_M := (⟨"TurnRingModel", "wantsStay", "(I)Z"⟩, prog_14_method_56_code, 2, (some .boolean))
abbrev mt_Mo_rateNow : ab_M := (⟨"TurnRingModel", "rateNow", "()I"⟩, prog_14_method_55_code, 1, (some .int))
abbrev mt_Mo_direction : ab_M := (⟨"TurnRingModel", "direction", "(II)I"⟩, prog_14_method_63_code, 4, (some .int))
abbrev mt_Mo_isRing : ab_M := (⟨"TurnRingModel", "isRing", "()Z"⟩, prog_14_method_49_code, 1, (some .boolean))
abbrev mt_Mo_rateOf : ab_M := (⟨"TurnRingModel", "rateOf", "(I)I"⟩, prog_14_method_64_code, 2, (some .int))
abbrev mt_Mo_worn : ab_M := (⟨"TurnRingModel", "worn", "(I)I"⟩, prog_14_method_65_code, 2, (some .int))
abbrev mt_Mo_undo : ab_M := (⟨"TurnRingModel", "undo", "()I"⟩, prog_14_method_71_code, 2, (some .int))
abbrev mt_Mo_hour : ab_M := (⟨"TurnRingModel", "hour", "()I"⟩, prog_14_method_73_code, 1, (some .int))
abbrev mt_Mo_canGo : ab_M := (⟨"TurnRingModel", "canGo", "(I)Z"⟩, prog_14_method_72_code, 2, (some .boolean))
abbrev mt_Mo_keepsAct : ab_M := (⟨"TurnRingModel", "keepsAct", "()V"⟩, prog_14_method_70_code, 2, none)
abbrev mt_Mo_passes : ab_M := (⟨"TurnRingModel", "passes", "()I"⟩, prog_14_method_69_code, 1, (some .int))
abbrev mt_Mo_passesAt : ab_M := (⟨"TurnRingModel", "passesAt", "(I)I"⟩, prog_14_method_68_code, 3, (some .int))
abbrev mt_Mo_turns : ab_M := (⟨"TurnRingModel", "turns", "(I)V"⟩, prog_14_method_66_code, 4, none)
abbrev mt_Mo_goesOn : ab_M := (⟨"TurnRingModel", "goesOn", "()V"⟩, prog_14_method_67_code, 1, none)
abbrev mt_Mo_rate : ab_M := (⟨"TurnRingModel", "rate", "(II)I"⟩, prog_14_method_74_code, 4, (some .int))
abbrev mt_Mo_swap : ab_M := (⟨"TurnRingModel", "swap", "(II)Z"⟩, prog_14_method_75_code, 4, (some .boolean))
abbrev mt_Mo_stop : ab_M := (⟨"TurnRingModel", "stop", "()Z"⟩, prog_14_method_76_code, 1, (some .boolean))
abbrev mt_Mo_run : ab_M := (⟨"TurnRingModel", "run", "(II)I"⟩, prog_14_method_80_code, 4, (some .int))
abbrev mt_Mo_isRule : ab_M := (⟨"TurnRingModel", "isRule", "(I)Z"⟩, prog_14_method_44_code, 2, (some .boolean))
abbrev mt_Mo_passesBy : ab_M := (⟨"TurnRingModel", "passesBy", "(I)V"⟩, prog_14_method_79_code, 4, none)
abbrev mt_Mo_words : ab_M := (⟨"TurnRingModel", "words", "()V"⟩, prog_14_method_77_code, 5, none)
abbrev mt_Mo_allLike : ab_M := (⟨"TurnRingModel", "allLike", "()I"⟩, prog_14_method_57_code, 3, (some .int))
abbrev mt_Mo_whoStay : ab_M := (⟨"TurnRingModel", "whoStay", "()I"⟩, prog_14_method_60_code, 3, (some .int))
abbrev mt_Mo_votesOf : ab_M := (⟨"TurnRingModel", "votesOf", "(I)I"⟩, prog_14_method_58_code, 4, (some .int))
abbrev mt_Mo_everyHouse : ab_M := (⟨"TurnRingModel", "everyHouse", "()I"⟩, prog_14_method_59_code, 1, (some .int))
abbrev mt_Mo_atGates : ab_M := (⟨"TurnRingModel", "atGates", "()I"⟩, prog_14_method_61_code, 3, (some .int))
abbrev mt_Mo_summedBy : ab_M := (⟨"TurnRingModel", "summedBy", "(I)J"⟩, prog_14_method_78_code, 4, (some .long))
abbrev mt_Mo_reckons : ab_M := (⟨"TurnRingModel", "reckons", "(III)J"⟩, prog_14_method_48_code, 11, (some .long))
abbrev mt_Mo_push : ab_M := (⟨"TurnRingModel", "push", "(J)V"⟩, prog_14_method_45_code, 3, none)
abbrev mt_Mo_pop : ab_M := (⟨"TurnRingModel", "pop", "()J"⟩, prog_14_method_46_code, 1, (some .long))
abbrev mt_Mo_one : ab_M := (⟨"TurnRingModel", "one", "(IJJ)J"⟩, prog_14_method_47_code, 5, (some .long))
abbrev mt_Mo_faces : ab_M := (⟨"TurnRingModel", "faces", "(II)I"⟩, prog_14_method_83_code, 4, (some .int))
abbrev mt_Mo_keeps : ab_M := (⟨"TurnRingModel", "keeps", "()V"⟩, prog_14_method_81_code, 2, none)
abbrev mt_Mo_laysBack : ab_M := (⟨"TurnRingModel", "laysBack", "()V"⟩, prog_14_method_82_code, 2, none)
abbrev mt_Mo_sees : ab_M := (⟨"TurnRingModel", "sees", "(II)I"⟩, prog_14_method_84_code, 4, (some .int))
abbrev mt_Mo_day : ab_M := (⟨"TurnRingModel", "day", "(I)I"⟩, prog_14_method_86_code, 2, (some .int))
abbrev mt_Mo_dayIn : ab_M := (⟨"TurnRingModel", "dayIn", "(II)I"⟩, prog_14_method_85_code, 5, (some .int))
abbrev mt_Mo_plan : ab_M := (⟨"TurnRingModel", "plan", "(IZI)I"⟩, prog_14_method_90_code, 8, (some .int))
abbrev mt_Mo_third : ab_M := (⟨"TurnRingModel", "third", "(I)I"⟩, prog_14_method_87_code, 3, (some .int))
abbrev mt_Mo_worthOf : ab_M := (⟨"TurnRingModel", "worthOf", "(IIZ)I"⟩, prog_14_method_89_code, 7, (some .int))
abbrev mt_Mo_digitOf : ab_M := (⟨"TurnRingModel", "digitOf", "(III)I"⟩, prog_14_method_88_code, 3, (some .int))
abbrev mt_Mo_errand : ab_M := (⟨"TurnRingModel", "errand", "(IIII)I"⟩, prog_14_method_93_code, 7, (some .int))
abbrev mt_Mo_backFrom : ab_M := (⟨"TurnRingModel", "backFrom", "(III)I"⟩, prog_14_method_92_code, 5, (some .int))
abbrev mt_Mo_way : ab_M := (⟨"TurnRingModel", "way", "(II)I"⟩, prog_14_method_91_code, 3, (some .int))
abbrev mt_Mo_stay : ab_M := (⟨"TurnRingModel", "stay", "(I)I"⟩, prog_14_method_94_code, 3, (some .int))
abbrev mt_Mo_swings : ab_M := (⟨"TurnRingModel", "swings", "(I)I"⟩, prog_14_method_95_code, 5, (some .int))
abbrev mt_Mo_trade : ab_M := (⟨"TurnRingModel", "trade", "(I)I"⟩, prog_14_method_100_code, 2, (some .int))
abbrev mt_Mo_fillsDays : ab_M := (⟨"TurnRingModel", "fillsDays", "()V"⟩, prog_14_method_96_code, 4, none)
abbrev mt_Mo_gathersTrades : ab_M := (⟨"TurnRingModel", "gathersTrades", "()V"⟩, prog_14_method_99_code, 4, none)
abbrev mt_Mo_countsRow : ab_M := (⟨"TurnRingModel", "countsRow", "()V"⟩, prog_14_method_97_code, 3, none)
abbrev mt_Mo_dayNow : ab_M := (⟨"TurnRingModel", "dayNow", "(I)I"⟩, prog_14_method_98_code, 3, (some .int))
abbrev mt_Mo_spare : ab_M := (⟨"TurnRingModel", "spare", "(III)I"⟩, prog_14_method_103_code, 8, (some .int))
abbrev mt_Mo_stepsOf : ab_M := (⟨"TurnRingModel", "stepsOf", "(II)I"⟩, prog_14_method_102_code, 4, (some .int))
abbrev mt_Mo_mostWorn : ab_M := (⟨"TurnRingModel", "mostWorn", "(II)I"⟩, prog_14_method_101_code, 5, (some .int))
abbrev mt_Mo_apart : ab_M := (⟨"TurnRingModel", "apart", "(IIIII)I"⟩, prog_14_method_105_code, 6, (some .int))
abbrev mt_Mo_seenBy : ab_M := (⟨"TurnRingModel", "seenBy", "(IIII)I"⟩, prog_14_method_104_code, 7, (some .int))
abbrev mt_Mo_diary : ab_M := (⟨"TurnRingModel", "diary", "(IIIZ)I"⟩, prog_14_method_106_code, 6, (some .int))
abbrev mt_Mo_turned : ab_M := (⟨"TurnRingModel", "turned", "(I)I"⟩, prog_14_method_109_code, 5, (some .int))
abbrev mt_Mo_fitsDiary : ab_M := (⟨"TurnRingModel", "fitsDiary", "(I)Z"⟩, prog_14_method_108_code, 4, (some .boolean))
abbrev mt_Mo_sawBy : ab_M := (⟨"TurnRingModel", "sawBy", "(IIII)Z"⟩, prog_14_method_107_code, 6, (some .boolean))
abbrev mt_Mo_look : ab_M := (⟨"TurnRingModel", "look", "(II)I"⟩, prog_14_method_110_code, 9, (some .int))
abbrev mt_Mo_seed : ab_M := (⟨"TurnRingModel", "seed", "(I)I"⟩, prog_14_method_111_code, 3, (some .int))
abbrev mt_Mo_days : ab_M := (⟨"TurnRingModel", "days", "(IIII)I"⟩, prog_14_method_113_code, 9, (some .int))
abbrev mt_Mo_draw : ab_M := (⟨"TurnRingModel", "draw", "(I)I"⟩, prog_14_method_112_code, 2, (some .int))
abbrev mt_Mo_count : ab_M := (⟨"TurnRingModel", "count", "(I)I"⟩, prog_14_method_114_code, 2, (some .int))
abbrev mt_Mo_image : ab_M := (⟨"TurnRingModel", "image", "(I)I"⟩, prog_14_method_115_code, 3, (some .int))
abbrev mt_Mo_back : ab_M := (⟨"TurnRingModel", "back", "(I)I"⟩, prog_14_method_116_code, 3, (some .int))
theorem lk_Ta_9 : ab_lk g_G "TurnRing$Tape" 9 (tf_Ta 0) := Or.inl (g_memT (g_t1 37 rfl) rfl)
theorem fl_Ta_9 : ab_fl g_G "TurnRing$Tape" 9 8 0 := ⟨"TurnRing$Tape", tf_Ta, 9, rfl, by decide, uw_Ta, lk_Ta_9⟩
theorem fp_Ta_9 : ab_fp g_G "TurnRing$Tape" "<init>" 9 8 0 (ty_Ta 0) := ⟨"TurnRing$Tape", tf_Ta, 9, ty_Ta, rfl, by decide, uw_Ta, tk_Ta, nm_Ta, rfl, Or.inr ⟨g_memT (g_t1 37 rfl) rfl, rfl, rfl, rfl⟩⟩
theorem lk_Tu_82 : ab_lk g_G "TurnRing" 82 (tf_Ta 1) := Or.inl (g_memT (g_t1 38 rfl) rfl)
theorem fl_Tu_82 : ab_fl g_G "TurnRing" 82 8 1 := ⟨"TurnRing$Tape", tf_Ta, 9, rfl, by decide, uw_Ta, lk_Tu_82⟩
theorem fp_Tu_82 (nm : String) : ab_fp g_G "TurnRing" nm 82 8 1 (ty_Ta 1) := ⟨"TurnRing$Tape", tf_Ta, 9, ty_Ta, rfl, by decide, uw_Ta, tk_Ta, nm_Ta, rfl, Or.inl ⟨lk_Tu_82, rfl⟩⟩
theorem lk_Ta_21 : ab_lk g_G "TurnRing$Tape" 21 (tf_Ta 1) := Or.inl (g_memT (g_t1 39 rfl) rfl)
theorem fl_Ta_21 : ab_fl g_G "TurnRing$Tape" 21 8 1 := ⟨"TurnRing$Tape", tf_Ta, 9, rfl, by decide, uw_Ta, lk_Ta_21⟩
theorem fp_Ta_21 (nm : String) : ab_fp g_G "TurnRing$Tape" nm 21 8 1 (ty_Ta 1) := ⟨"TurnRing$Tape", tf_Ta, 9, ty_Ta, rfl, by decide, uw_Ta, tk_Ta, nm_Ta, rfl, Or.inl ⟨lk_Ta_21, rfl⟩⟩
theorem lk_Ta_25 : ab_lk g_G "TurnRing$Tape" 25 (tf_Ta 2) := Or.inl (g_memT (g_t1 40 rfl) rfl)
theorem fl_Ta_25 : ab_fl g_G "TurnRing$Tape" 25 8 2 := ⟨"TurnRing$Tape", tf_Ta, 9, rfl, by decide, uw_Ta, lk_Ta_25⟩
theorem fp_Ta_25 (nm : String) : ab_fp g_G "TurnRing$Tape" nm 25 8 2 (ty_Ta 2) := ⟨"TurnRing$Tape", tf_Ta, 9, ty_Ta, rfl, by decide, uw_Ta, tk_Ta, nm_Ta, rfl, Or.inl ⟨lk_Ta_25, rfl⟩⟩
theorem lk_Ta_17 : ab_lk g_G "TurnRing$Tape" 17 (tf_Ta 3) := Or.inl (g_memT (g_t1 41 rfl) rfl)
theorem fl_Ta_17 : ab_fl g_G "TurnRing$Tape" 17 8 3 := ⟨"TurnRing$Tape", tf_Ta, 9, rfl, by decide, uw_Ta, lk_Ta_17⟩
theorem fp_Ta_17 (nm : String) : ab_fp g_G "TurnRing$Tape" nm 17 8 3 (ty_Ta 3) := ⟨"TurnRing$Tape", tf_Ta, 9, ty_Ta, rfl, by decide, uw_Ta, tk_Ta, nm_Ta, rfl, Or.inl ⟨lk_Ta_17, rfl⟩⟩
theorem lk_Rr_46 : ab_lk g_G "TurnRing$RingReader" 46 (tf_Ta 4) := Or.inl (g_memT (g_t1 42 rfl) rfl)
theorem fl_Rr_46 : ab_fl g_G "TurnRing$RingReader" 46 8 4 := ⟨"TurnRing$Tape", tf_Ta, 9, rfl, by decide, uw_Ta, lk_Rr_46⟩
theorem lk_Ru_56 : ab_lk g_G "TurnRing$RuleReader" 56 (tf_Ta 4) := Or.inl (g_memT (g_t1 43 rfl) rfl)
theorem fl_Ru_56 : ab_fl g_G "TurnRing$RuleReader" 56 8 4 := ⟨"TurnRing$Tape", tf_Ta, 9, rfl, by decide, uw_Ta, lk_Ru_56⟩
theorem lk_Ta_28 : ab_lk g_G "TurnRing$Tape" 28 (tf_Ta 4) := Or.inl (g_memT (g_t1 44 rfl) rfl)
theorem fl_Ta_28 : ab_fl g_G "TurnRing$Tape" 28 8 4 := ⟨"TurnRing$Tape", tf_Ta, 9, rfl, by decide, uw_Ta, lk_Ta_28⟩
theorem fp_Ta_28 (nm : String) : ab_fp g_G "TurnRing$Tape" nm 28 8 4 (ty_Ta 4) := ⟨"TurnRing$Tape", tf_Ta, 9, ty_Ta, rfl, by decide, uw_Ta, tk_Ta, nm_Ta, rfl, Or.inl ⟨lk_Ta_28, rfl⟩⟩
theorem lk_Ta_34 : ab_lk g_G "TurnRing$Tape" 34 (tf_Ta 5) := Or.inl (g_memT (g_t1 45 rfl) rfl)
theorem fl_Ta_34 : ab_fl g_G "TurnRing$Tape" 34 8 5 := ⟨"TurnRing$Tape", tf_Ta, 9, rfl, by decide, uw_Ta, lk_Ta_34⟩
theorem fp_Ta_34 (nm : String) : ab_fp g_G "TurnRing$Tape" nm 34 8 5 (ty_Ta 5) := ⟨"TurnRing$Tape", tf_Ta, 9, ty_Ta, rfl, by decide, uw_Ta, tk_Ta, nm_Ta, rfl, Or.inl ⟨lk_Ta_34, rfl⟩⟩
theorem lk_Rr_43 : ab_lk g_G "TurnRing$RingReader" 43 (tf_Ta 6) := Or.inl (g_memT (g_t1 46 rfl) rfl)
theorem fl_Rr_43 : ab_fl g_G "TurnRing$RingReader" 43 8 6 := ⟨"TurnRing$Tape", tf_Ta, 9, rfl, by decide, uw_Ta, lk_Rr_43⟩
theorem lk_Ru_53 : ab_lk g_G "TurnRing$RuleReader" 53 (tf_Ta 6) := Or.inl (g_memT (g_t1 47 rfl) rfl)
theorem fl_Ru_53 : ab_fl g_G "TurnRing$RuleReader" 53 8 6 := ⟨"TurnRing$Tape", tf_Ta, 9, rfl, by decide, uw_Ta, lk_Ru_53⟩
theorem lk_Ta_37 : ab_lk g_G "TurnRing$Tape" 37 (tf_Ta 6) := Or.inl (g_memT (g_t1 48 rfl) rfl)
theorem fl_Ta_37 : ab_fl g_G "TurnRing$Tape" 37 8 6 := ⟨"TurnRing$Tape", tf_Ta, 9, rfl, by decide, uw_Ta, lk_Ta_37⟩
theorem fp_Ta_37 (nm : String) : ab_fp g_G "TurnRing$Tape" nm 37 8 6 (ty_Ta 6) := ⟨"TurnRing$Tape", tf_Ta, 9, ty_Ta, rfl, by decide, uw_Ta, tk_Ta, nm_Ta, rfl, Or.inl ⟨lk_Ta_37, rfl⟩⟩
theorem lk_Ta_40 : ab_lk g_G "TurnRing$Tape" 40 (tf_Ta 7) := Or.inl (g_memT (g_t1 49 rfl) rfl)
theorem fl_Ta_40 : ab_fl g_G "TurnRing$Tape" 40 8 7 := ⟨"TurnRing$Tape", tf_Ta, 9, rfl, by decide, uw_Ta, lk_Ta_40⟩
theorem fp_Ta_40 (nm : String) : ab_fp g_G "TurnRing$Tape" nm 40 8 7 (ty_Ta 7) := ⟨"TurnRing$Tape", tf_Ta, 9, ty_Ta, rfl, by decide, uw_Ta, tk_Ta, nm_Ta, rfl, Or.inl ⟨lk_Ta_40, rfl⟩⟩
theorem lk_Rr_87 : ab_lk g_G "TurnRing$RingReader" 87 (tf_Ta 7) := Or.inl (g_memT (g_t1 50 rfl) rfl)
theorem fl_Rr_87 : ab_fl g_G "TurnRing$RingReader" 87 8 7 := ⟨"TurnRing$Tape", tf_Ta, 9, rfl, by decide, uw_Ta, lk_Rr_87⟩
theorem lk_Ru_78 : ab_lk g_G "TurnRing$RuleReader" 78 (tf_Ta 7) := Or.inl (g_memT (g_t1 51 rfl) rfl)
theorem fl_Ru_78 : ab_fl g_G "TurnRing$RuleReader" 78 8 7 := ⟨"TurnRing$Tape", tf_Ta, 9, rfl, by decide, uw_Ta, lk_Ru_78⟩
theorem lk_Rr_24 : ab_lk g_G "TurnRing$RingReader" 24 (tf_Ta 8) := Or.inl (g_memT (g_t1 52 rfl) rfl)
theorem fl_Rr_24 : ab_fl g_G "TurnRing$RingReader" 24 8 8 := ⟨"TurnRing$Tape", tf_Ta, 9, rfl, by decide, uw_Ta, lk_Rr_24⟩
theorem lk_Ru_30 : ab_lk g_G "TurnRing$RuleReader" 30 (tf_Ta 8) := Or.inl (g_memT (g_t1 53 rfl) rfl)
theorem fl_Ru_30 : ab_fl g_G "TurnRing$RuleReader" 30 8 8 := ⟨"TurnRing$Tape", tf_Ta, 9, rfl, by decide, uw_Ta, lk_Ru_30⟩
theorem lk_Ta_43 : ab_lk g_G "TurnRing$Tape" 43 (tf_Ta 8) := Or.inl (g_memT (g_t1 54 rfl) rfl)
theorem fl_Ta_43 : ab_fl g_G "TurnRing$Tape" 43 8 8 := ⟨"TurnRing$Tape", tf_Ta, 9, rfl, by decide, uw_Ta, lk_Ta_43⟩
theorem fp_Ta_43 (nm : String) : ab_fp g_G "TurnRing$Tape" nm 43 8 8 (ty_Ta 8) := ⟨"TurnRing$Tape", tf_Ta, 9, ty_Ta, rfl, by decide, uw_Ta, tk_Ta, nm_Ta, rfl, Or.inl ⟨lk_Ta_43, rfl⟩⟩
theorem lk_Di_24 : ab_lk g_G "TurnRing$Diary" 24 (tf_Di 0) := Or.inl (g_memT (g_t1 87 rfl) rfl)
theorem fl_Di_24 : ab_fl g_G "TurnRing$Diary" 24 1 0 := ⟨"TurnRing$Diary", tf_Di, 5, rfl, by decide, uw_Di, lk_Di_24⟩
theorem fp_Di_24 (nm : String) : ab_fp g_G "TurnRing$Diary" nm 24 1 0 (ty_Di 0) := ⟨"TurnRing$Diary", tf_Di, 5, ty_Di, rfl, by decide, uw_Di, tk_Di, nm_Di, rfl, Or.inl ⟨lk_Di_24, rfl⟩⟩
theorem lk_Ri_82 : ab_lk g_G "TurnRing$Ring" 82 (tf_Di 0) := Or.inl (g_memT (g_t1 88 rfl) rfl)
theorem fp_Ri_82 (nm : String) : ab_fp g_G "TurnRing$Ring" nm 82 1 0 (ty_Di 0) := ⟨"TurnRing$Diary", tf_Di, 5, ty_Di, rfl, by decide, uw_Di, tk_Di, nm_Di, rfl, Or.inl ⟨lk_Ri_82, rfl⟩⟩
theorem lk_Gu_49 : ab_lk g_G "TurnRing$Guesser" 49 (tf_Di 0) := Or.inl (g_memT (g_t1 89 rfl) rfl)
theorem fl_Gu_49 : ab_fl g_G "TurnRing$Guesser" 49 1 0 := ⟨"TurnRing$Diary", tf_Di, 5, rfl, by decide, uw_Di, lk_Gu_49⟩
theorem lk_Tu_196 : ab_lk g_G "TurnRing" 196 (tf_Di 0) := Or.inl (g_memT (g_t1 90 rfl) rfl)
theorem fl_Tu_196 : ab_fl g_G "TurnRing" 196 1 0 := ⟨"TurnRing$Diary", tf_Di, 5, rfl, by decide, uw_Di, lk_Tu_196⟩
theorem fp_Tu_196 (nm : String) : ab_fp g_G "TurnRing" nm 196 1 0 (ty_Di 0) := ⟨"TurnRing$Diary", tf_Di, 5, ty_Di, rfl, by decide, uw_Di, tk_Di, nm_Di, rfl, Or.inl ⟨lk_Tu_196, rfl⟩⟩
theorem lk_Di_9 : ab_lk g_G "TurnRing$Diary" 9 (tf_Di 1) := Or.inl (g_memT (g_t1 91 rfl) rfl)
theorem fl_Di_9 : ab_fl g_G "TurnRing$Diary" 9 1 1 := ⟨"TurnRing$Diary", tf_Di, 5, rfl, by decide, uw_Di, lk_Di_9⟩
theorem fp_Di_9 : ab_fp g_G "TurnRing$Diary" "<init>" 9 1 1 (ty_Di 1) := ⟨"TurnRing$Diary", tf_Di, 5, ty_Di, rfl, by decide, uw_Di, tk_Di, nm_Di, rfl, Or.inr ⟨g_memT (g_t1 91 rfl) rfl, rfl, rfl, rfl⟩⟩
theorem lk_Gu_54 : ab_lk g_G "TurnRing$Guesser" 54 (tf_Di 1) := Or.inl (g_memT (g_t1 92 rfl) rfl)
theorem fl_Gu_54 : ab_fl g_G "TurnRing$Guesser" 54 1 1 := ⟨"TurnRing$Diary", tf_Di, 5, rfl, by decide, uw_Di, lk_Gu_54⟩
theorem lk_Di_15 : ab_lk g_G "TurnRing$Diary" 15 (tf_Di 2) := Or.inl (g_memT (g_t1 93 rfl) rfl)
theorem fl_Di_15 : ab_fl g_G "TurnRing$Diary" 15 1 2 := ⟨"TurnRing$Diary", tf_Di, 5, rfl, by decide, uw_Di, lk_Di_15⟩
theorem fp_Di_15 : ab_fp g_G "TurnRing$Diary" "<init>" 15 1 2 (ty_Di 2) := ⟨"TurnRing$Diary", tf_Di, 5, ty_Di, rfl, by decide, uw_Di, tk_Di, nm_Di, rfl, Or.inr ⟨g_memT (g_t1 93 rfl) rfl, rfl, rfl, rfl⟩⟩
theorem lk_Gu_57 : ab_lk g_G "TurnRing$Guesser" 57 (tf_Di 2) := Or.inl (g_memT (g_t1 94 rfl) rfl)
theorem fl_Gu_57 : ab_fl g_G "TurnRing$Guesser" 57 1 2 := ⟨"TurnRing$Diary", tf_Di, 5, rfl, by decide, uw_Di, lk_Gu_57⟩
theorem lk_Di_18 : ab_lk g_G "TurnRing$Diary" 18 (tf_Di 3) := Or.inl (g_memT (g_t1 95 rfl) rfl)
theorem fl_Di_18 : ab_fl g_G "TurnRing$Diary" 18 1 3 := ⟨"TurnRing$Diary", tf_Di, 5, rfl, by decide, uw_Di, lk_Di_18⟩
theorem fp_Di_18 : ab_fp g_G "TurnRing$Diary" "<init>" 18 1 3 (ty_Di 3) := ⟨"TurnRing$Diary", tf_Di, 5, ty_Di, rfl, by decide, uw_Di, tk_Di, nm_Di, rfl, Or.inr ⟨g_memT (g_t1 95 rfl) rfl, rfl, rfl, rfl⟩⟩
theorem lk_Gu_64 : ab_lk g_G "TurnRing$Guesser" 64 (tf_Di 3) := Or.inl (g_memT (g_t1 96 rfl) rfl)
theorem fl_Gu_64 : ab_fl g_G "TurnRing$Guesser" 64 1 3 := ⟨"TurnRing$Diary", tf_Di, 5, rfl, by decide, uw_Di, lk_Gu_64⟩
theorem lk_Di_21 : ab_lk g_G "TurnRing$Diary" 21 (tf_Di 4) := Or.inl (g_memT (g_t1 97 rfl) rfl)
theorem fl_Di_21 : ab_fl g_G "TurnRing$Diary" 21 1 4 := ⟨"TurnRing$Diary", tf_Di, 5, rfl, by decide, uw_Di, lk_Di_21⟩
theorem fp_Di_21 : ab_fp g_G "TurnRing$Diary" "<init>" 21 1 4 (ty_Di 4) := ⟨"TurnRing$Diary", tf_Di, 5, ty_Di, rfl, by decide, uw_Di, tk_Di, nm_Di, rfl, Or.inr ⟨g_memT (g_t1 97 rfl) rfl, rfl, rfl, rfl⟩⟩
theorem lk_Gu_67 : ab_lk g_G "TurnRing$Guesser" 67 (tf_Di 4) := Or.inl (g_memT (g_t1 98 rfl) rfl)
theorem fl_Gu_67 : ab_fl g_G "TurnRing$Guesser" 67 1 4 := ⟨"TurnRing$Diary", tf_Di, 5, rfl, by decide, uw_Di, lk_Gu_67⟩
theorem lk_Ri_41 : ab_lk g_G "TurnRing$Ring" 41 (tf_Ri 0) := Or.inl (g_memT (g_t1 112 rfl) rfl)
theorem fl_Ri_41 : ab_fl g_G "TurnRing$Ring" 41 5 0 := ⟨"TurnRing$Ring", tf_Ri, 18, rfl, by decide, uw_Ri, lk_Ri_41⟩
theorem fp_Ri_41 (nm : String) : ab_fp g_G "TurnRing$Ring" nm 41 5 0 (ty_Ri 0) := ⟨"TurnRing$Ring", tf_Ri, 18, ty_Ri, rfl, by decide, uw_Ri, tk_Ri, nm_Ri, rfl, Or.inl ⟨lk_Ri_41, rfl⟩⟩
theorem lk_Rr_49 : ab_lk g_G "TurnRing$RingReader" 49 (tf_Ri 0) := Or.inl (g_memT (g_t1 113 rfl) rfl)
theorem fp_Rr_49 (nm : String) : ab_fp g_G "TurnRing$RingReader" nm 49 5 0 (ty_Ri 0) := ⟨"TurnRing$Ring", tf_Ri, 18, ty_Ri, rfl, by decide, uw_Ri, tk_Ri, nm_Ri, rfl, Or.inl ⟨lk_Rr_49, rfl⟩⟩
theorem lk_Tu_152 : ab_lk g_G "TurnRing" 152 (tf_Ri 0) := Or.inl (g_memT (g_t1 114 rfl) rfl)
theorem fl_Tu_152 : ab_fl g_G "TurnRing" 152 5 0 := ⟨"TurnRing$Ring", tf_Ri, 18, rfl, by decide, uw_Ri, lk_Tu_152⟩
theorem lk_Ri_45 : ab_lk g_G "TurnRing$Ring" 45 (tf_Ri 1) := Or.inl (g_memT (g_t1 115 rfl) rfl)
theorem fl_Ri_45 : ab_fl g_G "TurnRing$Ring" 45 5 1 := ⟨"TurnRing$Ring", tf_Ri, 18, rfl, by decide, uw_Ri, lk_Ri_45⟩
theorem fp_Ri_45 (nm : String) : ab_fp g_G "TurnRing$Ring" nm 45 5 1 (ty_Ri 1) := ⟨"TurnRing$Ring", tf_Ri, 18, ty_Ri, rfl, by decide, uw_Ri, tk_Ri, nm_Ri, rfl, Or.inl ⟨lk_Ri_45, rfl⟩⟩
theorem lk_Pl_30 : ab_lk g_G "TurnRing$Planner" 30 (tf_Ri 1) := Or.inl (g_memT (g_t1 116 rfl) rfl)
theorem fl_Pl_30 : ab_fl g_G "TurnRing$Planner" 30 5 1 := ⟨"TurnRing$Ring", tf_Ri, 18, rfl, by decide, uw_Ri, lk_Pl_30⟩
theorem lk_Rr_68 : ab_lk g_G "TurnRing$RingReader" 68 (tf_Ri 1) := Or.inl (g_memT (g_t1 117 rfl) rfl)
theorem fp_Rr_68 (nm : String) : ab_fp g_G "TurnRing$RingReader" nm 68 5 1 (ty_Ri 1) := ⟨"TurnRing$Ring", tf_Ri, 18, ty_Ri, rfl, by decide, uw_Ri, tk_Ri, nm_Ri, rfl, Or.inl ⟨lk_Rr_68, rfl⟩⟩
theorem lk_Ma_70 : ab_lk g_G "TurnRing$Machine" 70 (tf_Ri 1) := Or.inl (g_memT (g_t1 118 rfl) rfl)
theorem fl_Ma_70 : ab_fl g_G "TurnRing$Machine" 70 5 1 := ⟨"TurnRing$Ring", tf_Ri, 18, rfl, by decide, uw_Ri, lk_Ma_70⟩
theorem lk_Tu_177 : ab_lk g_G "TurnRing" 177 (tf_Ri 1) := Or.inl (g_memT (g_t1 119 rfl) rfl)
theorem fl_Tu_177 : ab_fl g_G "TurnRing" 177 5 1 := ⟨"TurnRing$Ring", tf_Ri, 18, rfl, by decide, uw_Ri, lk_Tu_177⟩
theorem lk_Ri_49 : ab_lk g_G "TurnRing$Ring" 49 (tf_Ri 2) := Or.inl (g_memT (g_t1 120 rfl) rfl)
theorem fl_Ri_49 : ab_fl g_G "TurnRing$Ring" 49 5 2 := ⟨"TurnRing$Ring", tf_Ri, 18, rfl, by decide, uw_Ri, lk_Ri_49⟩
theorem fp_Ri_49 (nm : String) : ab_fp g_G "TurnRing$Ring" nm 49 5 2 (ty_Ri 2) := ⟨"TurnRing$Ring", tf_Ri, 18, ty_Ri, rfl, by decide, uw_Ri, tk_Ri, nm_Ri, rfl, Or.inl ⟨lk_Ri_49, rfl⟩⟩
theorem lk_Tu_136 : ab_lk g_G "TurnRing" 136 (tf_Ri 2) := Or.inl (g_memT (g_t1 121 rfl) rfl)
theorem fl_Tu_136 : ab_fl g_G "TurnRing" 136 5 2 := ⟨"TurnRing$Ring", tf_Ri, 18, rfl, by decide, uw_Ri, lk_Tu_136⟩
theorem lk_Ma_62 : ab_lk g_G "TurnRing$Machine" 62 (tf_Ri 2) := Or.inl (g_memT (g_t1 122 rfl) rfl)
theorem fl_Ma_62 : ab_fl g_G "TurnRing$Machine" 62 5 2 := ⟨"TurnRing$Ring", tf_Ri, 18, rfl, by decide, uw_Ri, lk_Ma_62⟩
theorem lk_Ri_52 : ab_lk g_G "TurnRing$Ring" 52 (tf_Ri 3) := Or.inl (g_memT (g_t1 123 rfl) rfl)
theorem fl_Ri_52 : ab_fl g_G "TurnRing$Ring" 52 5 3 := ⟨"TurnRing$Ring", tf_Ri, 18, rfl, by decide, uw_Ri, lk_Ri_52⟩
theorem fp_Ri_52 (nm : String) : ab_fp g_G "TurnRing$Ring" nm 52 5 3 (ty_Ri 3) := ⟨"TurnRing$Ring", tf_Ri, 18, ty_Ri, rfl, by decide, uw_Ri, tk_Ri, nm_Ri, rfl, Or.inl ⟨lk_Ri_52, rfl⟩⟩
theorem lk_Ma_67 : ab_lk g_G "TurnRing$Machine" 67 (tf_Ri 3) := Or.inl (g_memT (g_t1 124 rfl) rfl)
theorem fl_Ma_67 : ab_fl g_G "TurnRing$Machine" 67 5 3 := ⟨"TurnRing$Ring", tf_Ri, 18, rfl, by decide, uw_Ri, lk_Ma_67⟩
theorem lk_Tu_180 : ab_lk g_G "TurnRing" 180 (tf_Ri 3) := Or.inl (g_memT (g_t1 125 rfl) rfl)
theorem fl_Tu_180 : ab_fl g_G "TurnRing" 180 5 3 := ⟨"TurnRing$Ring", tf_Ri, 18, rfl, by decide, uw_Ri, lk_Tu_180⟩
theorem lk_Ri_55 : ab_lk g_G "TurnRing$Ring" 55 (tf_Ri 4) := Or.inl (g_memT (g_t1 126 rfl) rfl)
theorem fl_Ri_55 : ab_fl g_G "TurnRing$Ring" 55 5 4 := ⟨"TurnRing$Ring", tf_Ri, 18, rfl, by decide, uw_Ri, lk_Ri_55⟩
theorem fp_Ri_55 (nm : String) : ab_fp g_G "TurnRing$Ring" nm 55 5 4 (ty_Ri 4) := ⟨"TurnRing$Ring", tf_Ri, 18, ty_Ri, rfl, by decide, uw_Ri, tk_Ri, nm_Ri, rfl, Or.inl ⟨lk_Ri_55, rfl⟩⟩
theorem lk_Ac_45 : ab_lk g_G "TurnRing$ActLog" 45 (tf_Ri 4) := Or.inl (g_memT (g_t1 127 rfl) rfl)
theorem fp_Ac_45 (nm : String) : ab_fp g_G "TurnRing$ActLog" nm 45 5 4 (ty_Ri 4) := ⟨"TurnRing$Ring", tf_Ri, 18, ty_Ri, rfl, by decide, uw_Ri, tk_Ri, nm_Ri, rfl, Or.inl ⟨lk_Ac_45, rfl⟩⟩
theorem lk_Tu_186 : ab_lk g_G "TurnRing" 186 (tf_Ri 4) := Or.inl (g_memT (g_t1 128 rfl) rfl)
theorem fl_Tu_186 : ab_fl g_G "TurnRing" 186 5 4 := ⟨"TurnRing$Ring", tf_Ri, 18, rfl, by decide, uw_Ri, lk_Tu_186⟩
theorem fp_Tu_186 (nm : String) : ab_fp g_G "TurnRing" nm 186 5 4 (ty_Ri 4) := ⟨"TurnRing$Ring", tf_Ri, 18, ty_Ri, rfl, by decide, uw_Ri, tk_Ri, nm_Ri, rfl, Or.inl ⟨lk_Tu_186, rfl⟩⟩
theorem lk_Ri_58 : ab_lk g_G "TurnRing$Ring" 58 (tf_Ri 5) := Or.inl (g_memT (g_t1 129 rfl) rfl)
theorem fl_Ri_58 : ab_fl g_G "TurnRing$Ring" 58 5 5 := ⟨"TurnRing$Ring", tf_Ri, 18, rfl, by decide, uw_Ri, lk_Ri_58⟩
theorem fp_Ri_58 (nm : String) : ab_fp g_G "TurnRing$Ring" nm 58 5 5 (ty_Ri 5) := ⟨"TurnRing$Ring", tf_Ri, 18, ty_Ri, rfl, by decide, uw_Ri, tk_Ri, nm_Ri, rfl, Or.inl ⟨lk_Ri_58, rfl⟩⟩
theorem lk_Ac_49 : ab_lk g_G "TurnRing$ActLog" 49 (tf_Ri 5) := Or.inl (g_memT (g_t1 130 rfl) rfl)
theorem fl_Ac_49 : ab_fl g_G "TurnRing$ActLog" 49 5 5 := ⟨"TurnRing$Ring", tf_Ri, 18, rfl, by decide, uw_Ri, lk_Ac_49⟩
theorem fp_Ac_49 (nm : String) : ab_fp g_G "TurnRing$ActLog" nm 49 5 5 (ty_Ri 5) := ⟨"TurnRing$Ring", tf_Ri, 18, ty_Ri, rfl, by decide, uw_Ri, tk_Ri, nm_Ri, rfl, Or.inl ⟨lk_Ac_49, rfl⟩⟩
theorem lk_Ma_99 : ab_lk g_G "TurnRing$Machine" 99 (tf_Ri 5) := Or.inl (g_memT (g_t1 131 rfl) rfl)
theorem fl_Ma_99 : ab_fl g_G "TurnRing$Machine" 99 5 5 := ⟨"TurnRing$Ring", tf_Ri, 18, rfl, by decide, uw_Ri, lk_Ma_99⟩
theorem lk_Tu_189 : ab_lk g_G "TurnRing" 189 (tf_Ri 5) := Or.inl (g_memT (g_t1 132 rfl) rfl)
theorem fl_Tu_189 : ab_fl g_G "TurnRing" 189 5 5 := ⟨"TurnRing$Ring", tf_Ri, 18, rfl, by decide, uw_Ri, lk_Tu_189⟩
theorem fp_Tu_189 (nm : String) : ab_fp g_G "TurnRing" nm 189 5 5 (ty_Ri 5) := ⟨"TurnRing$Ring", tf_Ri, 18, ty_Ri, rfl, by decide, uw_Ri, tk_Ri, nm_Ri, rfl, Or.inl ⟨lk_Tu_189, rfl⟩⟩
theorem lk_Ri_61 : ab_lk g_G "TurnRing$Ring" 61 (tf_Ri 6) := Or.inl (g_memT (g_t1 133 rfl) rfl)
theorem fl_Ri_61 : ab_fl g_G "TurnRing$Ring" 61 5 6 := ⟨"TurnRing$Ring", tf_Ri, 18, rfl, by decide, uw_Ri, lk_Ri_61⟩
theorem fp_Ri_61 (nm : String) : ab_fp g_G "TurnRing$Ring" nm 61 5 6 (ty_Ri 6) := ⟨"TurnRing$Ring", tf_Ri, 18, ty_Ri, rfl, by decide, uw_Ri, tk_Ri, nm_Ri, rfl, Or.inl ⟨lk_Ri_61, rfl⟩⟩
theorem lk_Tu_96 : ab_lk g_G "TurnRing" 96 (tf_Ri 6) := Or.inl (g_memT (g_t1 134 rfl) rfl)
theorem fl_Tu_96 : ab_fl g_G "TurnRing" 96 5 6 := ⟨"TurnRing$Ring", tf_Ri, 18, rfl, by decide, uw_Ri, lk_Tu_96⟩
theorem fp_Tu_96 (nm : String) : ab_fp g_G "TurnRing" nm 96 5 6 (ty_Ri 6) := ⟨"TurnRing$Ring", tf_Ri, 18, ty_Ri, rfl, by decide, uw_Ri, tk_Ri, nm_Ri, rfl, Or.inl ⟨lk_Tu_96, rfl⟩⟩
theorem lk_Tr_31 : ab_lk g_G "TurnRing$Trader" 31 (tf_Ri 7) := Or.inl (g_memT (g_t1 135 rfl) rfl)
theorem fl_Tr_31 : ab_fl g_G "TurnRing$Trader" 31 5 7 := ⟨"TurnRing$Ring", tf_Ri, 18, rfl, by decide, uw_Ri, lk_Tr_31⟩
theorem lk_Ri_64 : ab_lk g_G "TurnRing$Ring" 64 (tf_Ri 7) := Or.inl (g_memT (g_t1 136 rfl) rfl)
theorem fl_Ri_64 : ab_fl g_G "TurnRing$Ring" 64 5 7 := ⟨"TurnRing$Ring", tf_Ri, 18, rfl, by decide, uw_Ri, lk_Ri_64⟩
theorem fp_Ri_64 (nm : String) : ab_fp g_G "TurnRing$Ring" nm 64 5 7 (ty_Ri 7) := ⟨"TurnRing$Ring", tf_Ri, 18, ty_Ri, rfl, by decide, uw_Ri, tk_Ri, nm_Ri, rfl, Or.inl ⟨lk_Ri_64, rfl⟩⟩
theorem lk_Rr_53 : ab_lk g_G "TurnRing$RingReader" 53 (tf_Ri 7) := Or.inl (g_memT (g_t1 137 rfl) rfl)
theorem fl_Rr_53 : ab_fl g_G "TurnRing$RingReader" 53 5 7 := ⟨"TurnRing$Ring", tf_Ri, 18, rfl, by decide, uw_Ri, lk_Rr_53⟩
theorem lk_Pl_63 : ab_lk g_G "TurnRing$Planner" 63 (tf_Ri 7) := Or.inl (g_memT (g_t1 138 rfl) rfl)
theorem fl_Pl_63 : ab_fl g_G "TurnRing$Planner" 63 5 7 := ⟨"TurnRing$Ring", tf_Ri, 18, rfl, by decide, uw_Ri, lk_Pl_63⟩
theorem lk_Tu_102 : ab_lk g_G "TurnRing" 102 (tf_Ri 7) := Or.inl (g_memT (g_t1 139 rfl) rfl)
theorem fl_Tu_102 : ab_fl g_G "TurnRing" 102 5 7 := ⟨"TurnRing$Ring", tf_Ri, 18, rfl, by decide, uw_Ri, lk_Tu_102⟩
theorem lk_Gu_76 : ab_lk g_G "TurnRing$Guesser" 76 (tf_Ri 7) := Or.inl (g_memT (g_t1 140 rfl) rfl)
theorem fl_Gu_76 : ab_fl g_G "TurnRing$Guesser" 76 5 7 := ⟨"TurnRing$Ring", tf_Ri, 18, rfl, by decide, uw_Ri, lk_Gu_76⟩
theorem lk_Ri_67 : ab_lk g_G "TurnRing$Ring" 67 (tf_Ri 8) := Or.inl (g_memT (g_t1 141 rfl) rfl)
theorem fl_Ri_67 : ab_fl g_G "TurnRing$Ring" 67 5 8 := ⟨"TurnRing$Ring", tf_Ri, 18, rfl, by decide, uw_Ri, lk_Ri_67⟩
theorem fp_Ri_67 (nm : String) : ab_fp g_G "TurnRing$Ring" nm 67 5 8 (ty_Ri 8) := ⟨"TurnRing$Ring", tf_Ri, 18, ty_Ri, rfl, by decide, uw_Ri, tk_Ri, nm_Ri, rfl, Or.inl ⟨lk_Ri_67, rfl⟩⟩
theorem lk_Rr_56 : ab_lk g_G "TurnRing$RingReader" 56 (tf_Ri 8) := Or.inl (g_memT (g_t1 142 rfl) rfl)
theorem fl_Rr_56 : ab_fl g_G "TurnRing$RingReader" 56 5 8 := ⟨"TurnRing$Ring", tf_Ri, 18, rfl, by decide, uw_Ri, lk_Rr_56⟩
theorem lk_Tu_171 : ab_lk g_G "TurnRing" 171 (tf_Ri 8) := Or.inl (g_memT (g_t1 143 rfl) rfl)
theorem fl_Tu_171 : ab_fl g_G "TurnRing" 171 5 8 := ⟨"TurnRing$Ring", tf_Ri, 18, rfl, by decide, uw_Ri, lk_Tu_171⟩
theorem lk_Ri_70 : ab_lk g_G "TurnRing$Ring" 70 (tf_Ri 9) := Or.inl (g_memT (g_t1 144 rfl) rfl)
theorem fl_Ri_70 : ab_fl g_G "TurnRing$Ring" 70 5 9 := ⟨"TurnRing$Ring", tf_Ri, 18, rfl, by decide, uw_Ri, lk_Ri_70⟩
theorem fp_Ri_70 (nm : String) : ab_fp g_G "TurnRing$Ring" nm 70 5 9 (ty_Ri 9) := ⟨"TurnRing$Ring", tf_Ri, 18, ty_Ri, rfl, by decide, uw_Ri, tk_Ri, nm_Ri, rfl, Or.inl ⟨lk_Ri_70, rfl⟩⟩
theorem lk_Rr_106 : ab_lk g_G "TurnRing$RingReader" 106 (tf_Ri 9) := Or.inl (g_memT (g_t1 145 rfl) rfl)
theorem fl_Rr_106 : ab_fl g_G "TurnRing$RingReader" 106 5 9 := ⟨"TurnRing$Ring", tf_Ri, 18, rfl, by decide, uw_Ri, lk_Rr_106⟩
theorem fp_Rr_106 (nm : String) : ab_fp g_G "TurnRing$RingReader" nm 106 5 9 (ty_Ri 9) := ⟨"TurnRing$Ring", tf_Ri, 18, ty_Ri, rfl, by decide, uw_Ri, tk_Ri, nm_Ri, rfl, Or.inl ⟨lk_Rr_106, rfl⟩⟩
theorem lk_Tu_174 : ab_lk g_G "TurnRing" 174 (tf_Ri 9) := Or.inl (g_memT (g_t1 146 rfl) rfl)
theorem fl_Tu_174 : ab_fl g_G "TurnRing" 174 5 9 := ⟨"TurnRing$Ring", tf_Ri, 18, rfl, by decide, uw_Ri, lk_Tu_174⟩
theorem lk_Ri_9 : ab_lk g_G "TurnRing$Ring" 9 (tf_Ri 10) := Or.inl (g_memT (g_t1 147 rfl) rfl)
theorem fl_Ri_9 : ab_fl g_G "TurnRing$Ring" 9 5 10 := ⟨"TurnRing$Ring", tf_Ri, 18, rfl, by decide, uw_Ri, lk_Ri_9⟩
theorem fp_Ri_9 : ab_fp g_G "TurnRing$Ring" "<init>" 9 5 10 (ty_Ri 10) := ⟨"TurnRing$Ring", tf_Ri, 18, ty_Ri, rfl, by decide, uw_Ri, tk_Ri, nm_Ri, rfl, Or.inr ⟨g_memT (g_t1 147 rfl) rfl, rfl, rfl, rfl⟩⟩
theorem lk_Tr_41 : ab_lk g_G "TurnRing$Trader" 41 (tf_Ri 10) := Or.inl (g_memT (g_t1 148 rfl) rfl)
theorem fl_Tr_41 : ab_fl g_G "TurnRing$Trader" 41 5 10 := ⟨"TurnRing$Ring", tf_Ri, 18, rfl, by decide, uw_Ri, lk_Tr_41⟩
theorem lk_Pl_66 : ab_lk g_G "TurnRing$Planner" 66 (tf_Ri 10) := Or.inl (g_memT (g_t1 149 rfl) rfl)
theorem fl_Pl_66 : ab_fl g_G "TurnRing$Planner" 66 5 10 := ⟨"TurnRing$Ring", tf_Ri, 18, rfl, by decide, uw_Ri, lk_Pl_66⟩
theorem lk_Tu_126 : ab_lk g_G "TurnRing" 126 (tf_Ri 10) := Or.inl (g_memT (g_t1 150 rfl) rfl)
theorem fl_Tu_126 : ab_fl g_G "TurnRing" 126 5 10 := ⟨"TurnRing$Ring", tf_Ri, 18, rfl, by decide, uw_Ri, lk_Tu_126⟩
theorem lk_Ri_15 : ab_lk g_G "TurnRing$Ring" 15 (tf_Ri 11) := Or.inl (g_memT (g_t1 151 rfl) rfl)
theorem fl_Ri_15 : ab_fl g_G "TurnRing$Ring" 15 5 11 := ⟨"TurnRing$Ring", tf_Ri, 18, rfl, by decide, uw_Ri, lk_Ri_15⟩
theorem fp_Ri_15 : ab_fp g_G "TurnRing$Ring" "<init>" 15 5 11 (ty_Ri 11) := ⟨"TurnRing$Ring", tf_Ri, 18, ty_Ri, rfl, by decide, uw_Ri, tk_Ri, nm_Ri, rfl, Or.inr ⟨g_memT (g_t1 151 rfl) rfl, rfl, rfl, rfl⟩⟩
theorem lk_Gu_29 : ab_lk g_G "TurnRing$Guesser" 29 (tf_Ri 11) := Or.inl (g_memT (g_t1 152 rfl) rfl)
theorem fl_Gu_29 : ab_fl g_G "TurnRing$Guesser" 29 5 11 := ⟨"TurnRing$Ring", tf_Ri, 18, rfl, by decide, uw_Ri, lk_Gu_29⟩
theorem lk_Ri_18 : ab_lk g_G "TurnRing$Ring" 18 (tf_Ri 12) := Or.inl (g_memT (g_t1 153 rfl) rfl)
theorem fl_Ri_18 : ab_fl g_G "TurnRing$Ring" 18 5 12 := ⟨"TurnRing$Ring", tf_Ri, 18, rfl, by decide, uw_Ri, lk_Ri_18⟩
theorem fp_Ri_18 : ab_fp g_G "TurnRing$Ring" "<init>" 18 5 12 (ty_Ri 12) := ⟨"TurnRing$Ring", tf_Ri, 18, ty_Ri, rfl, by decide, uw_Ri, tk_Ri, nm_Ri, rfl, Or.inr ⟨g_memT (g_t1 153 rfl) rfl, rfl, rfl, rfl⟩⟩
theorem lk_Tu_129 : ab_lk g_G "TurnRing" 129 (tf_Ri 12) := Or.inl (g_memT (g_t1 154 rfl) rfl)
theorem fl_Tu_129 : ab_fl g_G "TurnRing" 129 5 12 := ⟨"TurnRing$Ring", tf_Ri, 18, rfl, by decide, uw_Ri, lk_Tu_129⟩
theorem lk_Ri_21 : ab_lk g_G "TurnRing$Ring" 21 (tf_Ri 13) := Or.inl (g_memT (g_t1 155 rfl) rfl)
theorem fl_Ri_21 : ab_fl g_G "TurnRing$Ring" 21 5 13 := ⟨"TurnRing$Ring", tf_Ri, 18, rfl, by decide, uw_Ri, lk_Ri_21⟩
theorem fp_Ri_21 : ab_fp g_G "TurnRing$Ring" "<init>" 21 5 13 (ty_Ri 13) := ⟨"TurnRing$Ring", tf_Ri, 18, ty_Ri, rfl, by decide, uw_Ri, tk_Ri, nm_Ri, rfl, Or.inr ⟨g_memT (g_t1 155 rfl) rfl, rfl, rfl, rfl⟩⟩
theorem lk_Tu_122 : ab_lk g_G "TurnRing" 122 (tf_Ri 13) := Or.inl (g_memT (g_t1 156 rfl) rfl)
theorem fl_Tu_122 : ab_fl g_G "TurnRing" 122 5 13 := ⟨"TurnRing$Ring", tf_Ri, 18, rfl, by decide, uw_Ri, lk_Tu_122⟩
theorem lk_Rr_102 : ab_lk g_G "TurnRing$RingReader" 102 (tf_Ri 13) := Or.inl (g_memT (g_t1 157 rfl) rfl)
theorem fl_Rr_102 : ab_fl g_G "TurnRing$RingReader" 102 5 13 := ⟨"TurnRing$Ring", tf_Ri, 18, rfl, by decide, uw_Ri, lk_Rr_102⟩
theorem lk_Ri_24 : ab_lk g_G "TurnRing$Ring" 24 (tf_Ri 14) := Or.inl (g_memT (g_t1 158 rfl) rfl)
theorem fl_Ri_24 : ab_fl g_G "TurnRing$Ring" 24 5 14 := ⟨"TurnRing$Ring", tf_Ri, 18, rfl, by decide, uw_Ri, lk_Ri_24⟩
theorem fp_Ri_24 : ab_fp g_G "TurnRing$Ring" "<init>" 24 5 14 (ty_Ri 14) := ⟨"TurnRing$Ring", tf_Ri, 18, ty_Ri, rfl, by decide, uw_Ri, tk_Ri, nm_Ri, rfl, Or.inr ⟨g_memT (g_t1 158 rfl) rfl, rfl, rfl, rfl⟩⟩
theorem lk_Ri_28 : ab_lk g_G "TurnRing$Ring" 28 (tf_Ri 15) := Or.inl (g_memT (g_t1 159 rfl) rfl)
theorem fl_Ri_28 : ab_fl g_G "TurnRing$Ring" 28 5 15 := ⟨"TurnRing$Ring", tf_Ri, 18, rfl, by decide, uw_Ri, lk_Ri_28⟩
theorem fp_Ri_28 : ab_fp g_G "TurnRing$Ring" "<init>" 28 5 15 (ty_Ri 15) := ⟨"TurnRing$Ring", tf_Ri, 18, ty_Ri, rfl, by decide, uw_Ri, tk_Ri, nm_Ri, rfl, Or.inr ⟨g_memT (g_t1 159 rfl) rfl, rfl, rfl, rfl⟩⟩
theorem lk_Ac_38 : ab_lk g_G "TurnRing$ActLog" 38 (tf_Ri 15) := Or.inl (g_memT (g_t1 160 rfl) rfl)
theorem fl_Ac_38 : ab_fl g_G "TurnRing$ActLog" 38 5 15 := ⟨"TurnRing$Ring", tf_Ri, 18, rfl, by decide, uw_Ri, lk_Ac_38⟩
theorem lk_Tu_165 : ab_lk g_G "TurnRing" 165 (tf_Ri 15) := Or.inl (g_memT (g_t1 161 rfl) rfl)
theorem fl_Tu_165 : ab_fl g_G "TurnRing" 165 5 15 := ⟨"TurnRing$Ring", tf_Ri, 18, rfl, by decide, uw_Ri, lk_Tu_165⟩
theorem lk_Ma_73 : ab_lk g_G "TurnRing$Machine" 73 (tf_Ri 15) := Or.inl (g_memT (g_t1 162 rfl) rfl)
theorem fl_Ma_73 : ab_fl g_G "TurnRing$Machine" 73 5 15 := ⟨"TurnRing$Ring", tf_Ri, 18, rfl, by decide, uw_Ri, lk_Ma_73⟩
theorem lk_Ri_31 : ab_lk g_G "TurnRing$Ring" 31 (tf_Ri 16) := Or.inl (g_memT (g_t1 163 rfl) rfl)
theorem fl_Ri_31 : ab_fl g_G "TurnRing$Ring" 31 5 16 := ⟨"TurnRing$Ring", tf_Ri, 18, rfl, by decide, uw_Ri, lk_Ri_31⟩
theorem fp_Ri_31 : ab_fp g_G "TurnRing$Ring" "<init>" 31 5 16 (ty_Ri 16) := ⟨"TurnRing$Ring", tf_Ri, 18, ty_Ri, rfl, by decide, uw_Ri, tk_Ri, nm_Ri, rfl, Or.inr ⟨g_memT (g_t1 163 rfl) rfl, rfl, rfl, rfl⟩⟩
theorem lk_Ma_76 : ab_lk g_G "TurnRing$Machine" 76 (tf_Ri 16) := Or.inl (g_memT (g_t1 164 rfl) rfl)
theorem fl_Ma_76 : ab_fl g_G "TurnRing$Machine" 76 5 16 := ⟨"TurnRing$Ring", tf_Ri, 18, rfl, by decide, uw_Ri, lk_Ma_76⟩
theorem lk_Tu_168 : ab_lk g_G "TurnRing" 168 (tf_Ri 16) := Or.inl (g_memT (g_t1 165 rfl) rfl)
theorem fl_Tu_168 : ab_fl g_G "TurnRing" 168 5 16 := ⟨"TurnRing$Ring", tf_Ri, 18, rfl, by decide, uw_Ri, lk_Tu_168⟩
theorem lk_Ri_37 : ab_lk g_G "TurnRing$Ring" 37 (tf_Ri 17) := Or.inl (g_memT (g_t1 166 rfl) rfl)
theorem fl_Ri_37 : ab_fl g_G "TurnRing$Ring" 37 5 17 := ⟨"TurnRing$Ring", tf_Ri, 18, rfl, by decide, uw_Ri, lk_Ri_37⟩
theorem fp_Ri_37 : ab_fp g_G "TurnRing$Ring" "<init>" 37 5 17 (ty_Ri 17) := ⟨"TurnRing$Ring", tf_Ri, 18, ty_Ri, rfl, by decide, uw_Ri, tk_Ri, nm_Ri, rfl, Or.inr ⟨g_memT (g_t1 166 rfl) rfl, rfl, rfl, rfl⟩⟩
theorem lk_Gu_45 : ab_lk g_G "TurnRing$Guesser" 45 (tf_Ri 17) := Or.inl (g_memT (g_t1 167 rfl) rfl)
theorem fl_Gu_45 : ab_fl g_G "TurnRing$Guesser" 45 5 17 := ⟨"TurnRing$Ring", tf_Ri, 18, rfl, by decide, uw_Ri, lk_Gu_45⟩
theorem lk_Tu_192 : ab_lk g_G "TurnRing" 192 (tf_Ri 17) := Or.inl (g_memT (g_t1 168 rfl) rfl)
theorem fl_Tu_192 : ab_fl g_G "TurnRing" 192 5 17 := ⟨"TurnRing$Ring", tf_Ri, 18, rfl, by decide, uw_Ri, lk_Tu_192⟩
theorem lk_Ac_9 : ab_lk g_G "TurnRing$ActLog" 9 (tf_Ac 0) := Or.inl (g_memT (g_t1 215 rfl) rfl)
theorem fl_Ac_9 : ab_fl g_G "TurnRing$ActLog" 9 0 0 := ⟨"TurnRing$ActLog", tf_Ac, 5, rfl, by decide, uw_Ac, lk_Ac_9⟩
theorem fp_Ac_9 : ab_fp g_G "TurnRing$ActLog" "<init>" 9 0 0 (ty_Ac 0) := ⟨"TurnRing$ActLog", tf_Ac, 5, ty_Ac, rfl, by decide, uw_Ac, tk_Ac, nm_Ac, rfl, Or.inr ⟨g_memT (g_t1 215 rfl) rfl, rfl, rfl, rfl⟩⟩
theorem lk_Ac_13 : ab_lk g_G "TurnRing$ActLog" 13 (tf_Ac 1) := Or.inl (g_memT (g_t1 216 rfl) rfl)
theorem fl_Ac_13 : ab_fl g_G "TurnRing$ActLog" 13 0 1 := ⟨"TurnRing$ActLog", tf_Ac, 5, rfl, by decide, uw_Ac, lk_Ac_13⟩
theorem fp_Ac_13 : ab_fp g_G "TurnRing$ActLog" "<init>" 13 0 1 (ty_Ac 1) := ⟨"TurnRing$ActLog", tf_Ac, 5, ty_Ac, rfl, by decide, uw_Ac, tk_Ac, nm_Ac, rfl, Or.inr ⟨g_memT (g_t1 216 rfl) rfl, rfl, rfl, rfl⟩⟩
theorem lk_Ac_16 : ab_lk g_G "TurnRing$ActLog" 16 (tf_Ac 2) := Or.inl (g_memT (g_t1 217 rfl) rfl)
theorem fl_Ac_16 : ab_fl g_G "TurnRing$ActLog" 16 0 2 := ⟨"TurnRing$ActLog", tf_Ac, 5, rfl, by decide, uw_Ac, lk_Ac_16⟩
theorem fp_Ac_16 : ab_fp g_G "TurnRing$ActLog" "<init>" 16 0 2 (ty_Ac 2) := ⟨"TurnRing$ActLog", tf_Ac, 5, ty_Ac, rfl, by decide, uw_Ac, tk_Ac, nm_Ac, rfl, Or.inr ⟨g_memT (g_t1 217 rfl) rfl, rfl, rfl, rfl⟩⟩
theorem lk_Ac_19 : ab_lk g_G "TurnRing$ActLog" 19 (tf_Ac 3) := Or.inl (g_memT (g_t1 218 rfl) rfl)
theorem fl_Ac_19 : ab_fl g_G "TurnRing$ActLog" 19 0 3 := ⟨"TurnRing$ActLog", tf_Ac, 5, rfl, by decide, uw_Ac, lk_Ac_19⟩
theorem fp_Ac_19 (nm : String) : ab_fp g_G "TurnRing$ActLog" nm 19 0 3 (ty_Ac 3) := ⟨"TurnRing$ActLog", tf_Ac, 5, ty_Ac, rfl, by decide, uw_Ac, tk_Ac, nm_Ac, rfl, Or.inl ⟨lk_Ac_19, rfl⟩⟩
theorem lk_Tu_201 : ab_lk g_G "TurnRing" 201 (tf_Ac 3) := Or.inl (g_memT (g_t1 219 rfl) rfl)
theorem fl_Tu_201 : ab_fl g_G "TurnRing" 201 0 3 := ⟨"TurnRing$ActLog", tf_Ac, 5, rfl, by decide, uw_Ac, lk_Tu_201⟩
theorem lk_Ac_23 : ab_lk g_G "TurnRing$ActLog" 23 (tf_Ac 4) := Or.inl (g_memT (g_t1 220 rfl) rfl)
theorem fl_Ac_23 : ab_fl g_G "TurnRing$ActLog" 23 0 4 := ⟨"TurnRing$ActLog", tf_Ac, 5, rfl, by decide, uw_Ac, lk_Ac_23⟩
theorem fp_Ac_23 (nm : String) : ab_fp g_G "TurnRing$ActLog" nm 23 0 4 (ty_Ac 4) := ⟨"TurnRing$ActLog", tf_Ac, 5, ty_Ac, rfl, by decide, uw_Ac, tk_Ac, nm_Ac, rfl, Or.inl ⟨lk_Ac_23, rfl⟩⟩
theorem lk_Ru_9 : ab_lk g_G "TurnRing$RuleReader" 9 (tf_Ru 0) := Or.inl (g_memT (g_t1 239 rfl) rfl)
theorem fl_Ru_9 : ab_fl g_G "TurnRing$RuleReader" 9 7 0 := ⟨"TurnRing$RuleReader", tf_Ru, 3, rfl, by decide, uw_Ru, lk_Ru_9⟩
theorem fp_Ru_9 : ab_fp g_G "TurnRing$RuleReader" "<init>" 9 7 0 (ty_Ru 0) := ⟨"TurnRing$RuleReader", tf_Ru, 3, ty_Ru, rfl, by decide, uw_Ru, tk_Ru, nm_Ru, rfl, Or.inr ⟨g_memT (g_t1 239 rfl) rfl, rfl, rfl, rfl⟩⟩
theorem lk_Ru_23 : ab_lk g_G "TurnRing$RuleReader" 23 (tf_Ru 1) := Or.inl (g_memT (g_t2 0 rfl) rfl)
theorem fl_Ru_23 : ab_fl g_G "TurnRing$RuleReader" 23 7 1 := ⟨"TurnRing$RuleReader", tf_Ru, 3, rfl, by decide, uw_Ru, lk_Ru_23⟩
theorem fp_Ru_23 (nm : String) : ab_fp g_G "TurnRing$RuleReader" nm 23 7 1 (ty_Ru 1) := ⟨"TurnRing$RuleReader", tf_Ru, 3, ty_Ru, rfl, by decide, uw_Ru, tk_Ru, nm_Ru, rfl, Or.inl ⟨lk_Ru_23, rfl⟩⟩
theorem lk_Ru_27 : ab_lk g_G "TurnRing$RuleReader" 27 (tf_Ru 2) := Or.inl (g_memT (g_t2 1 rfl) rfl)
theorem fl_Ru_27 : ab_fl g_G "TurnRing$RuleReader" 27 7 2 := ⟨"TurnRing$RuleReader", tf_Ru, 3, rfl, by decide, uw_Ru, lk_Ru_27⟩
theorem fp_Ru_27 (nm : String) : ab_fp g_G "TurnRing$RuleReader" nm 27 7 2 (ty_Ru 2) := ⟨"TurnRing$RuleReader", tf_Ru, 3, ty_Ru, rfl, by decide, uw_Ru, tk_Ru, nm_Ru, rfl, Or.inl ⟨lk_Ru_27, rfl⟩⟩
theorem lk_Ma_11 : ab_lk g_G "TurnRing$Machine" 11 (tf_Ma 0) := Or.inl (g_memT (g_t2 15 rfl) rfl)
theorem fl_Ma_11 : ab_fl g_G "TurnRing$Machine" 11 3 0 := ⟨"TurnRing$Machine", tf_Ma, 2, rfl, by decide, uw_Ma, lk_Ma_11⟩
theorem fp_Ma_11 : ab_fp g_G "TurnRing$Machine" "<init>" 11 3 0 (ty_Ma 0) := ⟨"TurnRing$Machine", tf_Ma, 2, ty_Ma, rfl, by decide, uw_Ma, tk_Ma, nm_Ma, rfl, Or.inr ⟨g_memT (g_t2 15 rfl) rfl, rfl, rfl, rfl⟩⟩
theorem lk_Ma_15 : ab_lk g_G "TurnRing$Machine" 15 (tf_Ma 1) := Or.inl (g_memT (g_t2 16 rfl) rfl)
theorem fl_Ma_15 : ab_fl g_G "TurnRing$Machine" 15 3 1 := ⟨"TurnRing$Machine", tf_Ma, 2, rfl, by decide, uw_Ma, lk_Ma_15⟩
theorem fp_Ma_15 (nm : String) : ab_fp g_G "TurnRing$Machine" nm 15 3 1 (ty_Ma 1) := ⟨"TurnRing$Machine", tf_Ma, 2, ty_Ma, rfl, by decide, uw_Ma, tk_Ma, nm_Ma, rfl, Or.inl ⟨lk_Ma_15, rfl⟩⟩
theorem lk_Pl_11 : ab_lk g_G "TurnRing$Planner" 11 (tf_Pl 0) := Or.inl (g_memT (g_t2 28 rfl) rfl)
theorem fl_Pl_11 : ab_fl g_G "TurnRing$Planner" 11 4 0 := ⟨"TurnRing$Planner", tf_Pl, 5, rfl, by decide, uw_Pl, lk_Pl_11⟩
theorem fp_Pl_11 : ab_fp g_G "TurnRing$Planner" "<init>" 11 4 0 (ty_Pl 0) := ⟨"TurnRing$Planner", tf_Pl, 5, ty_Pl, rfl, by decide, uw_Pl, tk_Pl, nm_Pl, rfl, Or.inr ⟨g_memT (g_t2 28 rfl) rfl, rfl, rfl, rfl⟩⟩
theorem lk_Pl_15 : ab_lk g_G "TurnRing$Planner" 15 (tf_Pl 1) := Or.inl (g_memT (g_t2 29 rfl) rfl)
theorem fl_Pl_15 : ab_fl g_G "TurnRing$Planner" 15 4 1 := ⟨"TurnRing$Planner", tf_Pl, 5, rfl, by decide, uw_Pl, lk_Pl_15⟩
theorem fp_Pl_15 : ab_fp g_G "TurnRing$Planner" "<init>" 15 4 1 (ty_Pl 1) := ⟨"TurnRing$Planner", tf_Pl, 5, ty_Pl, rfl, by decide, uw_Pl, tk_Pl, nm_Pl, rfl, Or.inr ⟨g_memT (g_t2 29 rfl) rfl, rfl, rfl, rfl⟩⟩
theorem lk_Tu_280 : ab_lk g_G "TurnRing" 280 (tf_Pl 1) := Or.inl (g_memT (g_t2 30 rfl) rfl)
theorem fl_Tu_280 : ab_fl g_G "TurnRing" 280 4 1 := ⟨"TurnRing$Planner", tf_Pl, 5, rfl, by decide, uw_Pl, lk_Tu_280⟩
theorem lk_Pl_47 : ab_lk g_G "TurnRing$Planner" 47 (tf_Pl 2) := Or.inl (g_memT (g_t2 31 rfl) rfl)
theorem fl_Pl_47 : ab_fl g_G "TurnRing$Planner" 47 4 2 := ⟨"TurnRing$Planner", tf_Pl, 5, rfl, by decide, uw_Pl, lk_Pl_47⟩
theorem fp_Pl_47 (nm : String) : ab_fp g_G "TurnRing$Planner" nm 47 4 2 (ty_Pl 2) := ⟨"TurnRing$Planner", tf_Pl, 5, ty_Pl, rfl, by decide, uw_Pl, tk_Pl, nm_Pl, rfl, Or.inl ⟨lk_Pl_47, rfl⟩⟩
theorem lk_Tu_277 : ab_lk g_G "TurnRing" 277 (tf_Pl 2) := Or.inl (g_memT (g_t2 32 rfl) rfl)
theorem fl_Tu_277 : ab_fl g_G "TurnRing" 277 4 2 := ⟨"TurnRing$Planner", tf_Pl, 5, rfl, by decide, uw_Pl, lk_Tu_277⟩
theorem lk_Pl_18 : ab_lk g_G "TurnRing$Planner" 18 (tf_Pl 3) := Or.inl (g_memT (g_t2 33 rfl) rfl)
theorem fl_Pl_18 : ab_fl g_G "TurnRing$Planner" 18 4 3 := ⟨"TurnRing$Planner", tf_Pl, 5, rfl, by decide, uw_Pl, lk_Pl_18⟩
theorem fp_Pl_18 : ab_fp g_G "TurnRing$Planner" "<init>" 18 4 3 (ty_Pl 3) := ⟨"TurnRing$Planner", tf_Pl, 5, ty_Pl, rfl, by decide, uw_Pl, tk_Pl, nm_Pl, rfl, Or.inr ⟨g_memT (g_t2 33 rfl) rfl, rfl, rfl, rfl⟩⟩
theorem lk_Pl_21 : ab_lk g_G "TurnRing$Planner" 21 (tf_Pl 4) := Or.inl (g_memT (g_t2 34 rfl) rfl)
theorem fl_Pl_21 : ab_fl g_G "TurnRing$Planner" 21 4 4 := ⟨"TurnRing$Planner", tf_Pl, 5, rfl, by decide, uw_Pl, lk_Pl_21⟩
theorem fp_Pl_21 : ab_fp g_G "TurnRing$Planner" "<init>" 21 4 4 (ty_Pl 4) := ⟨"TurnRing$Planner", tf_Pl, 5, ty_Pl, rfl, by decide, uw_Pl, tk_Pl, nm_Pl, rfl, Or.inr ⟨g_memT (g_t2 34 rfl) rfl, rfl, rfl, rfl⟩⟩
theorem lk_Tr_9 : ab_lk g_G "TurnRing$Trader" 9 (tf_Tr 0) := Or.inl (g_memT (g_t2 52 rfl) rfl)
theorem fl_Tr_9 : ab_fl g_G "TurnRing$Trader" 9 9 0 := ⟨"TurnRing$Trader", tf_Tr, 5, rfl, by decide, uw_Tr, lk_Tr_9⟩
theorem fp_Tr_9 : ab_fp g_G "TurnRing$Trader" "<init>" 9 9 0 (ty_Tr 0) := ⟨"TurnRing$Trader", tf_Tr, 5, ty_Tr, rfl, by decide, uw_Tr, tk_Tr, nm_Tr, rfl, Or.inr ⟨g_memT (g_t2 52 rfl) rfl, rfl, rfl, rfl⟩⟩
theorem lk_Tr_15 : ab_lk g_G "TurnRing$Trader" 15 (tf_Tr 1) := Or.inl (g_memT (g_t2 53 rfl) rfl)
theorem fl_Tr_15 : ab_fl g_G "TurnRing$Trader" 15 9 1 := ⟨"TurnRing$Trader", tf_Tr, 5, rfl, by decide, uw_Tr, lk_Tr_15⟩
theorem fp_Tr_15 : ab_fp g_G "TurnRing$Trader" "<init>" 15 9 1 (ty_Tr 1) := ⟨"TurnRing$Trader", tf_Tr, 5, ty_Tr, rfl, by decide, uw_Tr, tk_Tr, nm_Tr, rfl, Or.inr ⟨g_memT (g_t2 53 rfl) rfl, rfl, rfl, rfl⟩⟩
theorem lk_Tr_18 : ab_lk g_G "TurnRing$Trader" 18 (tf_Tr 2) := Or.inl (g_memT (g_t2 54 rfl) rfl)
theorem fl_Tr_18 : ab_fl g_G "TurnRing$Trader" 18 9 2 := ⟨"TurnRing$Trader", tf_Tr, 5, rfl, by decide, uw_Tr, lk_Tr_18⟩
theorem fp_Tr_18 : ab_fp g_G "TurnRing$Trader" "<init>" 18 9 2 (ty_Tr 2) := ⟨"TurnRing$Trader", tf_Tr, 5, ty_Tr, rfl, by decide, uw_Tr, tk_Tr, nm_Tr, rfl, Or.inr ⟨g_memT (g_t2 54 rfl) rfl, rfl, rfl, rfl⟩⟩
theorem lk_Tr_21 : ab_lk g_G "TurnRing$Trader" 21 (tf_Tr 3) := Or.inl (g_memT (g_t2 55 rfl) rfl)
theorem fl_Tr_21 : ab_fl g_G "TurnRing$Trader" 21 9 3 := ⟨"TurnRing$Trader", tf_Tr, 5, rfl, by decide, uw_Tr, lk_Tr_21⟩
theorem fp_Tr_21 : ab_fp g_G "TurnRing$Trader" "<init>" 21 9 3 (ty_Tr 3) := ⟨"TurnRing$Trader", tf_Tr, 5, ty_Tr, rfl, by decide, uw_Tr, tk_Tr, nm_Tr, rfl, Or.inr ⟨g_memT (g_t2 55 rfl) rfl, rfl, rfl, rfl⟩⟩
theorem lk_Tu_286 : ab_lk g_G "TurnRing" 286 (tf_Tr 3) := Or.inl (g_memT (g_t2 56 rfl) rfl)
theorem fl_Tu_286 : ab_fl g_G "TurnRing" 286 9 3 := ⟨"TurnRing$Trader", tf_Tr, 5, rfl, by decide, uw_Tr, lk_Tu_286⟩
theorem lk_Tr_24 : ab_lk g_G "TurnRing$Trader" 24 (tf_Tr 4) := Or.inl (g_memT (g_t2 57 rfl) rfl)
theorem fl_Tr_24 : ab_fl g_G "TurnRing$Trader" 24 9 4 := ⟨"TurnRing$Trader", tf_Tr, 5, rfl, by decide, uw_Tr, lk_Tr_24⟩
theorem fp_Tr_24 : ab_fp g_G "TurnRing$Trader" "<init>" 24 9 4 (ty_Tr 4) := ⟨"TurnRing$Trader", tf_Tr, 5, ty_Tr, rfl, by decide, uw_Tr, tk_Tr, nm_Tr, rfl, Or.inr ⟨g_memT (g_t2 57 rfl) rfl, rfl, rfl, rfl⟩⟩
theorem lk_Tu_289 : ab_lk g_G "TurnRing" 289 (tf_Tr 4) := Or.inl (g_memT (g_t2 58 rfl) rfl)
theorem fl_Tu_289 : ab_fl g_G "TurnRing" 289 9 4 := ⟨"TurnRing$Trader", tf_Tr, 5, rfl, by decide, uw_Tr, lk_Tu_289⟩
theorem lk_Gu_11 : ab_lk g_G "TurnRing$Guesser" 11 (tf_Gu 0) := Or.inl (g_memT (g_t2 76 rfl) rfl)
theorem fl_Gu_11 : ab_fl g_G "TurnRing$Guesser" 11 2 0 := ⟨"TurnRing$Guesser", tf_Gu, 6, rfl, by decide, uw_Gu, lk_Gu_11⟩
theorem fp_Gu_11 : ab_fp g_G "TurnRing$Guesser" "<init>" 11 2 0 (ty_Gu 0) := ⟨"TurnRing$Guesser", tf_Gu, 6, ty_Gu, rfl, by decide, uw_Gu, tk_Gu, nm_Gu, rfl, Or.inr ⟨g_memT (g_t2 76 rfl) rfl, rfl, rfl, rfl⟩⟩
theorem lk_Tu_319 : ab_lk g_G "TurnRing" 319 (tf_Gu 0) := Or.inl (g_memT (g_t2 77 rfl) rfl)
theorem fl_Tu_319 : ab_fl g_G "TurnRing" 319 2 0 := ⟨"TurnRing$Guesser", tf_Gu, 6, rfl, by decide, uw_Gu, lk_Tu_319⟩
theorem lk_Gu_15 : ab_lk g_G "TurnRing$Guesser" 15 (tf_Gu 1) := Or.inl (g_memT (g_t2 78 rfl) rfl)
theorem fl_Gu_15 : ab_fl g_G "TurnRing$Guesser" 15 2 1 := ⟨"TurnRing$Guesser", tf_Gu, 6, rfl, by decide, uw_Gu, lk_Gu_15⟩
theorem fp_Gu_15 : ab_fp g_G "TurnRing$Guesser" "<init>" 15 2 1 (ty_Gu 1) := ⟨"TurnRing$Guesser", tf_Gu, 6, ty_Gu, rfl, by decide, uw_Gu, tk_Gu, nm_Gu, rfl, Or.inr ⟨g_memT (g_t2 78 rfl) rfl, rfl, rfl, rfl⟩⟩
theorem lk_Tu_321 : ab_lk g_G "TurnRing" 321 (tf_Gu 1) := Or.inl (g_memT (g_t2 79 rfl) rfl)
theorem fl_Tu_321 : ab_fl g_G "TurnRing" 321 2 1 := ⟨"TurnRing$Guesser", tf_Gu, 6, rfl, by decide, uw_Gu, lk_Tu_321⟩
theorem lk_Gu_21 : ab_lk g_G "TurnRing$Guesser" 21 (tf_Gu 2) := Or.inl (g_memT (g_t2 80 rfl) rfl)
theorem fl_Gu_21 : ab_fl g_G "TurnRing$Guesser" 21 2 2 := ⟨"TurnRing$Guesser", tf_Gu, 6, rfl, by decide, uw_Gu, lk_Gu_21⟩
theorem fp_Gu_21 (nm : String) : ab_fp g_G "TurnRing$Guesser" nm 21 2 2 (ty_Gu 2) := ⟨"TurnRing$Guesser", tf_Gu, 6, ty_Gu, rfl, by decide, uw_Gu, tk_Gu, nm_Gu, rfl, Or.inl ⟨lk_Gu_21, rfl⟩⟩
theorem lk_Tu_316 : ab_lk g_G "TurnRing" 316 (tf_Gu 2) := Or.inl (g_memT (g_t2 81 rfl) rfl)
theorem fl_Tu_316 : ab_fl g_G "TurnRing" 316 2 2 := ⟨"TurnRing$Guesser", tf_Gu, 6, rfl, by decide, uw_Gu, lk_Tu_316⟩
theorem lk_Gu_18 : ab_lk g_G "TurnRing$Guesser" 18 (tf_Gu 3) := Or.inl (g_memT (g_t2 82 rfl) rfl)
theorem fl_Gu_18 : ab_fl g_G "TurnRing$Guesser" 18 2 3 := ⟨"TurnRing$Guesser", tf_Gu, 6, rfl, by decide, uw_Gu, lk_Gu_18⟩
theorem fp_Gu_18 : ab_fp g_G "TurnRing$Guesser" "<init>" 18 2 3 (ty_Gu 3) := ⟨"TurnRing$Guesser", tf_Gu, 6, ty_Gu, rfl, by decide, uw_Gu, tk_Gu, nm_Gu, rfl, Or.inr ⟨g_memT (g_t2 82 rfl) rfl, rfl, rfl, rfl⟩⟩
theorem lk_Gu_87 : ab_lk g_G "TurnRing$Guesser" 87 (tf_Gu 4) := Or.inl (g_memT (g_t2 83 rfl) rfl)
theorem fp_Gu_87 (nm : String) : ab_fp g_G "TurnRing$Guesser" nm 87 2 4 (ty_Gu 4) := ⟨"TurnRing$Guesser", tf_Gu, 6, ty_Gu, rfl, by decide, uw_Gu, tk_Gu, nm_Gu, rfl, Or.inl ⟨lk_Gu_87, rfl⟩⟩
theorem lk_Tu_331 : ab_lk g_G "TurnRing" 331 (tf_Gu 4) := Or.inl (g_memT (g_t2 84 rfl) rfl)
theorem fl_Tu_331 : ab_fl g_G "TurnRing" 331 2 4 := ⟨"TurnRing$Guesser", tf_Gu, 6, rfl, by decide, uw_Gu, lk_Tu_331⟩
theorem lk_Gu_84 : ab_lk g_G "TurnRing$Guesser" 84 (tf_Gu 5) := Or.inl (g_memT (g_t2 85 rfl) rfl)
theorem fl_Gu_84 : ab_fl g_G "TurnRing$Guesser" 84 2 5 := ⟨"TurnRing$Guesser", tf_Gu, 6, rfl, by decide, uw_Gu, lk_Gu_84⟩
theorem fp_Gu_84 (nm : String) : ab_fp g_G "TurnRing$Guesser" nm 84 2 5 (ty_Gu 5) := ⟨"TurnRing$Guesser", tf_Gu, 6, ty_Gu, rfl, by decide, uw_Gu, tk_Gu, nm_Gu, rfl, Or.inl ⟨lk_Gu_84, rfl⟩⟩
theorem lk_Tu_328 : ab_lk g_G "TurnRing" 328 (tf_Gu 5) := Or.inl (g_memT (g_t2 86 rfl) rfl)
theorem fl_Tu_328 : ab_fl g_G "TurnRing" 328 2 5 := ⟨"TurnRing$Guesser", tf_Gu, 6, rfl, by decide, uw_Gu, lk_Tu_328⟩
theorem lk_Tu_10 : ab_lk g_G "TurnRing" 10 (tf_Tu 0) := Or.inl (g_memT (g_t2 100 rfl) rfl)
theorem fl_Tu_10 : ab_fl g_G "TurnRing" 10 10 0 := ⟨"TurnRing", tf_Tu, 13, rfl, by decide, uw_Tu, lk_Tu_10⟩
theorem fp_Tu_10 : ab_fp g_G "TurnRing" "<init>" 10 10 0 (ty_Tu 0) := ⟨"TurnRing", tf_Tu, 13, ty_Tu, rfl, by decide, uw_Tu, tk_Tu, nm_Tu, rfl, Or.inr ⟨g_memT (g_t2 100 rfl) rfl, rfl, rfl, rfl⟩⟩
theorem lk_Tu_19 : ab_lk g_G "TurnRing" 19 (tf_Tu 1) := Or.inl (g_memT (g_t2 101 rfl) rfl)
theorem fl_Tu_19 : ab_fl g_G "TurnRing" 19 10 1 := ⟨"TurnRing", tf_Tu, 13, rfl, by decide, uw_Tu, lk_Tu_19⟩
theorem fp_Tu_19 (nm : String) : ab_fp g_G "TurnRing" nm 19 10 1 (ty_Tu 1) := ⟨"TurnRing", tf_Tu, 13, ty_Tu, rfl, by decide, uw_Tu, tk_Tu, nm_Tu, rfl, Or.inl ⟨lk_Tu_19, rfl⟩⟩
theorem lk_Tu_23 : ab_lk g_G "TurnRing" 23 (tf_Tu 2) := Or.inl (g_memT (g_t2 102 rfl) rfl)
theorem fl_Tu_23 : ab_fl g_G "TurnRing" 23 10 2 := ⟨"TurnRing", tf_Tu, 13, rfl, by decide, uw_Tu, lk_Tu_23⟩
theorem fp_Tu_23 (nm : String) : ab_fp g_G "TurnRing" nm 23 10 2 (ty_Tu 2) := ⟨"TurnRing", tf_Tu, 13, ty_Tu, rfl, by decide, uw_Tu, tk_Tu, nm_Tu, rfl, Or.inl ⟨lk_Tu_23, rfl⟩⟩
theorem lk_Tu_26 : ab_lk g_G "TurnRing" 26 (tf_Tu 3) := Or.inl (g_memT (g_t2 103 rfl) rfl)
theorem fl_Tu_26 : ab_fl g_G "TurnRing" 26 10 3 := ⟨"TurnRing", tf_Tu, 13, rfl, by decide, uw_Tu, lk_Tu_26⟩
theorem fp_Tu_26 : ab_fp g_G "TurnRing" "<init>" 26 10 3 (ty_Tu 3) := ⟨"TurnRing", tf_Tu, 13, ty_Tu, rfl, by decide, uw_Tu, tk_Tu, nm_Tu, rfl, Or.inr ⟨g_memT (g_t2 103 rfl) rfl, rfl, rfl, rfl⟩⟩
theorem lk_Tu_30 : ab_lk g_G "TurnRing" 30 (tf_Tu 4) := Or.inl (g_memT (g_t2 104 rfl) rfl)
theorem fl_Tu_30 : ab_fl g_G "TurnRing" 30 10 4 := ⟨"TurnRing", tf_Tu, 13, rfl, by decide, uw_Tu, lk_Tu_30⟩
theorem fp_Tu_30 : ab_fp g_G "TurnRing" "<init>" 30 10 4 (ty_Tu 4) := ⟨"TurnRing", tf_Tu, 13, ty_Tu, rfl, by decide, uw_Tu, tk_Tu, nm_Tu, rfl, Or.inr ⟨g_memT (g_t2 104 rfl) rfl, rfl, rfl, rfl⟩⟩
theorem lk_Tu_36 : ab_lk g_G "TurnRing" 36 (tf_Tu 5) := Or.inl (g_memT (g_t2 105 rfl) rfl)
theorem fl_Tu_36 : ab_fl g_G "TurnRing" 36 10 5 := ⟨"TurnRing", tf_Tu, 13, rfl, by decide, uw_Tu, lk_Tu_36⟩
theorem fp_Tu_36 : ab_fp g_G "TurnRing" "<init>" 36 10 5 (ty_Tu 5) := ⟨"TurnRing", tf_Tu, 13, ty_Tu, rfl, by decide, uw_Tu, tk_Tu, nm_Tu, rfl, Or.inr ⟨g_memT (g_t2 105 rfl) rfl, rfl, rfl, rfl⟩⟩
theorem lk_Tu_105 : ab_lk g_G "TurnRing" 105 (tf_Tu 6) := Or.inl (g_memT (g_t2 106 rfl) rfl)
theorem fl_Tu_105 : ab_fl g_G "TurnRing" 105 10 6 := ⟨"TurnRing", tf_Tu, 13, rfl, by decide, uw_Tu, lk_Tu_105⟩
theorem fp_Tu_105 (nm : String) : ab_fp g_G "TurnRing" nm 105 10 6 (ty_Tu 6) := ⟨"TurnRing", tf_Tu, 13, ty_Tu, rfl, by decide, uw_Tu, tk_Tu, nm_Tu, rfl, Or.inl ⟨lk_Tu_105, rfl⟩⟩
theorem lk_Tu_43 : ab_lk g_G "TurnRing" 43 (tf_Tu 7) := Or.inl (g_memT (g_t2 107 rfl) rfl)
theorem fl_Tu_43 : ab_fl g_G "TurnRing" 43 10 7 := ⟨"TurnRing", tf_Tu, 13, rfl, by decide, uw_Tu, lk_Tu_43⟩
theorem fp_Tu_43 : ab_fp g_G "TurnRing" "<init>" 43 10 7 (ty_Tu 7) := ⟨"TurnRing", tf_Tu, 13, ty_Tu, rfl, by decide, uw_Tu, tk_Tu, nm_Tu, rfl, Or.inr ⟨g_memT (g_t2 107 rfl) rfl, rfl, rfl, rfl⟩⟩
theorem lk_Tu_50 : ab_lk g_G "TurnRing" 50 (tf_Tu 8) := Or.inl (g_memT (g_t2 108 rfl) rfl)
theorem fl_Tu_50 : ab_fl g_G "TurnRing" 50 10 8 := ⟨"TurnRing", tf_Tu, 13, rfl, by decide, uw_Tu, lk_Tu_50⟩
theorem fp_Tu_50 : ab_fp g_G "TurnRing" "<init>" 50 10 8 (ty_Tu 8) := ⟨"TurnRing", tf_Tu, 13, ty_Tu, rfl, by decide, uw_Tu, tk_Tu, nm_Tu, rfl, Or.inr ⟨g_memT (g_t2 108 rfl) rfl, rfl, rfl, rfl⟩⟩
theorem lk_Tu_57 : ab_lk g_G "TurnRing" 57 (tf_Tu 9) := Or.inl (g_memT (g_t2 109 rfl) rfl)
theorem fl_Tu_57 : ab_fl g_G "TurnRing" 57 10 9 := ⟨"TurnRing", tf_Tu, 13, rfl, by decide, uw_Tu, lk_Tu_57⟩
theorem fp_Tu_57 : ab_fp g_G "TurnRing" "<init>" 57 10 9 (ty_Tu 9) := ⟨"TurnRing", tf_Tu, 13, ty_Tu, rfl, by decide, uw_Tu, tk_Tu, nm_Tu, rfl, Or.inr ⟨g_memT (g_t2 109 rfl) rfl, rfl, rfl, rfl⟩⟩
theorem lk_Tu_64 : ab_lk g_G "TurnRing" 64 (tf_Tu 10) := Or.inl (g_memT (g_t2 110 rfl) rfl)
theorem fl_Tu_64 : ab_fl g_G "TurnRing" 64 10 10 := ⟨"TurnRing", tf_Tu, 13, rfl, by decide, uw_Tu, lk_Tu_64⟩
theorem fp_Tu_64 : ab_fp g_G "TurnRing" "<init>" 64 10 10 (ty_Tu 10) := ⟨"TurnRing", tf_Tu, 13, ty_Tu, rfl, by decide, uw_Tu, tk_Tu, nm_Tu, rfl, Or.inr ⟨g_memT (g_t2 110 rfl) rfl, rfl, rfl, rfl⟩⟩
theorem lk_Tu_71 : ab_lk g_G "TurnRing" 71 (tf_Tu 11) := Or.inl (g_memT (g_t2 111 rfl) rfl)
theorem fl_Tu_71 : ab_fl g_G "TurnRing" 71 10 11 := ⟨"TurnRing", tf_Tu, 13, rfl, by decide, uw_Tu, lk_Tu_71⟩
theorem fp_Tu_71 : ab_fp g_G "TurnRing" "<init>" 71 10 11 (ty_Tu 11) := ⟨"TurnRing", tf_Tu, 13, ty_Tu, rfl, by decide, uw_Tu, tk_Tu, nm_Tu, rfl, Or.inr ⟨g_memT (g_t2 111 rfl) rfl, rfl, rfl, rfl⟩⟩
theorem lk_Tu_78 : ab_lk g_G "TurnRing" 78 (tf_Tu 12) := Or.inl (g_memT (g_t2 112 rfl) rfl)
theorem fl_Tu_78 : ab_fl g_G "TurnRing" 78 10 12 := ⟨"TurnRing", tf_Tu, 13, rfl, by decide, uw_Tu, lk_Tu_78⟩
theorem fp_Tu_78 : ab_fp g_G "TurnRing" "<init>" 78 10 12 (ty_Tu 12) := ⟨"TurnRing", tf_Tu, 13, ty_Tu, rfl, by decide, uw_Tu, tk_Tu, nm_Tu, rfl, Or.inr ⟨g_memT (g_t2 112 rfl) rfl, rfl, rfl, rfl⟩⟩
theorem fp_Ro_7 : ab_fp g_G "TurnRing$Rule" "<init>" 7 6 0 (ty_Ro 0) := ⟨"TurnRing$Rule", tf_Ro, 1, ty_Ro, rfl, by decide, uw_Ro, tk_Ro, nm_Ro, rfl, Or.inr ⟨g_memT (g_t3 122 rfl) rfl, rfl, rfl, rfl⟩⟩
theorem lk_Ma_19 : ab_lk g_G "TurnRing$Machine" 19 (tf_Ro 0) := Or.inl (g_memT (g_t3 123 rfl) rfl)
theorem fl_Ma_19 : ab_fl g_G "TurnRing$Machine" 19 6 0 := ⟨"TurnRing$Rule", tf_Ro, 1, rfl, by decide, uw_Ro, lk_Ma_19⟩
theorem lk_Mo_7 : ab_lk g_G "TurnRingModel" 7 (tf_Mo 0) := Or.inl (g_memT (g_t5 58 rfl) rfl)
theorem fl_Mo_7 : ab_fl g_G "TurnRingModel" 7 11 0 := ⟨"TurnRingModel", tf_Mo, 37, rfl, by decide, uw_Mo, lk_Mo_7⟩
theorem fp_Mo_7 : ab_fp g_G "TurnRingModel" "<init>" 7 11 0 (ty_Mo 0) := ⟨"TurnRingModel", tf_Mo, 37, ty_Mo, rfl, by decide, uw_Mo, tk_Mo, nm_Mo, rfl, Or.inr ⟨g_memT (g_t5 58 rfl) rfl, rfl, rfl, rfl⟩⟩
theorem lk_Mo_76 : ab_lk g_G "TurnRingModel" 76 (tf_Mo 1) := Or.inl (g_memT (g_t5 59 rfl) rfl)
theorem fl_Mo_76 : ab_fl g_G "TurnRingModel" 76 11 1 := ⟨"TurnRingModel", tf_Mo, 37, rfl, by decide, uw_Mo, lk_Mo_76⟩
theorem fp_Mo_76 (nm : String) : ab_fp g_G "TurnRingModel" nm 76 11 1 (ty_Mo 1) := ⟨"TurnRingModel", tf_Mo, 37, ty_Mo, rfl, by decide, uw_Mo, tk_Mo, nm_Mo, rfl, Or.inl ⟨lk_Mo_76, rfl⟩⟩
theorem lk_Mo_266 : ab_lk g_G "TurnRingModel" 266 (tf_Mo 2) := Or.inl (g_memT (g_t5 60 rfl) rfl)
theorem fl_Mo_266 : ab_fl g_G "TurnRingModel" 266 11 2 := ⟨"TurnRingModel", tf_Mo, 37, rfl, by decide, uw_Mo, lk_Mo_266⟩
theorem fp_Mo_266 (nm : String) : ab_fp g_G "TurnRingModel" nm 266 11 2 (ty_Mo 2) := ⟨"TurnRingModel", tf_Mo, 37, ty_Mo, rfl, by decide, uw_Mo, tk_Mo, nm_Mo, rfl, Or.inl ⟨lk_Mo_266, rfl⟩⟩
theorem lk_Mo_13 : ab_lk g_G "TurnRingModel" 13 (tf_Mo 3) := Or.inl (g_memT (g_t5 61 rfl) rfl)
theorem fl_Mo_13 : ab_fl g_G "TurnRingModel" 13 11 3 := ⟨"TurnRingModel", tf_Mo, 37, rfl, by decide, uw_Mo, lk_Mo_13⟩
theorem fp_Mo_13 : ab_fp g_G "TurnRingModel" "<init>" 13 11 3 (ty_Mo 3) := ⟨"TurnRingModel", tf_Mo, 37, ty_Mo, rfl, by decide, uw_Mo, tk_Mo, nm_Mo, rfl, Or.inr ⟨g_memT (g_t5 61 rfl) rfl, rfl, rfl, rfl⟩⟩
theorem lk_Mo_17 : ab_lk g_G "TurnRingModel" 17 (tf_Mo 4) := Or.inl (g_memT (g_t5 62 rfl) rfl)
theorem fl_Mo_17 : ab_fl g_G "TurnRingModel" 17 11 4 := ⟨"TurnRingModel", tf_Mo, 37, rfl, by decide, uw_Mo, lk_Mo_17⟩
theorem fp_Mo_17 : ab_fp g_G "TurnRingModel" "<init>" 17 11 4 (ty_Mo 4) := ⟨"TurnRingModel", tf_Mo, 37, ty_Mo, rfl, by decide, uw_Mo, tk_Mo, nm_Mo, rfl, Or.inr ⟨g_memT (g_t5 62 rfl) rfl, rfl, rfl, rfl⟩⟩
theorem lk_Mo_20 : ab_lk g_G "TurnRingModel" 20 (tf_Mo 5) := Or.inl (g_memT (g_t5 63 rfl) rfl)
theorem fl_Mo_20 : ab_fl g_G "TurnRingModel" 20 11 5 := ⟨"TurnRingModel", tf_Mo, 37, rfl, by decide, uw_Mo, lk_Mo_20⟩
theorem fp_Mo_20 : ab_fp g_G "TurnRingModel" "<init>" 20 11 5 (ty_Mo 5) := ⟨"TurnRingModel", tf_Mo, 37, ty_Mo, rfl, by decide, uw_Mo, tk_Mo, nm_Mo, rfl, Or.inr ⟨g_memT (g_t5 63 rfl) rfl, rfl, rfl, rfl⟩⟩
theorem lk_Mo_23 : ab_lk g_G "TurnRingModel" 23 (tf_Mo 6) := Or.inl (g_memT (g_t5 64 rfl) rfl)
theorem fl_Mo_23 : ab_fl g_G "TurnRingModel" 23 11 6 := ⟨"TurnRingModel", tf_Mo, 37, rfl, by decide, uw_Mo, lk_Mo_23⟩
theorem fp_Mo_23 : ab_fp g_G "TurnRingModel" "<init>" 23 11 6 (ty_Mo 6) := ⟨"TurnRingModel", tf_Mo, 37, ty_Mo, rfl, by decide, uw_Mo, tk_Mo, nm_Mo, rfl, Or.inr ⟨g_memT (g_t5 64 rfl) rfl, rfl, rfl, rfl⟩⟩
theorem lk_Mo_26 : ab_lk g_G "TurnRingModel" 26 (tf_Mo 7) := Or.inl (g_memT (g_t5 65 rfl) rfl)
theorem fl_Mo_26 : ab_fl g_G "TurnRingModel" 26 11 7 := ⟨"TurnRingModel", tf_Mo, 37, rfl, by decide, uw_Mo, lk_Mo_26⟩
theorem fp_Mo_26 : ab_fp g_G "TurnRingModel" "<init>" 26 11 7 (ty_Mo 7) := ⟨"TurnRingModel", tf_Mo, 37, ty_Mo, rfl, by decide, uw_Mo, tk_Mo, nm_Mo, rfl, Or.inr ⟨g_memT (g_t5 65 rfl) rfl, rfl, rfl, rfl⟩⟩
theorem lk_Mo_87 : ab_lk g_G "TurnRingModel" 87 (tf_Mo 8) := Or.inl (g_memT (g_t5 66 rfl) rfl)
theorem fl_Mo_87 : ab_fl g_G "TurnRingModel" 87 11 8 := ⟨"TurnRingModel", tf_Mo, 37, rfl, by decide, uw_Mo, lk_Mo_87⟩
theorem fp_Mo_87 (nm : String) : ab_fp g_G "TurnRingModel" nm 87 11 8 (ty_Mo 8) := ⟨"TurnRingModel", tf_Mo, 37, ty_Mo, rfl, by decide, uw_Mo, tk_Mo, nm_Mo, rfl, Or.inl ⟨lk_Mo_87, rfl⟩⟩
theorem lk_Mo_84 : ab_lk g_G "TurnRingModel" 84 (tf_Mo 9) := Or.inl (g_memT (g_t5 67 rfl) rfl)
theorem fl_Mo_84 : ab_fl g_G "TurnRingModel" 84 11 9 := ⟨"TurnRingModel", tf_Mo, 37, rfl, by decide, uw_Mo, lk_Mo_84⟩
theorem fp_Mo_84 (nm : String) : ab_fp g_G "TurnRingModel" nm 84 11 9 (ty_Mo 9) := ⟨"TurnRingModel", tf_Mo, 37, ty_Mo, rfl, by decide, uw_Mo, tk_Mo, nm_Mo, rfl, Or.inl ⟨lk_Mo_84, rfl⟩⟩
theorem lk_Mo_112 : ab_lk g_G "TurnRingModel" 112 (tf_Mo 10) := Or.inl (g_memT (g_t5 68 rfl) rfl)
theorem fl_Mo_112 : ab_fl g_G "TurnRingModel" 112 11 10 := ⟨"TurnRingModel", tf_Mo, 37, rfl, by decide, uw_Mo, lk_Mo_112⟩
theorem fp_Mo_112 (nm : String) : ab_fp g_G "TurnRingModel" nm 112 11 10 (ty_Mo 10) := ⟨"TurnRingModel", tf_Mo, 37, ty_Mo, rfl, by decide, uw_Mo, tk_Mo, nm_Mo, rfl, Or.inl ⟨lk_Mo_112, rfl⟩⟩
theorem lk_Mo_143 : ab_lk g_G "TurnRingModel" 143 (tf_Mo 11) := Or.inl (g_memT (g_t5 69 rfl) rfl)
theorem fl_Mo_143 : ab_fl g_G "TurnRingModel" 143 11 11 := ⟨"TurnRingModel", tf_Mo, 37, rfl, by decide, uw_Mo, lk_Mo_143⟩
theorem fp_Mo_143 (nm : String) : ab_fp g_G "TurnRingModel" nm 143 11 11 (ty_Mo 11) := ⟨"TurnRingModel", tf_Mo, 37, ty_Mo, rfl, by decide, uw_Mo, tk_Mo, nm_Mo, rfl, Or.inl ⟨lk_Mo_143, rfl⟩⟩
theorem lk_Mo_146 : ab_lk g_G "TurnRingModel" 146 (tf_Mo 12) := Or.inl (g_memT (g_t5 70 rfl) rfl)
theorem fl_Mo_146 : ab_fl g_G "TurnRingModel" 146 11 12 := ⟨"TurnRingModel", tf_Mo, 37, rfl, by decide, uw_Mo, lk_Mo_146⟩
theorem fp_Mo_146 (nm : String) : ab_fp g_G "TurnRingModel" nm 146 11 12 (ty_Mo 12) := ⟨"TurnRingModel", tf_Mo, 37, ty_Mo, rfl, by decide, uw_Mo, tk_Mo, nm_Mo, rfl, Or.inl ⟨lk_Mo_146, rfl⟩⟩
theorem lk_Mo_149 : ab_lk g_G "TurnRingModel" 149 (tf_Mo 13) := Or.inl (g_memT (g_t5 71 rfl) rfl)
theorem fl_Mo_149 : ab_fl g_G "TurnRingModel" 149 11 13 := ⟨"TurnRingModel", tf_Mo, 37, rfl, by decide, uw_Mo, lk_Mo_149⟩
theorem fp_Mo_149 (nm : String) : ab_fp g_G "TurnRingModel" nm 149 11 13 (ty_Mo 13) := ⟨"TurnRingModel", tf_Mo, 37, ty_Mo, rfl, by decide, uw_Mo, tk_Mo, nm_Mo, rfl, Or.inl ⟨lk_Mo_149, rfl⟩⟩
theorem lk_Mo_254 : ab_lk g_G "TurnRingModel" 254 (tf_Mo 14) := Or.inl (g_memT (g_t5 72 rfl) rfl)
theorem fl_Mo_254 : ab_fl g_G "TurnRingModel" 254 11 14 := ⟨"TurnRingModel", tf_Mo, 37, rfl, by decide, uw_Mo, lk_Mo_254⟩
theorem fp_Mo_254 (nm : String) : ab_fp g_G "TurnRingModel" nm 254 11 14 (ty_Mo 14) := ⟨"TurnRingModel", tf_Mo, 37, ty_Mo, rfl, by decide, uw_Mo, tk_Mo, nm_Mo, rfl, Or.inl ⟨lk_Mo_254, rfl⟩⟩
theorem lk_Mo_29 : ab_lk g_G "TurnRingModel" 29 (tf_Mo 15) := Or.inl (g_memT (g_t5 73 rfl) rfl)
theorem fl_Mo_29 : ab_fl g_G "TurnRingModel" 29 11 15 := ⟨"TurnRingModel", tf_Mo, 37, rfl, by decide, uw_Mo, lk_Mo_29⟩
theorem fp_Mo_29 : ab_fp g_G "TurnRingModel" "<init>" 29 11 15 (ty_Mo 15) := ⟨"TurnRingModel", tf_Mo, 37, ty_Mo, rfl, by decide, uw_Mo, tk_Mo, nm_Mo, rfl, Or.inr ⟨g_memT (g_t5 73 rfl) rfl, rfl, rfl, rfl⟩⟩
theorem lk_Mo_152 : ab_lk g_G "TurnRingModel" 152 (tf_Mo 16) := Or.inl (g_memT (g_t5 74 rfl) rfl)
theorem fl_Mo_152 : ab_fl g_G "TurnRingModel" 152 11 16 := ⟨"TurnRingModel", tf_Mo, 37, rfl, by decide, uw_Mo, lk_Mo_152⟩
theorem fp_Mo_152 (nm : String) : ab_fp g_G "TurnRingModel" nm 152 11 16 (ty_Mo 16) := ⟨"TurnRingModel", tf_Mo, 37, ty_Mo, rfl, by decide, uw_Mo, tk_Mo, nm_Mo, rfl, Or.inl ⟨lk_Mo_152, rfl⟩⟩
theorem lk_Mo_32 : ab_lk g_G "TurnRingModel" 32 (tf_Mo 17) := Or.inl (g_memT (g_t5 75 rfl) rfl)
theorem fl_Mo_32 : ab_fl g_G "TurnRingModel" 32 11 17 := ⟨"TurnRingModel", tf_Mo, 37, rfl, by decide, uw_Mo, lk_Mo_32⟩
theorem fp_Mo_32 : ab_fp g_G "TurnRingModel" "<init>" 32 11 17 (ty_Mo 17) := ⟨"TurnRingModel", tf_Mo, 37, ty_Mo, rfl, by decide, uw_Mo, tk_Mo, nm_Mo, rfl, Or.inr ⟨g_memT (g_t5 75 rfl) rfl, rfl, rfl, rfl⟩⟩
theorem lk_Mo_275 : ab_lk g_G "TurnRingModel" 275 (tf_Mo 18) := Or.inl (g_memT (g_t5 76 rfl) rfl)
theorem fl_Mo_275 : ab_fl g_G "TurnRingModel" 275 11 18 := ⟨"TurnRingModel", tf_Mo, 37, rfl, by decide, uw_Mo, lk_Mo_275⟩
theorem fp_Mo_275 (nm : String) : ab_fp g_G "TurnRingModel" nm 275 11 18 (ty_Mo 18) := ⟨"TurnRingModel", tf_Mo, 37, ty_Mo, rfl, by decide, uw_Mo, tk_Mo, nm_Mo, rfl, Or.inl ⟨lk_Mo_275, rfl⟩⟩
theorem lk_Mo_36 : ab_lk g_G "TurnRingModel" 36 (tf_Mo 19) := Or.inl (g_memT (g_t5 77 rfl) rfl)
theorem fl_Mo_36 : ab_fl g_G "TurnRingModel" 36 11 19 := ⟨"TurnRingModel", tf_Mo, 37, rfl, by decide, uw_Mo, lk_Mo_36⟩
theorem fp_Mo_36 : ab_fp g_G "TurnRingModel" "<init>" 36 11 19 (ty_Mo 19) := ⟨"TurnRingModel", tf_Mo, 37, ty_Mo, rfl, by decide, uw_Mo, tk_Mo, nm_Mo, rfl, Or.inr ⟨g_memT (g_t5 77 rfl) rfl, rfl, rfl, rfl⟩⟩
theorem lk_Mo_39 : ab_lk g_G "TurnRingModel" 39 (tf_Mo 20) := Or.inl (g_memT (g_t5 78 rfl) rfl)
theorem fl_Mo_39 : ab_fl g_G "TurnRingModel" 39 11 20 := ⟨"TurnRingModel", tf_Mo, 37, rfl, by decide, uw_Mo, lk_Mo_39⟩
theorem fp_Mo_39 : ab_fp g_G "TurnRingModel" "<init>" 39 11 20 (ty_Mo 20) := ⟨"TurnRingModel", tf_Mo, 37, ty_Mo, rfl, by decide, uw_Mo, tk_Mo, nm_Mo, rfl, Or.inr ⟨g_memT (g_t5 78 rfl) rfl, rfl, rfl, rfl⟩⟩
theorem lk_Mo_465 : ab_lk g_G "TurnRingModel" 465 (tf_Mo 21) := Or.inl (g_memT (g_t5 79 rfl) rfl)
theorem fl_Mo_465 : ab_fl g_G "TurnRingModel" 465 11 21 := ⟨"TurnRingModel", tf_Mo, 37, rfl, by decide, uw_Mo, lk_Mo_465⟩
theorem fp_Mo_465 (nm : String) : ab_fp g_G "TurnRingModel" nm 465 11 21 (ty_Mo 21) := ⟨"TurnRingModel", tf_Mo, 37, ty_Mo, rfl, by decide, uw_Mo, tk_Mo, nm_Mo, rfl, Or.inl ⟨lk_Mo_465, rfl⟩⟩
theorem lk_Mo_42 : ab_lk g_G "TurnRingModel" 42 (tf_Mo 22) := Or.inl (g_memT (g_t5 80 rfl) rfl)
theorem fl_Mo_42 : ab_fl g_G "TurnRingModel" 42 11 22 := ⟨"TurnRingModel", tf_Mo, 37, rfl, by decide, uw_Mo, lk_Mo_42⟩
theorem fp_Mo_42 : ab_fp g_G "TurnRingModel" "<init>" 42 11 22 (ty_Mo 22) := ⟨"TurnRingModel", tf_Mo, 37, ty_Mo, rfl, by decide, uw_Mo, tk_Mo, nm_Mo, rfl, Or.inr ⟨g_memT (g_t5 80 rfl) rfl, rfl, rfl, rfl⟩⟩
theorem lk_Mo_272 : ab_lk g_G "TurnRingModel" 272 (tf_Mo 23) := Or.inl (g_memT (g_t5 81 rfl) rfl)
theorem fl_Mo_272 : ab_fl g_G "TurnRingModel" 272 11 23 := ⟨"TurnRingModel", tf_Mo, 37, rfl, by decide, uw_Mo, lk_Mo_272⟩
theorem fp_Mo_272 (nm : String) : ab_fp g_G "TurnRingModel" nm 272 11 23 (ty_Mo 23) := ⟨"TurnRingModel", tf_Mo, 37, ty_Mo, rfl, by decide, uw_Mo, tk_Mo, nm_Mo, rfl, Or.inl ⟨lk_Mo_272, rfl⟩⟩
theorem lk_Mo_45 : ab_lk g_G "TurnRingModel" 45 (tf_Mo 24) := Or.inl (g_memT (g_t5 82 rfl) rfl)
theorem fl_Mo_45 : ab_fl g_G "TurnRingModel" 45 11 24 := ⟨"TurnRingModel", tf_Mo, 37, rfl, by decide, uw_Mo, lk_Mo_45⟩
theorem fp_Mo_45 : ab_fp g_G "TurnRingModel" "<init>" 45 11 24 (ty_Mo 24) := ⟨"TurnRingModel", tf_Mo, 37, ty_Mo, rfl, by decide, uw_Mo, tk_Mo, nm_Mo, rfl, Or.inr ⟨g_memT (g_t5 82 rfl) rfl, rfl, rfl, rfl⟩⟩
theorem lk_Mo_48 : ab_lk g_G "TurnRingModel" 48 (tf_Mo 25) := Or.inl (g_memT (g_t5 83 rfl) rfl)
theorem fl_Mo_48 : ab_fl g_G "TurnRingModel" 48 11 25 := ⟨"TurnRingModel", tf_Mo, 37, rfl, by decide, uw_Mo, lk_Mo_48⟩
theorem fp_Mo_48 : ab_fp g_G "TurnRingModel" "<init>" 48 11 25 (ty_Mo 25) := ⟨"TurnRingModel", tf_Mo, 37, ty_Mo, rfl, by decide, uw_Mo, tk_Mo, nm_Mo, rfl, Or.inr ⟨g_memT (g_t5 83 rfl) rfl, rfl, rfl, rfl⟩⟩
theorem lk_Mo_51 : ab_lk g_G "TurnRingModel" 51 (tf_Mo 26) := Or.inl (g_memT (g_t5 84 rfl) rfl)
theorem fl_Mo_51 : ab_fl g_G "TurnRingModel" 51 11 26 := ⟨"TurnRingModel", tf_Mo, 37, rfl, by decide, uw_Mo, lk_Mo_51⟩
theorem fp_Mo_51 : ab_fp g_G "TurnRingModel" "<init>" 51 11 26 (ty_Mo 26) := ⟨"TurnRingModel", tf_Mo, 37, ty_Mo, rfl, by decide, uw_Mo, tk_Mo, nm_Mo, rfl, Or.inr ⟨g_memT (g_t5 84 rfl) rfl, rfl, rfl, rfl⟩⟩
theorem lk_Mo_54 : ab_lk g_G "TurnRingModel" 54 (tf_Mo 27) := Or.inl (g_memT (g_t5 85 rfl) rfl)
theorem fl_Mo_54 : ab_fl g_G "TurnRingModel" 54 11 27 := ⟨"TurnRingModel", tf_Mo, 37, rfl, by decide, uw_Mo, lk_Mo_54⟩
theorem fp_Mo_54 : ab_fp g_G "TurnRingModel" "<init>" 54 11 27 (ty_Mo 27) := ⟨"TurnRingModel", tf_Mo, 37, ty_Mo, rfl, by decide, uw_Mo, tk_Mo, nm_Mo, rfl, Or.inr ⟨g_memT (g_t5 85 rfl) rfl, rfl, rfl, rfl⟩⟩
theorem lk_Mo_57 : ab_lk g_G "TurnRingModel" 57 (tf_Mo 28) := Or.inl (g_memT (g_t5 86 rfl) rfl)
theorem fl_Mo_57 : ab_fl g_G "TurnRingModel" 57 11 28 := ⟨"TurnRingModel", tf_Mo, 37, rfl, by decide, uw_Mo, lk_Mo_57⟩
theorem fp_Mo_57 : ab_fp g_G "TurnRingModel" "<init>" 57 11 28 (ty_Mo 28) := ⟨"TurnRingModel", tf_Mo, 37, ty_Mo, rfl, by decide, uw_Mo, tk_Mo, nm_Mo, rfl, Or.inr ⟨g_memT (g_t5 86 rfl) rfl, rfl, rfl, rfl⟩⟩
theorem lk_Mo_60 : ab_lk g_G "TurnRingModel" 60 (tf_Mo 29) := Or.inl (g_memT (g_t5 87 rfl) rfl)
theorem fl_Mo_60 : ab_fl g_G "TurnRingModel" 60 11 29 := ⟨"TurnRingModel", tf_Mo, 37, rfl, by decide, uw_Mo, lk_Mo_60⟩
theorem fp_Mo_60 : ab_fp g_G "TurnRingModel" "<init>" 60 11 29 (ty_Mo 29) := ⟨"TurnRingModel", tf_Mo, 37, ty_Mo, rfl, by decide, uw_Mo, tk_Mo, nm_Mo, rfl, Or.inr ⟨g_memT (g_t5 87 rfl) rfl, rfl, rfl, rfl⟩⟩
theorem lk_Mo_63 : ab_lk g_G "TurnRingModel" 63 (tf_Mo 30) := Or.inl (g_memT (g_t5 88 rfl) rfl)
theorem fl_Mo_63 : ab_fl g_G "TurnRingModel" 63 11 30 := ⟨"TurnRingModel", tf_Mo, 37, rfl, by decide, uw_Mo, lk_Mo_63⟩
theorem fp_Mo_63 : ab_fp g_G "TurnRingModel" "<init>" 63 11 30 (ty_Mo 30) := ⟨"TurnRingModel", tf_Mo, 37, ty_Mo, rfl, by decide, uw_Mo, tk_Mo, nm_Mo, rfl, Or.inr ⟨g_memT (g_t5 88 rfl) rfl, rfl, rfl, rfl⟩⟩
theorem lk_Mo_420 : ab_lk g_G "TurnRingModel" 420 (tf_Mo 31) := Or.inl (g_memT (g_t5 89 rfl) rfl)
theorem fl_Mo_420 : ab_fl g_G "TurnRingModel" 420 11 31 := ⟨"TurnRingModel", tf_Mo, 37, rfl, by decide, uw_Mo, lk_Mo_420⟩
theorem fp_Mo_420 (nm : String) : ab_fp g_G "TurnRingModel" nm 420 11 31 (ty_Mo 31) := ⟨"TurnRingModel", tf_Mo, 37, ty_Mo, rfl, by decide, uw_Mo, tk_Mo, nm_Mo, rfl, Or.inl ⟨lk_Mo_420, rfl⟩⟩
theorem lk_Mo_423 : ab_lk g_G "TurnRingModel" 423 (tf_Mo 32) := Or.inl (g_memT (g_t5 90 rfl) rfl)
theorem fl_Mo_423 : ab_fl g_G "TurnRingModel" 423 11 32 := ⟨"TurnRingModel", tf_Mo, 37, rfl, by decide, uw_Mo, lk_Mo_423⟩
theorem fp_Mo_423 (nm : String) : ab_fp g_G "TurnRingModel" nm 423 11 32 (ty_Mo 32) := ⟨"TurnRingModel", tf_Mo, 37, ty_Mo, rfl, by decide, uw_Mo, tk_Mo, nm_Mo, rfl, Or.inl ⟨lk_Mo_423, rfl⟩⟩
theorem lk_Mo_468 : ab_lk g_G "TurnRingModel" 468 (tf_Mo 33) := Or.inl (g_memT (g_t5 91 rfl) rfl)
theorem fl_Mo_468 : ab_fl g_G "TurnRingModel" 468 11 33 := ⟨"TurnRingModel", tf_Mo, 37, rfl, by decide, uw_Mo, lk_Mo_468⟩
theorem fp_Mo_468 (nm : String) : ab_fp g_G "TurnRingModel" nm 468 11 33 (ty_Mo 33) := ⟨"TurnRingModel", tf_Mo, 37, ty_Mo, rfl, by decide, uw_Mo, tk_Mo, nm_Mo, rfl, Or.inl ⟨lk_Mo_468, rfl⟩⟩
theorem lk_Mo_66 : ab_lk g_G "TurnRingModel" 66 (tf_Mo 34) := Or.inl (g_memT (g_t5 92 rfl) rfl)
theorem fl_Mo_66 : ab_fl g_G "TurnRingModel" 66 11 34 := ⟨"TurnRingModel", tf_Mo, 37, rfl, by decide, uw_Mo, lk_Mo_66⟩
theorem fp_Mo_66 : ab_fp g_G "TurnRingModel" "<init>" 66 11 34 (ty_Mo 34) := ⟨"TurnRingModel", tf_Mo, 37, ty_Mo, rfl, by decide, uw_Mo, tk_Mo, nm_Mo, rfl, Or.inr ⟨g_memT (g_t5 92 rfl) rfl, rfl, rfl, rfl⟩⟩
theorem lk_Mo_69 : ab_lk g_G "TurnRingModel" 69 (tf_Mo 35) := Or.inl (g_memT (g_t5 93 rfl) rfl)
theorem fl_Mo_69 : ab_fl g_G "TurnRingModel" 69 11 35 := ⟨"TurnRingModel", tf_Mo, 37, rfl, by decide, uw_Mo, lk_Mo_69⟩
theorem fp_Mo_69 : ab_fp g_G "TurnRingModel" "<init>" 69 11 35 (ty_Mo 35) := ⟨"TurnRingModel", tf_Mo, 37, ty_Mo, rfl, by decide, uw_Mo, tk_Mo, nm_Mo, rfl, Or.inr ⟨g_memT (g_t5 93 rfl) rfl, rfl, rfl, rfl⟩⟩
theorem lk_Mo_72 : ab_lk g_G "TurnRingModel" 72 (tf_Mo 36) := Or.inl (g_memT (g_t5 94 rfl) rfl)
theorem fl_Mo_72 : ab_fl g_G "TurnRingModel" 72 11 36 := ⟨"TurnRingModel", tf_Mo, 37, rfl, by decide, uw_Mo, lk_Mo_72⟩
theorem fp_Mo_72 : ab_fp g_G "TurnRingModel" "<init>" 72 11 36 (ty_Mo 36) := ⟨"TurnRingModel", tf_Mo, 37, ty_Mo, rfl, by decide, uw_Mo, tk_Mo, nm_Mo, rfl, Or.inr ⟨g_memT (g_t5 94 rfl) rfl, rfl, rfl, rfl⟩⟩
theorem cd_Tu_init : Cond.code mt_Tu_init.1 mt_Tu_init.2.1 mt_Tu_init.2.2.1 mt_Tu_init.2.2.2 ∈ g_G.2.1 := g_memT (g_t1 26 rfl) rfl
theorem im_Tu_init : Cond.instanceMethod mt_Tu_init.1 ∈ g_G.2.1 := g_memT (g_t1 25 rfl) rfl
theorem cd_Ta_init : Cond.code mt_Ta_init.1 mt_Ta_init.2.1 mt_Ta_init.2.2.1 mt_Ta_init.2.2.2 ∈ g_G.2.1 := g_memT (g_t1 34 rfl) rfl
theorem im_Ta_init : Cond.instanceMethod mt_Ta_init.1 ∈ g_G.2.1 := g_memT (g_t1 33 rfl) rfl
theorem cd_Ri_init : Cond.code mt_Ri_init.1 mt_Ri_init.2.1 mt_Ri_init.2.2.1 mt_Ri_init.2.2.2 ∈ g_G.2.1 := g_memT (g_t1 79 rfl) rfl
theorem im_Ri_init : Cond.instanceMethod mt_Ri_init.1 ∈ g_G.2.1 := g_memT (g_t1 78 rfl) rfl
theorem cd_Di_init : Cond.code mt_Di_init.1 mt_Di_init.2.1 mt_Di_init.2.2.1 mt_Di_init.2.2.2 ∈ g_G.2.1 := g_memT (g_t1 85 rfl) rfl
theorem im_Di_init : Cond.instanceMethod mt_Di_init.1 ∈ g_G.2.1 := g_memT (g_t1 84 rfl) rfl
theorem cd_Ac_init : Cond.code mt_Ac_init.1 mt_Ac_init.2.1 mt_Ac_init.2.2.1 mt_Ac_init.2.2.2 ∈ g_G.2.1 := g_memT (g_t1 213 rfl) rfl
theorem im_Ac_init : Cond.instanceMethod mt_Ac_init.1 ∈ g_G.2.1 := g_memT (g_t1 212 rfl) rfl
theorem cd_Ru_init : Cond.code mt_Ru_init.1 mt_Ru_init.2.1 mt_Ru_init.2.2.1 mt_Ru_init.2.2.2 ∈ g_G.2.1 := g_memT (g_t1 237 rfl) rfl
theorem im_Ru_init : Cond.instanceMethod mt_Ru_init.1 ∈ g_G.2.1 := g_memT (g_t1 236 rfl) rfl
theorem cd_Ma_init : Cond.code mt_Ma_init.1 mt_Ma_init.2.1 mt_Ma_init.2.2.1 mt_Ma_init.2.2.2 ∈ g_G.2.1 := g_memT (g_t2 13 rfl) rfl
theorem im_Ma_init : Cond.instanceMethod mt_Ma_init.1 ∈ g_G.2.1 := g_memT (g_t2 12 rfl) rfl
theorem cd_Pl_init : Cond.code mt_Pl_init.1 mt_Pl_init.2.1 mt_Pl_init.2.2.1 mt_Pl_init.2.2.2 ∈ g_G.2.1 := g_memT (g_t2 26 rfl) rfl
theorem im_Pl_init : Cond.instanceMethod mt_Pl_init.1 ∈ g_G.2.1 := g_memT (g_t2 25 rfl) rfl
theorem cd_Tr_init : Cond.code mt_Tr_init.1 mt_Tr_init.2.1 mt_Tr_init.2.2.1 mt_Tr_init.2.2.2 ∈ g_G.2.1 := g_memT (g_t2 50 rfl) rfl
theorem im_Tr_init : Cond.instanceMethod mt_Tr_init.1 ∈ g_G.2.1 := g_memT (g_t2 49 rfl) rfl
theorem cd_Gu_init : Cond.code mt_Gu_init.1 mt_Gu_init.2.1 mt_Gu_init.2.2.1 mt_Gu_init.2.2.2 ∈ g_G.2.1 := g_memT (g_t2 74 rfl) rfl
theorem im_Gu_init : Cond.instanceMethod mt_Gu_init.1 ∈ g_G.2.1 := g_memT (g_t2 73 rfl) rfl
theorem cd_Tu_feed : Cond.code mt_Tu_feed.1 mt_Tu_feed.2.1 mt_Tu_feed.2.2.1 mt_Tu_feed.2.2.2 ∈ g_G.2.1 := g_memT (g_t2 143 rfl) rfl
theorem im_Tu_feed : Cond.instanceMethod mt_Tu_feed.1 ∈ g_G.2.1 := g_memT (g_t2 141 rfl) rfl
theorem se_Tu_feed : Cond.selects mt_Tu_feed.1.cls mt_Tu_feed.1 mt_Tu_feed.1 ∈ g_G.2.1 := g_memT (g_t2 142 rfl) rfl
theorem cd_Ta_putBytes : Cond.code mt_Ta_putBytes.1 mt_Ta_putBytes.2.1 mt_Ta_putBytes.2.2.1 mt_Ta_putBytes.2.2.2 ∈ g_G.2.1 := g_memT (g_t2 147 rfl) rfl
theorem im_Ta_putBytes : Cond.instanceMethod mt_Ta_putBytes.1 ∈ g_G.2.1 := g_memT (g_t2 145 rfl) rfl
theorem se_Ta_putBytes : Cond.selects mt_Ta_putBytes.1.cls mt_Ta_putBytes.1 mt_Ta_putBytes.1 ∈ g_G.2.1 := g_memT (g_t2 146 rfl) rfl
theorem cd_Tu_end : Cond.code mt_Tu_end.1 mt_Tu_end.2.1 mt_Tu_end.2.2.1 mt_Tu_end.2.2.2 ∈ g_G.2.1 := g_memT (g_t2 151 rfl) rfl
theorem im_Tu_end : Cond.instanceMethod mt_Tu_end.1 ∈ g_G.2.1 := g_memT (g_t2 149 rfl) rfl
theorem se_Tu_end : Cond.selects mt_Tu_end.1.cls mt_Tu_end.1 mt_Tu_end.1 ∈ g_G.2.1 := g_memT (g_t2 150 rfl) rfl
theorem cd_Tu_ring : Cond.code mt_Tu_ring.1 mt_Tu_ring.2.1 mt_Tu_ring.2.2.1 mt_Tu_ring.2.2.2 ∈ g_G.2.1 := g_memT (g_t2 155 rfl) rfl
theorem im_Tu_ring : Cond.instanceMethod mt_Tu_ring.1 ∈ g_G.2.1 := g_memT (g_t2 153 rfl) rfl
theorem se_Tu_ring : Cond.selects mt_Tu_ring.1.cls mt_Tu_ring.1 mt_Tu_ring.1 ∈ g_G.2.1 := g_memT (g_t2 154 rfl) rfl
theorem cd_Rr_readAll : Cond.code mt_Rr_readAll.1 mt_Rr_readAll.2.1 mt_Rr_readAll.2.2.1 mt_Rr_readAll.2.2.2 ∈ g_G.2.1 := g_memT (g_t2 158 rfl) rfl
theorem sc_Rr_readAll : Cond.static mt_Rr_readAll.1 ∈ g_G.2.1 := g_memT (g_t2 157 rfl) rfl
theorem cd_Ta_begin : Cond.code mt_Ta_begin.1 mt_Ta_begin.2.1 mt_Ta_begin.2.2.1 mt_Ta_begin.2.2.2 ∈ g_G.2.1 := g_memT (g_t2 163 rfl) rfl
theorem im_Ta_begin : Cond.instanceMethod mt_Ta_begin.1 ∈ g_G.2.1 := g_memT (g_t2 161 rfl) rfl
theorem se_Ta_begin : Cond.selects mt_Ta_begin.1.cls mt_Ta_begin.1 mt_Ta_begin.1 ∈ g_G.2.1 := g_memT (g_t2 162 rfl) rfl
theorem cd_Ta_advance : Cond.code mt_Ta_advance.1 mt_Ta_advance.2.1 mt_Ta_advance.2.2.1 mt_Ta_advance.2.2.2 ∈ g_G.2.1 := g_memT (g_t2 167 rfl) rfl
theorem im_Ta_advance : Cond.instanceMethod mt_Ta_advance.1 ∈ g_G.2.1 := g_memT (g_t2 165 rfl) rfl
theorem se_Ta_advance : Cond.selects mt_Ta_advance.1.cls mt_Ta_advance.1 mt_Ta_advance.1 ∈ g_G.2.1 := g_memT (g_t2 166 rfl) rfl
theorem cd_Ta_readNumber : Cond.code mt_Ta_readNumber.1 mt_Ta_readNumber.2.1 mt_Ta_readNumber.2.2.1 mt_Ta_readNumber.2.2.2 ∈ g_G.2.1 := g_memT (g_t2 171 rfl) rfl
theorem im_Ta_readNumber : Cond.instanceMethod mt_Ta_readNumber.1 ∈ g_G.2.1 := g_memT (g_t2 170 rfl) rfl
theorem se_Ta_readNumber : Cond.selects mt_Ta_readNumber.1.cls mt_Ta_readNumber.1 mt_Ta_readNumber.1 ∈ g_G.2.1 := g_memT (g_t0 0 rfl) rfl
theorem cd_Ta_readWord : Cond.code mt_Ta_readWord.1 mt_Ta_readWord.2.1 mt_Ta_readWord.2.2.1 mt_Ta_readWord.2.2.2 ∈ g_G.2.1 := g_memT (g_t2 175 rfl) rfl
theorem im_Ta_readWord : Cond.instanceMethod mt_Ta_readWord.1 ∈ g_G.2.1 := g_memT (g_t2 174 rfl) rfl
theorem se_Ta_readWord : Cond.selects mt_Ta_readWord.1.cls mt_Ta_readWord.1 mt_Ta_readWord.1 ∈ g_G.2.1 := g_memT (g_t0 1 rfl) rfl
theorem cd_St_length : Cond.code mt_St_length.1 mt_St_length.2.1 mt_St_length.2.2.1 mt_St_length.2.2.2 ∈ g_G.2.1 := g_memT (g_t2 179 rfl) rfl
theorem im_St_length : Cond.instanceMethod mt_St_length.1 ∈ g_G.2.1 := g_memT (g_t2 177 rfl) rfl
theorem se_St_length : Cond.selects mt_St_length.1.cls mt_St_length.1 mt_St_length.1 ∈ g_G.2.1 := g_memT (g_t2 178 rfl) rfl
theorem cd_St_coder : Cond.code mt_St_coder.1 mt_St_coder.2.1 mt_St_coder.2.2.1 mt_St_coder.2.2.2 ∈ g_G.2.1 := g_memT (g_t2 183 rfl) rfl
theorem im_St_coder : Cond.instanceMethod mt_St_coder.1 ∈ g_G.2.1 := g_memT (g_t2 181 rfl) rfl
theorem se_St_coder : Cond.selects mt_St_coder.1.cls mt_St_coder.1 mt_St_coder.1 ∈ g_G.2.1 := g_memT (g_t2 182 rfl) rfl
theorem cd_St_charAt : Cond.code mt_St_charAt.1 mt_St_charAt.2.1 mt_St_charAt.2.2.1 mt_St_charAt.2.2.2 ∈ g_G.2.1 := g_memT (g_t2 189 rfl) rfl
theorem im_St_charAt : Cond.instanceMethod mt_St_charAt.1 ∈ g_G.2.1 := g_memT (g_t2 187 rfl) rfl
theorem se_St_charAt : Cond.selects mt_St_charAt.1.cls mt_St_charAt.1 mt_St_charAt.1 ∈ g_G.2.1 := g_memT (g_t2 188 rfl) rfl
theorem cd_St_isLatin1 : Cond.code mt_St_isLatin1.1 mt_St_isLatin1.2.1 mt_St_isLatin1.2.2.1 mt_St_isLatin1.2.2.2 ∈ g_G.2.1 := g_memT (g_t2 193 rfl) rfl
theorem im_St_isLatin1 : Cond.instanceMethod mt_St_isLatin1.1 ∈ g_G.2.1 := g_memT (g_t2 191 rfl) rfl
theorem se_St_isLatin1 : Cond.selects mt_St_isLatin1.1.cls mt_St_isLatin1.1 mt_St_isLatin1.1 ∈ g_G.2.1 := g_memT (g_t2 192 rfl) rfl
theorem cd_Sl_charAt : Cond.code mt_Sl_charAt.1 mt_Sl_charAt.2.1 mt_Sl_charAt.2.2.1 mt_Sl_charAt.2.2.2 ∈ g_G.2.1 := g_memT (g_t2 196 rfl) rfl
theorem sc_Sl_charAt : Cond.static mt_Sl_charAt.1 ∈ g_G.2.1 := g_memT (g_t2 195 rfl) rfl
theorem cd_St_checkIndex : Cond.code mt_St_checkIndex.1 mt_St_checkIndex.2.1 mt_St_checkIndex.2.2.1 mt_St_checkIndex.2.2.2 ∈ g_G.2.1 := g_memT (g_t2 199 rfl) rfl
theorem sc_St_checkIndex : Cond.static mt_St_checkIndex.1 ∈ g_G.2.1 := g_memT (g_t2 198 rfl) rfl
theorem cd_Zz_checkIndex : Cond.code mt_Zz_checkIndex.1 mt_Zz_checkIndex.2.1 mt_Zz_checkIndex.2.2.1 mt_Zz_checkIndex.2.2.2 ∈ g_G.2.1 := g_memT (g_t2 204 rfl) rfl
theorem sc_Zz_checkIndex : Cond.static mt_Zz_checkIndex.1 ∈ g_G.2.1 := g_memT (g_t2 203 rfl) rfl
theorem cd_Ta_readSign : Cond.code mt_Ta_readSign.1 mt_Ta_readSign.2.1 mt_Ta_readSign.2.2.1 mt_Ta_readSign.2.2.2 ∈ g_G.2.1 := g_memT (g_t2 227 rfl) rfl
theorem im_Ta_readSign : Cond.instanceMethod mt_Ta_readSign.1 ∈ g_G.2.1 := g_memT (g_t2 226 rfl) rfl
theorem se_Ta_readSign : Cond.selects mt_Ta_readSign.1.cls mt_Ta_readSign.1 mt_Ta_readSign.1 ∈ g_G.2.1 := g_memT (g_t0 2 rfl) rfl
theorem cd_Ri_clear : Cond.code mt_Ri_clear.1 mt_Ri_clear.2.1 mt_Ri_clear.2.2.1 mt_Ri_clear.2.2.2 ∈ g_G.2.1 := g_memT (g_t2 231 rfl) rfl
theorem im_Ri_clear : Cond.instanceMethod mt_Ri_clear.1 ∈ g_G.2.1 := g_memT (g_t2 229 rfl) rfl
theorem se_Ri_clear : Cond.selects mt_Ri_clear.1.cls mt_Ri_clear.1 mt_Ri_clear.1 ∈ g_G.2.1 := g_memT (g_t2 230 rfl) rfl
theorem cd_Ar_fill_AIIV : Cond.code mt_Ar_fill_AIIV.1 mt_Ar_fill_AIIV.2.1 mt_Ar_fill_AIIV.2.2.1 mt_Ar_fill_AIIV.2.2.2 ∈ g_G.2.1 := g_memT (g_t2 234 rfl) rfl
theorem sc_Ar_fill_AIIV : Cond.static mt_Ar_fill_AIIV.1 ∈ g_G.2.1 := g_memT (g_t2 233 rfl) rfl
theorem cd_Ar_fill_AJJV : Cond.code mt_Ar_fill_AJJV.1 mt_Ar_fill_AJJV.2.1 mt_Ar_fill_AJJV.2.2.1 mt_Ar_fill_AJJV.2.2.2 ∈ g_G.2.1 := g_memT (g_t2 237 rfl) rfl
theorem sc_Ar_fill_AJJV : Cond.static mt_Ar_fill_AJJV.1 ∈ g_G.2.1 := g_memT (g_t2 236 rfl) rfl
theorem cd_Ta_fail : Cond.code mt_Ta_fail.1 mt_Ta_fail.2.1 mt_Ta_fail.2.2.1 mt_Ta_fail.2.2.2 ∈ g_G.2.1 := g_memT (g_t3 1 rfl) rfl
theorem im_Ta_fail : Cond.instanceMethod mt_Ta_fail.1 ∈ g_G.2.1 := g_memT (g_t2 239 rfl) rfl
theorem se_Ta_fail : Cond.selects mt_Ta_fail.1.cls mt_Ta_fail.1 mt_Ta_fail.1 ∈ g_G.2.1 := g_memT (g_t3 0 rfl) rfl
theorem cd_Rr_mayFollow : Cond.code mt_Rr_mayFollow.1 mt_Rr_mayFollow.2.1 mt_Rr_mayFollow.2.2.1 mt_Rr_mayFollow.2.2.2 ∈ g_G.2.1 := g_memT (g_t3 4 rfl) rfl
theorem sc_Rr_mayFollow : Cond.static mt_Rr_mayFollow.1 ∈ g_G.2.1 := g_memT (g_t3 3 rfl) rfl
theorem cd_Rr_readRest : Cond.code mt_Rr_readRest.1 mt_Rr_readRest.2.1 mt_Rr_readRest.2.2.1 mt_Rr_readRest.2.2.2 ∈ g_G.2.1 := g_memT (g_t3 8 rfl) rfl
theorem sc_Rr_readRest : Cond.static mt_Rr_readRest.1 ∈ g_G.2.1 := g_memT (g_t3 7 rfl) rfl
theorem cd_Ta_takeNumber : Cond.code mt_Ta_takeNumber.1 mt_Ta_takeNumber.2.1 mt_Ta_takeNumber.2.2.1 mt_Ta_takeNumber.2.2.2 ∈ g_G.2.1 := g_memT (g_t3 12 rfl) rfl
theorem im_Ta_takeNumber : Cond.instanceMethod mt_Ta_takeNumber.1 ∈ g_G.2.1 := g_memT (g_t3 10 rfl) rfl
theorem se_Ta_takeNumber : Cond.selects mt_Ta_takeNumber.1.cls mt_Ta_takeNumber.1 mt_Ta_takeNumber.1 ∈ g_G.2.1 := g_memT (g_t3 11 rfl) rfl
theorem cd_Rr_readHouse : Cond.code mt_Rr_readHouse.1 mt_Rr_readHouse.2.1 mt_Rr_readHouse.2.2.1 mt_Rr_readHouse.2.2.2 ∈ g_G.2.1 := g_memT (g_t3 19 rfl) rfl
theorem sc_Rr_readHouse : Cond.static mt_Rr_readHouse.1 ∈ g_G.2.1 := g_memT (g_t3 18 rfl) rfl
theorem cd_Ri_slotTaken : Cond.code mt_Ri_slotTaken.1 mt_Ri_slotTaken.2.1 mt_Ri_slotTaken.2.2.1 mt_Ri_slotTaken.2.2.2 ∈ g_G.2.1 := g_memT (g_t3 23 rfl) rfl
theorem im_Ri_slotTaken : Cond.instanceMethod mt_Ri_slotTaken.1 ∈ g_G.2.1 := g_memT (g_t3 21 rfl) rfl
theorem se_Ri_slotTaken : Cond.selects mt_Ri_slotTaken.1.cls mt_Ri_slotTaken.1 mt_Ri_slotTaken.1 ∈ g_G.2.1 := g_memT (g_t3 22 rfl) rfl
theorem cd_Ri_addHouse : Cond.code mt_Ri_addHouse.1 mt_Ri_addHouse.2.1 mt_Ri_addHouse.2.2.1 mt_Ri_addHouse.2.2.2 ∈ g_G.2.1 := g_memT (g_t3 27 rfl) rfl
theorem im_Ri_addHouse : Cond.instanceMethod mt_Ri_addHouse.1 ∈ g_G.2.1 := g_memT (g_t3 25 rfl) rfl
theorem se_Ri_addHouse : Cond.selects mt_Ri_addHouse.1.cls mt_Ri_addHouse.1 mt_Ri_addHouse.1 ∈ g_G.2.1 := g_memT (g_t3 26 rfl) rfl
theorem cd_Rr_readSight : Cond.code mt_Rr_readSight.1 mt_Rr_readSight.2.1 mt_Rr_readSight.2.2.1 mt_Rr_readSight.2.2.2 ∈ g_G.2.1 := g_memT (g_t3 30 rfl) rfl
theorem sc_Rr_readSight : Cond.static mt_Rr_readSight.1 ∈ g_G.2.1 := g_memT (g_t3 29 rfl) rfl
theorem cd_Ri_addSight : Cond.code mt_Ri_addSight.1 mt_Ri_addSight.2.1 mt_Ri_addSight.2.2.1 mt_Ri_addSight.2.2.2 ∈ g_G.2.1 := g_memT (g_t3 34 rfl) rfl
theorem im_Ri_addSight : Cond.instanceMethod mt_Ri_addSight.1 ∈ g_G.2.1 := g_memT (g_t3 32 rfl) rfl
theorem se_Ri_addSight : Cond.selects mt_Ri_addSight.1.cls mt_Ri_addSight.1 mt_Ri_addSight.1 ∈ g_G.2.1 := g_memT (g_t3 33 rfl) rfl
theorem cd_Rr_readLiking : Cond.code mt_Rr_readLiking.1 mt_Rr_readLiking.2.1 mt_Rr_readLiking.2.2.1 mt_Rr_readLiking.2.2.2 ∈ g_G.2.1 := g_memT (g_t3 37 rfl) rfl
theorem sc_Rr_readLiking : Cond.static mt_Rr_readLiking.1 ∈ g_G.2.1 := g_memT (g_t3 36 rfl) rfl
theorem cd_Rr_readGate : Cond.code mt_Rr_readGate.1 mt_Rr_readGate.2.1 mt_Rr_readGate.2.2.1 mt_Rr_readGate.2.2.2 ∈ g_G.2.1 := g_memT (g_t3 40 rfl) rfl
theorem sc_Rr_readGate : Cond.static mt_Rr_readGate.1 ∈ g_G.2.1 := g_memT (g_t3 39 rfl) rfl
theorem cd_Rr_readRate : Cond.code mt_Rr_readRate.1 mt_Rr_readRate.2.1 mt_Rr_readRate.2.2.1 mt_Rr_readRate.2.2.2 ∈ g_G.2.1 := g_memT (g_t3 43 rfl) rfl
theorem sc_Rr_readRate : Cond.static mt_Rr_readRate.1 ∈ g_G.2.1 := g_memT (g_t3 42 rfl) rfl
theorem cd_Ri_setRates : Cond.code mt_Ri_setRates.1 mt_Ri_setRates.2.1 mt_Ri_setRates.2.2.1 mt_Ri_setRates.2.2.2 ∈ g_G.2.1 := g_memT (g_t3 47 rfl) rfl
theorem im_Ri_setRates : Cond.instanceMethod mt_Ri_setRates.1 ∈ g_G.2.1 := g_memT (g_t3 45 rfl) rfl
theorem se_Ri_setRates : Cond.selects mt_Ri_setRates.1.cls mt_Ri_setRates.1 mt_Ri_setRates.1 ∈ g_G.2.1 := g_memT (g_t3 46 rfl) rfl
theorem cd_Ac_forget : Cond.code mt_Ac_forget.1 mt_Ac_forget.2.1 mt_Ac_forget.2.2.1 mt_Ac_forget.2.2.2 ∈ g_G.2.1 := g_memT (g_t3 51 rfl) rfl
theorem im_Ac_forget : Cond.instanceMethod mt_Ac_forget.1 ∈ g_G.2.1 := g_memT (g_t3 49 rfl) rfl
theorem se_Ac_forget : Cond.selects mt_Ac_forget.1.cls mt_Ac_forget.1 mt_Ac_forget.1 ∈ g_G.2.1 := g_memT (g_t3 50 rfl) rfl
theorem cd_Tu_rule : Cond.code mt_Tu_rule.1 mt_Tu_rule.2.1 mt_Tu_rule.2.2.1 mt_Tu_rule.2.2.2 ∈ g_G.2.1 := g_memT (g_t3 55 rfl) rfl
theorem im_Tu_rule : Cond.instanceMethod mt_Tu_rule.1 ∈ g_G.2.1 := g_memT (g_t3 53 rfl) rfl
theorem se_Tu_rule : Cond.selects mt_Tu_rule.1.cls mt_Tu_rule.1 mt_Tu_rule.1 ∈ g_G.2.1 := g_memT (g_t3 54 rfl) rfl
theorem cd_Ru_readAll : Cond.code mt_Ru_readAll.1 mt_Ru_readAll.2.1 mt_Ru_readAll.2.2.1 mt_Ru_readAll.2.2.2 ∈ g_G.2.1 := g_memT (g_t3 59 rfl) rfl
theorem im_Ru_readAll : Cond.instanceMethod mt_Ru_readAll.1 ∈ g_G.2.1 := g_memT (g_t3 57 rfl) rfl
theorem se_Ru_readAll : Cond.selects mt_Ru_readAll.1.cls mt_Ru_readAll.1 mt_Ru_readAll.1 ∈ g_G.2.1 := g_memT (g_t3 58 rfl) rfl
theorem cd_Ru_readSum : Cond.code mt_Ru_readSum.1 mt_Ru_readSum.2.1 mt_Ru_readSum.2.2.1 mt_Ru_readSum.2.2.2 ∈ g_G.2.1 := g_memT (g_t3 67 rfl) rfl
theorem im_Ru_readSum : Cond.instanceMethod mt_Ru_readSum.1 ∈ g_G.2.1 := g_memT (g_t3 66 rfl) rfl
theorem se_Ru_readSum : Cond.selects mt_Ru_readSum.1.cls mt_Ru_readSum.1 mt_Ru_readSum.1 ∈ g_G.2.1 := g_memT (g_t0 3 rfl) rfl
theorem cd_Ru_checkValue : Cond.code mt_Ru_checkValue.1 mt_Ru_checkValue.2.1 mt_Ru_checkValue.2.2.1 mt_Ru_checkValue.2.2.2 ∈ g_G.2.1 := g_memT (g_t3 71 rfl) rfl
theorem im_Ru_checkValue : Cond.instanceMethod mt_Ru_checkValue.1 ∈ g_G.2.1 := g_memT (g_t3 70 rfl) rfl
theorem se_Ru_checkValue : Cond.selects mt_Ru_checkValue.1.cls mt_Ru_checkValue.1 mt_Ru_checkValue.1 ∈ g_G.2.1 := g_memT (g_t0 4 rfl) rfl
theorem cd_Ru_countToken : Cond.code mt_Ru_countToken.1 mt_Ru_countToken.2.1 mt_Ru_countToken.2.2.1 mt_Ru_countToken.2.2.2 ∈ g_G.2.1 := g_memT (g_t3 75 rfl) rfl
theorem im_Ru_countToken : Cond.instanceMethod mt_Ru_countToken.1 ∈ g_G.2.1 := g_memT (g_t3 74 rfl) rfl
theorem se_Ru_countToken : Cond.selects mt_Ru_countToken.1.cls mt_Ru_countToken.1 mt_Ru_countToken.1 ∈ g_G.2.1 := g_memT (g_t0 5 rfl) rfl
theorem cd_Ru_emit : Cond.code mt_Ru_emit.1 mt_Ru_emit.2.1 mt_Ru_emit.2.2.1 mt_Ru_emit.2.2.2 ∈ g_G.2.1 := g_memT (g_t3 79 rfl) rfl
theorem im_Ru_emit : Cond.instanceMethod mt_Ru_emit.1 ∈ g_G.2.1 := g_memT (g_t3 78 rfl) rfl
theorem se_Ru_emit : Cond.selects mt_Ru_emit.1.cls mt_Ru_emit.1 mt_Ru_emit.1 ∈ g_G.2.1 := g_memT (g_t0 6 rfl) rfl
theorem cd_Ru_timingOf : Cond.code mt_Ru_timingOf.1 mt_Ru_timingOf.2.1 mt_Ru_timingOf.2.2.1 mt_Ru_timingOf.2.2.2 ∈ g_G.2.1 := g_memT (g_t3 82 rfl) rfl
theorem sc_Ru_timingOf : Cond.static mt_Ru_timingOf.1 ∈ g_G.2.1 := g_memT (g_t3 81 rfl) rfl
theorem cd_Ru_addingOf : Cond.code mt_Ru_addingOf.1 mt_Ru_addingOf.2.1 mt_Ru_addingOf.2.2.1 mt_Ru_addingOf.2.2.2 ∈ g_G.2.1 := g_memT (g_t3 85 rfl) rfl
theorem sc_Ru_addingOf : Cond.static mt_Ru_addingOf.1 ∈ g_G.2.1 := g_memT (g_t3 84 rfl) rfl
theorem cd_Ru_readTest : Cond.code mt_Ru_readTest.1 mt_Ru_readTest.2.1 mt_Ru_readTest.2.2.1 mt_Ru_readTest.2.2.2 ∈ g_G.2.1 := g_memT (g_t3 89 rfl) rfl
theorem im_Ru_readTest : Cond.instanceMethod mt_Ru_readTest.1 ∈ g_G.2.1 := g_memT (g_t3 88 rfl) rfl
theorem se_Ru_readTest : Cond.selects mt_Ru_readTest.1.cls mt_Ru_readTest.1 mt_Ru_readTest.1 ∈ g_G.2.1 := g_memT (g_t0 7 rfl) rfl
theorem cd_Ru_readFact : Cond.code mt_Ru_readFact.1 mt_Ru_readFact.2.1 mt_Ru_readFact.2.2.1 mt_Ru_readFact.2.2.2 ∈ g_G.2.1 := g_memT (g_t3 93 rfl) rfl
theorem im_Ru_readFact : Cond.instanceMethod mt_Ru_readFact.1 ∈ g_G.2.1 := g_memT (g_t3 92 rfl) rfl
theorem se_Ru_readFact : Cond.selects mt_Ru_readFact.1.cls mt_Ru_readFact.1 mt_Ru_readFact.1 ∈ g_G.2.1 := g_memT (g_t0 8 rfl) rfl
theorem cd_Ru_comparisonOf : Cond.code mt_Ru_comparisonOf.1 mt_Ru_comparisonOf.2.1 mt_Ru_comparisonOf.2.2.1 mt_Ru_comparisonOf.2.2.2 ∈ g_G.2.1 := g_memT (g_t3 96 rfl) rfl
theorem sc_Ru_comparisonOf : Cond.static mt_Ru_comparisonOf.1 ∈ g_G.2.1 := g_memT (g_t3 95 rfl) rfl
theorem cd_Ru_codeRead : Cond.code mt_Ru_codeRead.1 mt_Ru_codeRead.2.1 mt_Ru_codeRead.2.2.1 mt_Ru_codeRead.2.2.2 ∈ g_G.2.1 := g_memT (g_t3 101 rfl) rfl
theorem im_Ru_codeRead : Cond.instanceMethod mt_Ru_codeRead.1 ∈ g_G.2.1 := g_memT (g_t3 99 rfl) rfl
theorem se_Ru_codeRead : Cond.selects mt_Ru_codeRead.1.cls mt_Ru_codeRead.1 mt_Ru_codeRead.1 ∈ g_G.2.1 := g_memT (g_t3 100 rfl) rfl
theorem cd_Ar_copyOf : Cond.code mt_Ar_copyOf.1 mt_Ar_copyOf.2.1 mt_Ar_copyOf.2.2.1 mt_Ar_copyOf.2.2.2 ∈ g_G.2.1 := g_memT (g_t3 104 rfl) rfl
theorem sc_Ar_copyOf : Cond.static mt_Ar_copyOf.1 ∈ g_G.2.1 := g_memT (g_t3 103 rfl) rfl
theorem cd_Ro_init : Cond.code mt_Ro_init.1 mt_Ro_init.2.1 mt_Ro_init.2.2.1 mt_Ro_init.2.2.2 ∈ g_G.2.1 := g_memT (g_t3 120 rfl) rfl
theorem im_Ro_init : Cond.instanceMethod mt_Ro_init.1 ∈ g_G.2.1 := g_memT (g_t3 119 rfl) rfl
theorem cd_Tu_house : Cond.code mt_Tu_house.1 mt_Tu_house.2.1 mt_Tu_house.2.2.1 mt_Tu_house.2.2.2 ∈ g_G.2.1 := g_memT (g_t3 130 rfl) rfl
theorem im_Tu_house : Cond.instanceMethod mt_Tu_house.1 ∈ g_G.2.1 := g_memT (g_t3 128 rfl) rfl
theorem se_Tu_house : Cond.selects mt_Tu_house.1.cls mt_Tu_house.1 mt_Tu_house.1 ∈ g_G.2.1 := g_memT (g_t3 129 rfl) rfl
theorem cd_Tu_hasHouse : Cond.code mt_Tu_hasHouse.1 mt_Tu_hasHouse.2.1 mt_Tu_hasHouse.2.2.1 mt_Tu_hasHouse.2.2.2 ∈ g_G.2.1 := g_memT (g_t3 134 rfl) rfl
theorem im_Tu_hasHouse : Cond.instanceMethod mt_Tu_hasHouse.1 ∈ g_G.2.1 := g_memT (g_t3 133 rfl) rfl
theorem se_Tu_hasHouse : Cond.selects mt_Tu_hasHouse.1.cls mt_Tu_hasHouse.1 mt_Tu_hasHouse.1 ∈ g_G.2.1 := g_memT (g_t0 9 rfl) rfl
theorem cd_Ri_facing : Cond.code mt_Ri_facing.1 mt_Ri_facing.2.1 mt_Ri_facing.2.2.1 mt_Ri_facing.2.2.2 ∈ g_G.2.1 := g_memT (g_t3 138 rfl) rfl
theorem im_Ri_facing : Cond.instanceMethod mt_Ri_facing.1 ∈ g_G.2.1 := g_memT (g_t3 136 rfl) rfl
theorem se_Ri_facing : Cond.selects mt_Ri_facing.1.cls mt_Ri_facing.1 mt_Ri_facing.1 ∈ g_G.2.1 := g_memT (g_t3 137 rfl) rfl
theorem cd_Tu_facedBy : Cond.code mt_Tu_facedBy.1 mt_Tu_facedBy.2.1 mt_Tu_facedBy.2.2.1 mt_Tu_facedBy.2.2.2 ∈ g_G.2.1 := g_memT (g_t3 141 rfl) rfl
theorem sc_Tu_facedBy : Cond.static mt_Tu_facedBy.1 ∈ g_G.2.1 := g_memT (g_t3 140 rfl) rfl
theorem cd_Ri_sortsAt : Cond.code mt_Ri_sortsAt.1 mt_Ri_sortsAt.2.1 mt_Ri_sortsAt.2.2.1 mt_Ri_sortsAt.2.2.2 ∈ g_G.2.1 := g_memT (g_t3 145 rfl) rfl
theorem im_Ri_sortsAt : Cond.instanceMethod mt_Ri_sortsAt.1 ∈ g_G.2.1 := g_memT (g_t3 143 rfl) rfl
theorem se_Ri_sortsAt : Cond.selects mt_Ri_sortsAt.1.cls mt_Ri_sortsAt.1 mt_Ri_sortsAt.1 ∈ g_G.2.1 := g_memT (g_t3 144 rfl) rfl
theorem cd_Ri_likesNow : Cond.code mt_Ri_likesNow.1 mt_Ri_likesNow.2.1 mt_Ri_likesNow.2.2.1 mt_Ri_likesNow.2.2.2 ∈ g_G.2.1 := g_memT (g_t3 149 rfl) rfl
theorem im_Ri_likesNow : Cond.instanceMethod mt_Ri_likesNow.1 ∈ g_G.2.1 := g_memT (g_t3 147 rfl) rfl
theorem se_Ri_likesNow : Cond.selects mt_Ri_likesNow.1.cls mt_Ri_likesNow.1 mt_Ri_likesNow.1 ∈ g_G.2.1 := g_memT (g_t3 148 rfl) rfl
theorem cd_Ri_likesIn : Cond.code mt_Ri_likesIn.1 mt_Ri_likesIn.2.1 mt_Ri_likesIn.2.2.1 mt_Ri_likesIn.2.2.2 ∈ g_G.2.1 := g_memT (g_t3 153 rfl) rfl
theorem im_Ri_likesIn : Cond.instanceMethod mt_Ri_likesIn.1 ∈ g_G.2.1 := g_memT (g_t3 151 rfl) rfl
theorem se_Ri_likesIn : Cond.selects mt_Ri_likesIn.1.cls mt_Ri_likesIn.1 mt_Ri_likesIn.1 ∈ g_G.2.1 := g_memT (g_t3 152 rfl) rfl
theorem cd_Ri_isGate : Cond.code mt_Ri_isGate.1 mt_Ri_isGate.2.1 mt_Ri_isGate.2.2.1 mt_Ri_isGate.2.2.2 ∈ g_G.2.1 := g_memT (g_t3 158 rfl) rfl
theorem im_Ri_isGate : Cond.instanceMethod mt_Ri_isGate.1 ∈ g_G.2.1 := g_memT (g_t3 156 rfl) rfl
theorem se_Ri_isGate : Cond.selects mt_Ri_isGate.1.cls mt_Ri_isGate.1 mt_Ri_isGate.1 ∈ g_G.2.1 := g_memT (g_t3 157 rfl) rfl
theorem cd_Ri_wantsStay : Cond.code mt_Ri_wantsStay.1 mt_Ri_wantsStay.2.1 mt_Ri_wantsStay.2.2.1 mt_Ri_wantsStay.2.2.2 ∈ g_G.2.1 := g_memT (g_t3 162 rfl) rfl
theorem im_Ri_wantsStay : Cond.instanceMethod mt_Ri_wantsStay.1 ∈ g_G.2.1 := g_memT (g_t3 160 rfl) rfl
theorem se_Ri_wantsStay : Cond.selects mt_Ri_wantsStay.1.cls mt_Ri_wantsStay.1 mt_Ri_wantsStay.1 ∈ g_G.2.1 := g_memT (g_t3 161 rfl) rfl
theorem cd_Tu_wrapped : Cond.code mt_Tu_wrapped.1 mt_Tu_wrapped.2.1 mt_Tu_wrapped.2.2.1 mt_Tu_wrapped.2.2.2 ∈ g_G.2.1 := g_memT (g_t3 165 rfl) rfl
theorem sc_Tu_wrapped : Cond.static mt_Tu_wrapped.1 ∈ g_G.2.1 := g_memT (g_t3 164 rfl) rfl
theorem cd_Tu_direction : Cond.code mt_Tu_direction.1 mt_Tu_direction.2.1 mt_Tu_direction.2.2.1 mt_Tu_direction.2.2.2 ∈ g_G.2.1 := g_memT (g_t3 169 rfl) rfl
theorem im_Tu_direction : Cond.instanceMethod mt_Tu_direction.1 ∈ g_G.2.1 := g_memT (g_t3 167 rfl) rfl
theorem se_Tu_direction : Cond.selects mt_Tu_direction.1.cls mt_Tu_direction.1 mt_Tu_direction.1 ∈ g_G.2.1 := g_memT (g_t3 168 rfl) rfl
theorem cd_Tu_isDirection : Cond.code mt_Tu_isDirection.1 mt_Tu_isDirection.2.1 mt_Tu_isDirection.2.2.1 mt_Tu_isDirection.2.2.2 ∈ g_G.2.1 := g_memT (g_t3 172 rfl) rfl
theorem sc_Tu_isDirection : Cond.static mt_Tu_isDirection.1 ∈ g_G.2.1 := g_memT (g_t3 171 rfl) rfl
theorem cd_Ri_houseFacing : Cond.code mt_Ri_houseFacing.1 mt_Ri_houseFacing.2.1 mt_Ri_houseFacing.2.2.1 mt_Ri_houseFacing.2.2.2 ∈ g_G.2.1 := g_memT (g_t3 176 rfl) rfl
theorem im_Ri_houseFacing : Cond.instanceMethod mt_Ri_houseFacing.1 ∈ g_G.2.1 := g_memT (g_t3 174 rfl) rfl
theorem se_Ri_houseFacing : Cond.selects mt_Ri_houseFacing.1.cls mt_Ri_houseFacing.1 mt_Ri_houseFacing.1 ∈ g_G.2.1 := g_memT (g_t3 175 rfl) rfl
theorem cd_Tu_rateOf : Cond.code mt_Tu_rateOf.1 mt_Tu_rateOf.2.1 mt_Tu_rateOf.2.2.1 mt_Tu_rateOf.2.2.2 ∈ g_G.2.1 := g_memT (g_t3 181 rfl) rfl
theorem im_Tu_rateOf : Cond.instanceMethod mt_Tu_rateOf.1 ∈ g_G.2.1 := g_memT (g_t3 179 rfl) rfl
theorem se_Tu_rateOf : Cond.selects mt_Tu_rateOf.1.cls mt_Tu_rateOf.1 mt_Tu_rateOf.1 ∈ g_G.2.1 := g_memT (g_t3 180 rfl) rfl
theorem cd_Tu_isHour : Cond.code mt_Tu_isHour.1 mt_Tu_isHour.2.1 mt_Tu_isHour.2.2.1 mt_Tu_isHour.2.2.2 ∈ g_G.2.1 := g_memT (g_t3 184 rfl) rfl
theorem sc_Tu_isHour : Cond.static mt_Tu_isHour.1 ∈ g_G.2.1 := g_memT (g_t3 183 rfl) rfl
theorem cd_Tu_worn : Cond.code mt_Tu_worn.1 mt_Tu_worn.2.1 mt_Tu_worn.2.2.1 mt_Tu_worn.2.2.2 ∈ g_G.2.1 := g_memT (g_t3 188 rfl) rfl
theorem im_Tu_worn : Cond.instanceMethod mt_Tu_worn.1 ∈ g_G.2.1 := g_memT (g_t3 186 rfl) rfl
theorem se_Tu_worn : Cond.selects mt_Tu_worn.1.cls mt_Tu_worn.1 mt_Tu_worn.1 ∈ g_G.2.1 := g_memT (g_t3 187 rfl) rfl
theorem cd_Tu_count : Cond.code mt_Tu_count.1 mt_Tu_count.2.1 mt_Tu_count.2.2.1 mt_Tu_count.2.2.2 ∈ g_G.2.1 := g_memT (g_t3 192 rfl) rfl
theorem im_Tu_count : Cond.instanceMethod mt_Tu_count.1 ∈ g_G.2.1 := g_memT (g_t3 190 rfl) rfl
theorem se_Tu_count : Cond.selects mt_Tu_count.1.cls mt_Tu_count.1 mt_Tu_count.1 ∈ g_G.2.1 := g_memT (g_t3 191 rfl) rfl
theorem cd_Ri_allLike : Cond.code mt_Ri_allLike.1 mt_Ri_allLike.2.1 mt_Ri_allLike.2.2.1 mt_Ri_allLike.2.2.2 ∈ g_G.2.1 := g_memT (g_t3 196 rfl) rfl
theorem im_Ri_allLike : Cond.instanceMethod mt_Ri_allLike.1 ∈ g_G.2.1 := g_memT (g_t3 194 rfl) rfl
theorem se_Ri_allLike : Cond.selects mt_Ri_allLike.1.cls mt_Ri_allLike.1 mt_Ri_allLike.1 ∈ g_G.2.1 := g_memT (g_t3 195 rfl) rfl
theorem cd_Ri_allVotes : Cond.code mt_Ri_allVotes.1 mt_Ri_allVotes.2.1 mt_Ri_allVotes.2.2.1 mt_Ri_allVotes.2.2.2 ∈ g_G.2.1 := g_memT (g_t3 200 rfl) rfl
theorem im_Ri_allVotes : Cond.instanceMethod mt_Ri_allVotes.1 ∈ g_G.2.1 := g_memT (g_t3 198 rfl) rfl
theorem se_Ri_allVotes : Cond.selects mt_Ri_allVotes.1.cls mt_Ri_allVotes.1 mt_Ri_allVotes.1 ∈ g_G.2.1 := g_memT (g_t3 199 rfl) rfl
theorem cd_Ri_votesOf : Cond.code mt_Ri_votesOf.1 mt_Ri_votesOf.2.1 mt_Ri_votesOf.2.2.1 mt_Ri_votesOf.2.2.2 ∈ g_G.2.1 := g_memT (g_t3 204 rfl) rfl
theorem im_Ri_votesOf : Cond.instanceMethod mt_Ri_votesOf.1 ∈ g_G.2.1 := g_memT (g_t3 202 rfl) rfl
theorem se_Ri_votesOf : Cond.selects mt_Ri_votesOf.1.cls mt_Ri_votesOf.1 mt_Ri_votesOf.1 ∈ g_G.2.1 := g_memT (g_t3 203 rfl) rfl
theorem cd_Tu_hour : Cond.code mt_Tu_hour.1 mt_Tu_hour.2.1 mt_Tu_hour.2.2.1 mt_Tu_hour.2.2.2 ∈ g_G.2.1 := g_memT (g_t3 209 rfl) rfl
theorem im_Tu_hour : Cond.instanceMethod mt_Tu_hour.1 ∈ g_G.2.1 := g_memT (g_t3 207 rfl) rfl
theorem se_Tu_hour : Cond.selects mt_Tu_hour.1.cls mt_Tu_hour.1 mt_Tu_hour.1 ∈ g_G.2.1 := g_memT (g_t3 208 rfl) rfl
theorem cd_Ri_hoursBehind : Cond.code mt_Ri_hoursBehind.1 mt_Ri_hoursBehind.2.1 mt_Ri_hoursBehind.2.2.1 mt_Ri_hoursBehind.2.2.2 ∈ g_G.2.1 := g_memT (g_t3 213 rfl) rfl
theorem im_Ri_hoursBehind : Cond.instanceMethod mt_Ri_hoursBehind.1 ∈ g_G.2.1 := g_memT (g_t3 211 rfl) rfl
theorem se_Ri_hoursBehind : Cond.selects mt_Ri_hoursBehind.1.cls mt_Ri_hoursBehind.1 mt_Ri_hoursBehind.1 ∈ g_G.2.1 := g_memT (g_t3 212 rfl) rfl
theorem cd_Tu_lastHour : Cond.code mt_Tu_lastHour.1 mt_Tu_lastHour.2.1 mt_Tu_lastHour.2.2.1 mt_Tu_lastHour.2.2.2 ∈ g_G.2.1 := g_memT (g_t3 216 rfl) rfl
theorem sc_Tu_lastHour : Cond.static mt_Tu_lastHour.1 ∈ g_G.2.1 := g_memT (g_t3 215 rfl) rfl
theorem cd_Ri_passHour : Cond.code mt_Ri_passHour.1 mt_Ri_passHour.2.1 mt_Ri_passHour.2.2.1 mt_Ri_passHour.2.2.2 ∈ g_G.2.1 := g_memT (g_t3 220 rfl) rfl
theorem im_Ri_passHour : Cond.instanceMethod mt_Ri_passHour.1 ∈ g_G.2.1 := g_memT (g_t3 218 rfl) rfl
theorem se_Ri_passHour : Cond.selects mt_Ri_passHour.1.cls mt_Ri_passHour.1 mt_Ri_passHour.1 ∈ g_G.2.1 := g_memT (g_t3 219 rfl) rfl
theorem cd_Ac_keep : Cond.code mt_Ac_keep.1 mt_Ac_keep.2.1 mt_Ac_keep.2.2.1 mt_Ac_keep.2.2.2 ∈ g_G.2.1 := g_memT (g_t3 228 rfl) rfl
theorem im_Ac_keep : Cond.instanceMethod mt_Ac_keep.1 ∈ g_G.2.1 := g_memT (g_t3 226 rfl) rfl
theorem se_Ac_keep : Cond.selects mt_Ac_keep.1.cls mt_Ac_keep.1 mt_Ac_keep.1 ∈ g_G.2.1 := g_memT (g_t3 227 rfl) rfl
theorem cd_Tu_rate : Cond.code mt_Tu_rate.1 mt_Tu_rate.2.1 mt_Tu_rate.2.2.1 mt_Tu_rate.2.2.2 ∈ g_G.2.1 := g_memT (g_t3 233 rfl) rfl
theorem im_Tu_rate : Cond.instanceMethod mt_Tu_rate.1 ∈ g_G.2.1 := g_memT (g_t3 231 rfl) rfl
theorem se_Tu_rate : Cond.selects mt_Tu_rate.1.cls mt_Tu_rate.1 mt_Tu_rate.1 ∈ g_G.2.1 := g_memT (g_t3 232 rfl) rfl
theorem cd_Tu_swap : Cond.code mt_Tu_swap.1 mt_Tu_swap.2.1 mt_Tu_swap.2.2.1 mt_Tu_swap.2.2.2 ∈ g_G.2.1 := g_memT (g_t3 237 rfl) rfl
theorem im_Tu_swap : Cond.instanceMethod mt_Tu_swap.1 ∈ g_G.2.1 := g_memT (g_t3 235 rfl) rfl
theorem se_Tu_swap : Cond.selects mt_Tu_swap.1.cls mt_Tu_swap.1 mt_Tu_swap.1 ∈ g_G.2.1 := g_memT (g_t3 236 rfl) rfl
theorem cd_Ri_swapSlots : Cond.code mt_Ri_swapSlots.1 mt_Ri_swapSlots.2.1 mt_Ri_swapSlots.2.2.1 mt_Ri_swapSlots.2.2.2 ∈ g_G.2.1 := g_memT (g_t4 1 rfl) rfl
theorem im_Ri_swapSlots : Cond.instanceMethod mt_Ri_swapSlots.1 ∈ g_G.2.1 := g_memT (g_t3 239 rfl) rfl
theorem se_Ri_swapSlots : Cond.selects mt_Ri_swapSlots.1.cls mt_Ri_swapSlots.1 mt_Ri_swapSlots.1 ∈ g_G.2.1 := g_memT (g_t4 0 rfl) rfl
theorem cd_Tu_stop : Cond.code mt_Tu_stop.1 mt_Tu_stop.2.1 mt_Tu_stop.2.2.1 mt_Tu_stop.2.2.2 ∈ g_G.2.1 := g_memT (g_t4 5 rfl) rfl
theorem im_Tu_stop : Cond.instanceMethod mt_Tu_stop.1 ∈ g_G.2.1 := g_memT (g_t4 3 rfl) rfl
theorem se_Tu_stop : Cond.selects mt_Tu_stop.1.cls mt_Tu_stop.1 mt_Tu_stop.1 ∈ g_G.2.1 := g_memT (g_t4 4 rfl) rfl
theorem cd_Tu_undo : Cond.code mt_Tu_undo.1 mt_Tu_undo.2.1 mt_Tu_undo.2.2.1 mt_Tu_undo.2.2.2 ∈ g_G.2.1 := g_memT (g_t4 9 rfl) rfl
theorem im_Tu_undo : Cond.instanceMethod mt_Tu_undo.1 ∈ g_G.2.1 := g_memT (g_t4 7 rfl) rfl
theorem se_Tu_undo : Cond.selects mt_Tu_undo.1.cls mt_Tu_undo.1 mt_Tu_undo.1 ∈ g_G.2.1 := g_memT (g_t4 8 rfl) rfl
theorem cd_Ac_undoLast : Cond.code mt_Ac_undoLast.1 mt_Ac_undoLast.2.1 mt_Ac_undoLast.2.2.1 mt_Ac_undoLast.2.2.2 ∈ g_G.2.1 := g_memT (g_t4 13 rfl) rfl
theorem im_Ac_undoLast : Cond.instanceMethod mt_Ac_undoLast.1 ∈ g_G.2.1 := g_memT (g_t4 11 rfl) rfl
theorem se_Ac_undoLast : Cond.selects mt_Ac_undoLast.1.cls mt_Ac_undoLast.1 mt_Ac_undoLast.1 ∈ g_G.2.1 := g_memT (g_t4 12 rfl) rfl
theorem cd_Ri_takeHourBack : Cond.code mt_Ri_takeHourBack.1 mt_Ri_takeHourBack.2.1 mt_Ri_takeHourBack.2.2.1 mt_Ri_takeHourBack.2.2.2 ∈ g_G.2.1 := g_memT (g_t4 17 rfl) rfl
theorem im_Ri_takeHourBack : Cond.instanceMethod mt_Ri_takeHourBack.1 ∈ g_G.2.1 := g_memT (g_t4 15 rfl) rfl
theorem se_Ri_takeHourBack : Cond.selects mt_Ri_takeHourBack.1.cls mt_Ri_takeHourBack.1 mt_Ri_takeHourBack.1 ∈ g_G.2.1 := g_memT (g_t4 16 rfl) rfl
theorem cd_Tu_run : Cond.code mt_Tu_run.1 mt_Tu_run.2.1 mt_Tu_run.2.2.1 mt_Tu_run.2.2.2 ∈ g_G.2.1 := g_memT (g_t4 22 rfl) rfl
theorem im_Tu_run : Cond.instanceMethod mt_Tu_run.1 ∈ g_G.2.1 := g_memT (g_t4 20 rfl) rfl
theorem se_Tu_run : Cond.selects mt_Tu_run.1.cls mt_Tu_run.1 mt_Tu_run.1 ∈ g_G.2.1 := g_memT (g_t4 21 rfl) rfl
theorem cd_Tu_hasRule : Cond.code mt_Tu_hasRule.1 mt_Tu_hasRule.2.1 mt_Tu_hasRule.2.2.1 mt_Tu_hasRule.2.2.2 ∈ g_G.2.1 := g_memT (g_t4 26 rfl) rfl
theorem im_Tu_hasRule : Cond.instanceMethod mt_Tu_hasRule.1 ∈ g_G.2.1 := g_memT (g_t4 25 rfl) rfl
theorem se_Tu_hasRule : Cond.selects mt_Tu_hasRule.1.cls mt_Tu_hasRule.1 mt_Tu_hasRule.1 ∈ g_G.2.1 := g_memT (g_t0 10 rfl) rfl
theorem cd_Ma_rateBy : Cond.code mt_Ma_rateBy.1 mt_Ma_rateBy.2.1 mt_Ma_rateBy.2.2.1 mt_Ma_rateBy.2.2.2 ∈ g_G.2.1 := g_memT (g_t4 30 rfl) rfl
theorem im_Ma_rateBy : Cond.instanceMethod mt_Ma_rateBy.1 ∈ g_G.2.1 := g_memT (g_t4 28 rfl) rfl
theorem se_Ma_rateBy : Cond.selects mt_Ma_rateBy.1.cls mt_Ma_rateBy.1 mt_Ma_rateBy.1 ∈ g_G.2.1 := g_memT (g_t4 29 rfl) rfl
theorem cd_Ma_push : Cond.code mt_Ma_push.1 mt_Ma_push.2.1 mt_Ma_push.2.2.1 mt_Ma_push.2.2.2 ∈ g_G.2.1 := g_memT (g_t4 34 rfl) rfl
theorem im_Ma_push : Cond.instanceMethod mt_Ma_push.1 ∈ g_G.2.1 := g_memT (g_t4 33 rfl) rfl
theorem se_Ma_push : Cond.selects mt_Ma_push.1.cls mt_Ma_push.1 mt_Ma_push.1 ∈ g_G.2.1 := g_memT (g_t0 11 rfl) rfl
theorem cd_Ma_wordOf : Cond.code mt_Ma_wordOf.1 mt_Ma_wordOf.2.1 mt_Ma_wordOf.2.2.1 mt_Ma_wordOf.2.2.2 ∈ g_G.2.1 := g_memT (g_t4 37 rfl) rfl
theorem sc_Ma_wordOf : Cond.static mt_Ma_wordOf.1 ∈ g_G.2.1 := g_memT (g_t4 36 rfl) rfl
theorem cd_Ri_bestLike : Cond.code mt_Ri_bestLike.1 mt_Ri_bestLike.2.1 mt_Ri_bestLike.2.2.1 mt_Ri_bestLike.2.2.2 ∈ g_G.2.1 := g_memT (g_t4 42 rfl) rfl
theorem im_Ri_bestLike : Cond.instanceMethod mt_Ri_bestLike.1 ∈ g_G.2.1 := g_memT (g_t4 40 rfl) rfl
theorem se_Ri_bestLike : Cond.selects mt_Ri_bestLike.1.cls mt_Ri_bestLike.1 mt_Ri_bestLike.1 ∈ g_G.2.1 := g_memT (g_t4 41 rfl) rfl
theorem cd_Ri_leastLike : Cond.code mt_Ri_leastLike.1 mt_Ri_leastLike.2.1 mt_Ri_leastLike.2.2.1 mt_Ri_leastLike.2.2.2 ∈ g_G.2.1 := g_memT (g_t4 48 rfl) rfl
theorem im_Ri_leastLike : Cond.instanceMethod mt_Ri_leastLike.1 ∈ g_G.2.1 := g_memT (g_t4 46 rfl) rfl
theorem se_Ri_leastLike : Cond.selects mt_Ri_leastLike.1.cls mt_Ri_leastLike.1 mt_Ri_leastLike.1 ∈ g_G.2.1 := g_memT (g_t4 47 rfl) rfl
theorem cd_Ri_stayVotes : Cond.code mt_Ri_stayVotes.1 mt_Ri_stayVotes.2.1 mt_Ri_stayVotes.2.2.1 mt_Ri_stayVotes.2.2.2 ∈ g_G.2.1 := g_memT (g_t4 52 rfl) rfl
theorem im_Ri_stayVotes : Cond.instanceMethod mt_Ri_stayVotes.1 ∈ g_G.2.1 := g_memT (g_t4 50 rfl) rfl
theorem se_Ri_stayVotes : Cond.selects mt_Ri_stayVotes.1.cls mt_Ri_stayVotes.1 mt_Ri_stayVotes.1 ∈ g_G.2.1 := g_memT (g_t4 51 rfl) rfl
theorem cd_Ri_atGates : Cond.code mt_Ri_atGates.1 mt_Ri_atGates.2.1 mt_Ri_atGates.2.2.1 mt_Ri_atGates.2.2.2 ∈ g_G.2.1 := g_memT (g_t4 58 rfl) rfl
theorem im_Ri_atGates : Cond.instanceMethod mt_Ri_atGates.1 ∈ g_G.2.1 := g_memT (g_t4 56 rfl) rfl
theorem se_Ri_atGates : Cond.selects mt_Ri_atGates.1.cls mt_Ri_atGates.1 mt_Ri_atGates.1 ∈ g_G.2.1 := g_memT (g_t4 57 rfl) rfl
theorem cd_Ma_pop : Cond.code mt_Ma_pop.1 mt_Ma_pop.2.1 mt_Ma_pop.2.2.1 mt_Ma_pop.2.2.2 ∈ g_G.2.1 := g_memT (g_t4 63 rfl) rfl
theorem im_Ma_pop : Cond.instanceMethod mt_Ma_pop.1 ∈ g_G.2.1 := g_memT (g_t4 62 rfl) rfl
theorem se_Ma_pop : Cond.selects mt_Ma_pop.1.cls mt_Ma_pop.1 mt_Ma_pop.1 ∈ g_G.2.1 := g_memT (g_t0 12 rfl) rfl
theorem cd_Ma_truth : Cond.code mt_Ma_truth.1 mt_Ma_truth.2.1 mt_Ma_truth.2.2.1 mt_Ma_truth.2.2.2 ∈ g_G.2.1 := g_memT (g_t4 66 rfl) rfl
theorem sc_Ma_truth : Cond.static mt_Ma_truth.1 ∈ g_G.2.1 := g_memT (g_t4 65 rfl) rfl
theorem cd_Ma_held : Cond.code mt_Ma_held.1 mt_Ma_held.2.1 mt_Ma_held.2.2.1 mt_Ma_held.2.2.2 ∈ g_G.2.1 := g_memT (g_t4 69 rfl) rfl
theorem sc_Ma_held : Cond.static mt_Ma_held.1 ∈ g_G.2.1 := g_memT (g_t4 68 rfl) rfl
theorem cd_Ma_joined : Cond.code mt_Ma_joined.1 mt_Ma_joined.2.1 mt_Ma_joined.2.2.1 mt_Ma_joined.2.2.2 ∈ g_G.2.1 := g_memT (g_t4 80 rfl) rfl
theorem sc_Ma_joined : Cond.static mt_Ma_joined.1 ∈ g_G.2.1 := g_memT (g_t4 79 rfl) rfl
theorem cd_Tu_seed : Cond.code mt_Tu_seed.1 mt_Tu_seed.2.1 mt_Tu_seed.2.2.1 mt_Tu_seed.2.2.2 ∈ g_G.2.1 := g_memT (g_t4 84 rfl) rfl
theorem im_Tu_seed : Cond.instanceMethod mt_Tu_seed.1 ∈ g_G.2.1 := g_memT (g_t4 82 rfl) rfl
theorem se_Tu_seed : Cond.selects mt_Tu_seed.1.cls mt_Tu_seed.1 mt_Tu_seed.1 ∈ g_G.2.1 := g_memT (g_t4 83 rfl) rfl
theorem cd_Tu_image : Cond.code mt_Tu_image.1 mt_Tu_image.2.1 mt_Tu_image.2.2.1 mt_Tu_image.2.2.2 ∈ g_G.2.1 := g_memT (g_t4 88 rfl) rfl
theorem im_Tu_image : Cond.instanceMethod mt_Tu_image.1 ∈ g_G.2.1 := g_memT (g_t4 86 rfl) rfl
theorem se_Tu_image : Cond.selects mt_Tu_image.1.cls mt_Tu_image.1 mt_Tu_image.1 ∈ g_G.2.1 := g_memT (g_t4 87 rfl) rfl
theorem cd_Ri_copyFrom : Cond.code mt_Ri_copyFrom.1 mt_Ri_copyFrom.2.1 mt_Ri_copyFrom.2.2.1 mt_Ri_copyFrom.2.2.2 ∈ g_G.2.1 := g_memT (g_t4 92 rfl) rfl
theorem im_Ri_copyFrom : Cond.instanceMethod mt_Ri_copyFrom.1 ∈ g_G.2.1 := g_memT (g_t4 90 rfl) rfl
theorem se_Ri_copyFrom : Cond.selects mt_Ri_copyFrom.1.cls mt_Ri_copyFrom.1 mt_Ri_copyFrom.1 ∈ g_G.2.1 := g_memT (g_t4 91 rfl) rfl
theorem cd_Di_copyFrom : Cond.code mt_Di_copyFrom.1 mt_Di_copyFrom.2.1 mt_Di_copyFrom.2.2.1 mt_Di_copyFrom.2.2.2 ∈ g_G.2.1 := g_memT (g_t4 97 rfl) rfl
theorem im_Di_copyFrom : Cond.instanceMethod mt_Di_copyFrom.1 ∈ g_G.2.1 := g_memT (g_t4 95 rfl) rfl
theorem se_Di_copyFrom : Cond.selects mt_Di_copyFrom.1.cls mt_Di_copyFrom.1 mt_Di_copyFrom.1 ∈ g_G.2.1 := g_memT (g_t4 96 rfl) rfl
theorem cd_Tu_back : Cond.code mt_Tu_back.1 mt_Tu_back.2.1 mt_Tu_back.2.2.1 mt_Tu_back.2.2.2 ∈ g_G.2.1 := g_memT (g_t4 102 rfl) rfl
theorem im_Tu_back : Cond.instanceMethod mt_Tu_back.1 ∈ g_G.2.1 := g_memT (g_t4 100 rfl) rfl
theorem se_Tu_back : Cond.selects mt_Tu_back.1.cls mt_Tu_back.1 mt_Tu_back.1 ∈ g_G.2.1 := g_memT (g_t4 101 rfl) rfl
theorem cd_Tu_faces : Cond.code mt_Tu_faces.1 mt_Tu_faces.2.1 mt_Tu_faces.2.2.1 mt_Tu_faces.2.2.2 ∈ g_G.2.1 := g_memT (g_t4 106 rfl) rfl
theorem im_Tu_faces : Cond.instanceMethod mt_Tu_faces.1 ∈ g_G.2.1 := g_memT (g_t4 104 rfl) rfl
theorem se_Tu_faces : Cond.selects mt_Tu_faces.1.cls mt_Tu_faces.1 mt_Tu_faces.1 ∈ g_G.2.1 := g_memT (g_t4 105 rfl) rfl
theorem cd_Ri_angleOn : Cond.code mt_Ri_angleOn.1 mt_Ri_angleOn.2.1 mt_Ri_angleOn.2.2.1 mt_Ri_angleOn.2.2.2 ∈ g_G.2.1 := g_memT (g_t4 110 rfl) rfl
theorem im_Ri_angleOn : Cond.instanceMethod mt_Ri_angleOn.1 ∈ g_G.2.1 := g_memT (g_t4 108 rfl) rfl
theorem se_Ri_angleOn : Cond.selects mt_Ri_angleOn.1.cls mt_Ri_angleOn.1 mt_Ri_angleOn.1 ∈ g_G.2.1 := g_memT (g_t4 109 rfl) rfl
theorem cd_Ri_angleBehind : Cond.code mt_Ri_angleBehind.1 mt_Ri_angleBehind.2.1 mt_Ri_angleBehind.2.2.1 mt_Ri_angleBehind.2.2.2 ∈ g_G.2.1 := g_memT (g_t4 114 rfl) rfl
theorem im_Ri_angleBehind : Cond.instanceMethod mt_Ri_angleBehind.1 ∈ g_G.2.1 := g_memT (g_t4 112 rfl) rfl
theorem se_Ri_angleBehind : Cond.selects mt_Ri_angleBehind.1.cls mt_Ri_angleBehind.1 mt_Ri_angleBehind.1 ∈ g_G.2.1 := g_memT (g_t4 113 rfl) rfl
theorem cd_Ri_hourOn : Cond.code mt_Ri_hourOn.1 mt_Ri_hourOn.2.1 mt_Ri_hourOn.2.2.1 mt_Ri_hourOn.2.2.2 ∈ g_G.2.1 := g_memT (g_t4 118 rfl) rfl
theorem im_Ri_hourOn : Cond.instanceMethod mt_Ri_hourOn.1 ∈ g_G.2.1 := g_memT (g_t4 116 rfl) rfl
theorem se_Ri_hourOn : Cond.selects mt_Ri_hourOn.1.cls mt_Ri_hourOn.1 mt_Ri_hourOn.1 ∈ g_G.2.1 := g_memT (g_t4 117 rfl) rfl
theorem cd_Tu_sees : Cond.code mt_Tu_sees.1 mt_Tu_sees.2.1 mt_Tu_sees.2.2.1 mt_Tu_sees.2.2.2 ∈ g_G.2.1 := g_memT (g_t4 123 rfl) rfl
theorem im_Tu_sees : Cond.instanceMethod mt_Tu_sees.1 ∈ g_G.2.1 := g_memT (g_t4 121 rfl) rfl
theorem se_Tu_sees : Cond.selects mt_Tu_sees.1.cls mt_Tu_sees.1 mt_Tu_sees.1 ∈ g_G.2.1 := g_memT (g_t4 122 rfl) rfl
theorem cd_Tu_day : Cond.code mt_Tu_day.1 mt_Tu_day.2.1 mt_Tu_day.2.2.1 mt_Tu_day.2.2.2 ∈ g_G.2.1 := g_memT (g_t4 128 rfl) rfl
theorem im_Tu_day : Cond.instanceMethod mt_Tu_day.1 ∈ g_G.2.1 := g_memT (g_t4 126 rfl) rfl
theorem se_Tu_day : Cond.selects mt_Tu_day.1.cls mt_Tu_day.1 mt_Tu_day.1 ∈ g_G.2.1 := g_memT (g_t4 127 rfl) rfl
theorem cd_Ri_dayIn : Cond.code mt_Ri_dayIn.1 mt_Ri_dayIn.2.1 mt_Ri_dayIn.2.2.1 mt_Ri_dayIn.2.2.2 ∈ g_G.2.1 := g_memT (g_t4 132 rfl) rfl
theorem im_Ri_dayIn : Cond.instanceMethod mt_Ri_dayIn.1 ∈ g_G.2.1 := g_memT (g_t4 130 rfl) rfl
theorem se_Ri_dayIn : Cond.selects mt_Ri_dayIn.1.cls mt_Ri_dayIn.1 mt_Ri_dayIn.1 ∈ g_G.2.1 := g_memT (g_t4 131 rfl) rfl
theorem cd_Tu_errand : Cond.code mt_Tu_errand.1 mt_Tu_errand.2.1 mt_Tu_errand.2.2.1 mt_Tu_errand.2.2.2 ∈ g_G.2.1 := g_memT (g_t4 136 rfl) rfl
theorem im_Tu_errand : Cond.instanceMethod mt_Tu_errand.1 ∈ g_G.2.1 := g_memT (g_t4 134 rfl) rfl
theorem se_Tu_errand : Cond.selects mt_Tu_errand.1.cls mt_Tu_errand.1 mt_Tu_errand.1 ∈ g_G.2.1 := g_memT (g_t4 135 rfl) rfl
theorem cd_Tu_wayBetween : Cond.code mt_Tu_wayBetween.1 mt_Tu_wayBetween.2.1 mt_Tu_wayBetween.2.2.1 mt_Tu_wayBetween.2.2.2 ∈ g_G.2.1 := g_memT (g_t4 139 rfl) rfl
theorem sc_Tu_wayBetween : Cond.static mt_Tu_wayBetween.1 ∈ g_G.2.1 := g_memT (g_t4 138 rfl) rfl
theorem cd_Tu_stay : Cond.code mt_Tu_stay.1 mt_Tu_stay.2.1 mt_Tu_stay.2.2.1 mt_Tu_stay.2.2.2 ∈ g_G.2.1 := g_memT (g_t4 146 rfl) rfl
theorem im_Tu_stay : Cond.instanceMethod mt_Tu_stay.1 ∈ g_G.2.1 := g_memT (g_t4 144 rfl) rfl
theorem se_Tu_stay : Cond.selects mt_Tu_stay.1.cls mt_Tu_stay.1 mt_Tu_stay.1 ∈ g_G.2.1 := g_memT (g_t4 145 rfl) rfl
theorem cd_Tu_swings : Cond.code mt_Tu_swings.1 mt_Tu_swings.2.1 mt_Tu_swings.2.2.1 mt_Tu_swings.2.2.2 ∈ g_G.2.1 := g_memT (g_t4 151 rfl) rfl
theorem im_Tu_swings : Cond.instanceMethod mt_Tu_swings.1 ∈ g_G.2.1 := g_memT (g_t4 149 rfl) rfl
theorem se_Tu_swings : Cond.selects mt_Tu_swings.1.cls mt_Tu_swings.1 mt_Tu_swings.1 ∈ g_G.2.1 := g_memT (g_t4 150 rfl) rfl
theorem cd_Tu_plan : Cond.code mt_Tu_plan.1 mt_Tu_plan.2.1 mt_Tu_plan.2.2.1 mt_Tu_plan.2.2.2 ∈ g_G.2.1 := g_memT (g_t4 156 rfl) rfl
theorem im_Tu_plan : Cond.instanceMethod mt_Tu_plan.1 ∈ g_G.2.1 := g_memT (g_t4 154 rfl) rfl
theorem se_Tu_plan : Cond.selects mt_Tu_plan.1.cls mt_Tu_plan.1 mt_Tu_plan.1 ∈ g_G.2.1 := g_memT (g_t4 155 rfl) rfl
theorem cd_Pl_findBest : Cond.code mt_Pl_findBest.1 mt_Pl_findBest.2.1 mt_Pl_findBest.2.2.1 mt_Pl_findBest.2.2.2 ∈ g_G.2.1 := g_memT (g_t4 160 rfl) rfl
theorem im_Pl_findBest : Cond.instanceMethod mt_Pl_findBest.1 ∈ g_G.2.1 := g_memT (g_t4 158 rfl) rfl
theorem se_Pl_findBest : Cond.selects mt_Pl_findBest.1.cls mt_Pl_findBest.1 mt_Pl_findBest.1 ∈ g_G.2.1 := g_memT (g_t4 159 rfl) rfl
theorem cd_Pl_weighFrom : Cond.code mt_Pl_weighFrom.1 mt_Pl_weighFrom.2.1 mt_Pl_weighFrom.2.2.1 mt_Pl_weighFrom.2.2.2 ∈ g_G.2.1 := g_memT (g_t4 165 rfl) rfl
theorem im_Pl_weighFrom : Cond.instanceMethod mt_Pl_weighFrom.1 ∈ g_G.2.1 := g_memT (g_t4 164 rfl) rfl
theorem se_Pl_weighFrom : Cond.selects mt_Pl_weighFrom.1.cls mt_Pl_weighFrom.1 mt_Pl_weighFrom.1 ∈ g_G.2.1 := g_memT (g_t0 13 rfl) rfl
theorem cd_Pl_leastHad : Cond.code mt_Pl_leastHad.1 mt_Pl_leastHad.2.1 mt_Pl_leastHad.2.2.1 mt_Pl_leastHad.2.2.2 ∈ g_G.2.1 := g_memT (g_t4 172 rfl) rfl
theorem im_Pl_leastHad : Cond.instanceMethod mt_Pl_leastHad.1 ∈ g_G.2.1 := g_memT (g_t4 171 rfl) rfl
theorem se_Pl_leastHad : Cond.selects mt_Pl_leastHad.1.cls mt_Pl_leastHad.1 mt_Pl_leastHad.1 ∈ g_G.2.1 := g_memT (g_t0 14 rfl) rfl
theorem cd_Pl_allHad : Cond.code mt_Pl_allHad.1 mt_Pl_allHad.2.1 mt_Pl_allHad.2.2.1 mt_Pl_allHad.2.2.2 ∈ g_G.2.1 := g_memT (g_t4 177 rfl) rfl
theorem im_Pl_allHad : Cond.instanceMethod mt_Pl_allHad.1 ∈ g_G.2.1 := g_memT (g_t4 176 rfl) rfl
theorem se_Pl_allHad : Cond.selects mt_Pl_allHad.1.cls mt_Pl_allHad.1 mt_Pl_allHad.1 ∈ g_G.2.1 := g_memT (g_t0 15 rfl) rfl
theorem cd_Pl_nextRow : Cond.code mt_Pl_nextRow.1 mt_Pl_nextRow.2.1 mt_Pl_nextRow.2.2.1 mt_Pl_nextRow.2.2.2 ∈ g_G.2.1 := g_memT (g_t4 182 rfl) rfl
theorem im_Pl_nextRow : Cond.instanceMethod mt_Pl_nextRow.1 ∈ g_G.2.1 := g_memT (g_t4 181 rfl) rfl
theorem se_Pl_nextRow : Cond.selects mt_Pl_nextRow.1.cls mt_Pl_nextRow.1 mt_Pl_nextRow.1 ∈ g_G.2.1 := g_memT (g_t0 16 rfl) rfl
theorem cd_Tu_trade : Cond.code mt_Tu_trade.1 mt_Tu_trade.2.1 mt_Tu_trade.2.2.1 mt_Tu_trade.2.2.2 ∈ g_G.2.1 := g_memT (g_t4 186 rfl) rfl
theorem im_Tu_trade : Cond.instanceMethod mt_Tu_trade.1 ∈ g_G.2.1 := g_memT (g_t4 184 rfl) rfl
theorem se_Tu_trade : Cond.selects mt_Tu_trade.1.cls mt_Tu_trade.1 mt_Tu_trade.1 ∈ g_G.2.1 := g_memT (g_t4 185 rfl) rfl
theorem cd_Tr_findRows : Cond.code mt_Tr_findRows.1 mt_Tr_findRows.2.1 mt_Tr_findRows.2.2.1 mt_Tr_findRows.2.2.2 ∈ g_G.2.1 := g_memT (g_t4 190 rfl) rfl
theorem im_Tr_findRows : Cond.instanceMethod mt_Tr_findRows.1 ∈ g_G.2.1 := g_memT (g_t4 188 rfl) rfl
theorem se_Tr_findRows : Cond.selects mt_Tr_findRows.1.cls mt_Tr_findRows.1 mt_Tr_findRows.1 ∈ g_G.2.1 := g_memT (g_t4 189 rfl) rfl
theorem cd_Tr_sortSlots : Cond.code mt_Tr_sortSlots.1 mt_Tr_sortSlots.2.1 mt_Tr_sortSlots.2.2.1 mt_Tr_sortSlots.2.2.2 ∈ g_G.2.1 := g_memT (g_t4 194 rfl) rfl
theorem im_Tr_sortSlots : Cond.instanceMethod mt_Tr_sortSlots.1 ∈ g_G.2.1 := g_memT (g_t4 193 rfl) rfl
theorem se_Tr_sortSlots : Cond.selects mt_Tr_sortSlots.1.cls mt_Tr_sortSlots.1 mt_Tr_sortSlots.1 ∈ g_G.2.1 := g_memT (g_t0 17 rfl) rfl
theorem cd_Tr_weighSet : Cond.code mt_Tr_weighSet.1 mt_Tr_weighSet.2.1 mt_Tr_weighSet.2.2.1 mt_Tr_weighSet.2.2.2 ∈ g_G.2.1 := g_memT (g_t4 200 rfl) rfl
theorem im_Tr_weighSet : Cond.instanceMethod mt_Tr_weighSet.1 ∈ g_G.2.1 := g_memT (g_t4 199 rfl) rfl
theorem se_Tr_weighSet : Cond.selects mt_Tr_weighSet.1.cls mt_Tr_weighSet.1 mt_Tr_weighSet.1 ∈ g_G.2.1 := g_memT (g_t0 18 rfl) rfl
theorem cd_In_bitCount : Cond.code mt_In_bitCount.1 mt_In_bitCount.2.1 mt_In_bitCount.2.2.1 mt_In_bitCount.2.2.2 ∈ g_G.2.1 := g_memT (g_t4 203 rfl) rfl
theorem sc_In_bitCount : Cond.static mt_In_bitCount.1 ∈ g_G.2.1 := g_memT (g_t4 202 rfl) rfl
theorem cd_Tr_mayTake : Cond.code mt_Tr_mayTake.1 mt_Tr_mayTake.2.1 mt_Tr_mayTake.2.2.1 mt_Tr_mayTake.2.2.2 ∈ g_G.2.1 := g_memT (g_t4 210 rfl) rfl
theorem im_Tr_mayTake : Cond.instanceMethod mt_Tr_mayTake.1 ∈ g_G.2.1 := g_memT (g_t4 209 rfl) rfl
theorem se_Tr_mayTake : Cond.selects mt_Tr_mayTake.1.cls mt_Tr_mayTake.1 mt_Tr_mayTake.1 ∈ g_G.2.1 := g_memT (g_t0 19 rfl) rfl
theorem cd_Tr_sumWith : Cond.code mt_Tr_sumWith.1 mt_Tr_sumWith.2.1 mt_Tr_sumWith.2.2.1 mt_Tr_sumWith.2.2.2 ∈ g_G.2.1 := g_memT (g_t4 214 rfl) rfl
theorem im_Tr_sumWith : Cond.instanceMethod mt_Tr_sumWith.1 ∈ g_G.2.1 := g_memT (g_t4 213 rfl) rfl
theorem se_Tr_sumWith : Cond.selects mt_Tr_sumWith.1.cls mt_Tr_sumWith.1 mt_Tr_sumWith.1 ∈ g_G.2.1 := g_memT (g_t0 20 rfl) rfl
theorem cd_Tr_firstSlotOf : Cond.code mt_Tr_firstSlotOf.1 mt_Tr_firstSlotOf.2.1 mt_Tr_firstSlotOf.2.2.1 mt_Tr_firstSlotOf.2.2.2 ∈ g_G.2.1 := g_memT (g_t4 219 rfl) rfl
theorem im_Tr_firstSlotOf : Cond.instanceMethod mt_Tr_firstSlotOf.1 ∈ g_G.2.1 := g_memT (g_t4 217 rfl) rfl
theorem se_Tr_firstSlotOf : Cond.selects mt_Tr_firstSlotOf.1.cls mt_Tr_firstSlotOf.1 mt_Tr_firstSlotOf.1 ∈ g_G.2.1 := g_memT (g_t4 218 rfl) rfl
theorem cd_Tr_firstChoice : Cond.code mt_Tr_firstChoice.1 mt_Tr_firstChoice.2.1 mt_Tr_firstChoice.2.2.1 mt_Tr_firstChoice.2.2.2 ∈ g_G.2.1 := g_memT (g_t4 223 rfl) rfl
theorem im_Tr_firstChoice : Cond.instanceMethod mt_Tr_firstChoice.1 ∈ g_G.2.1 := g_memT (g_t4 222 rfl) rfl
theorem se_Tr_firstChoice : Cond.selects mt_Tr_firstChoice.1.cls mt_Tr_firstChoice.1 mt_Tr_firstChoice.1 ∈ g_G.2.1 := g_memT (g_t0 21 rfl) rfl
theorem cd_Tu_spare : Cond.code mt_Tu_spare.1 mt_Tu_spare.2.1 mt_Tu_spare.2.2.1 mt_Tu_spare.2.2.2 ∈ g_G.2.1 := g_memT (g_t4 227 rfl) rfl
theorem im_Tu_spare : Cond.instanceMethod mt_Tu_spare.1 ∈ g_G.2.1 := g_memT (g_t4 225 rfl) rfl
theorem se_Tu_spare : Cond.selects mt_Tu_spare.1.cls mt_Tu_spare.1 mt_Tu_spare.1 ∈ g_G.2.1 := g_memT (g_t4 226 rfl) rfl
theorem cd_Ri_mostWornBehind : Cond.code mt_Ri_mostWornBehind.1 mt_Ri_mostWornBehind.2.1 mt_Ri_mostWornBehind.2.2.1 mt_Ri_mostWornBehind.2.2.2 ∈ g_G.2.1 := g_memT (g_t4 231 rfl) rfl
theorem im_Ri_mostWornBehind : Cond.instanceMethod mt_Ri_mostWornBehind.1 ∈ g_G.2.1 := g_memT (g_t4 229 rfl) rfl
theorem se_Ri_mostWornBehind : Cond.selects mt_Ri_mostWornBehind.1.cls mt_Ri_mostWornBehind.1 mt_Ri_mostWornBehind.1 ∈ g_G.2.1 := g_memT (g_t4 230 rfl) rfl
theorem cd_Tu_apart : Cond.code mt_Tu_apart.1 mt_Tu_apart.2.1 mt_Tu_apart.2.2.1 mt_Tu_apart.2.2.2 ∈ g_G.2.1 := g_memT (g_t4 236 rfl) rfl
theorem im_Tu_apart : Cond.instanceMethod mt_Tu_apart.1 ∈ g_G.2.1 := g_memT (g_t4 234 rfl) rfl
theorem se_Tu_apart : Cond.selects mt_Tu_apart.1.cls mt_Tu_apart.1 mt_Tu_apart.1 ∈ g_G.2.1 := g_memT (g_t4 235 rfl) rfl
theorem cd_Tu_isSort : Cond.code mt_Tu_isSort.1 mt_Tu_isSort.2.1 mt_Tu_isSort.2.2.1 mt_Tu_isSort.2.2.2 ∈ g_G.2.1 := g_memT (g_t4 239 rfl) rfl
theorem sc_Tu_isSort : Cond.static mt_Tu_isSort.1 ∈ g_G.2.1 := g_memT (g_t4 238 rfl) rfl
theorem cd_Tu_hoursSeen : Cond.code mt_Tu_hoursSeen.1 mt_Tu_hoursSeen.2.1 mt_Tu_hoursSeen.2.2.1 mt_Tu_hoursSeen.2.2.2 ∈ g_G.2.1 := g_memT (g_t5 3 rfl) rfl
theorem im_Tu_hoursSeen : Cond.instanceMethod mt_Tu_hoursSeen.1 ∈ g_G.2.1 := g_memT (g_t5 2 rfl) rfl
theorem se_Tu_hoursSeen : Cond.selects mt_Tu_hoursSeen.1.cls mt_Tu_hoursSeen.1 mt_Tu_hoursSeen.1 ∈ g_G.2.1 := g_memT (g_t0 22 rfl) rfl
theorem cd_Tu_diary : Cond.code mt_Tu_diary.1 mt_Tu_diary.2.1 mt_Tu_diary.2.2.1 mt_Tu_diary.2.2.2 ∈ g_G.2.1 := g_memT (g_t5 7 rfl) rfl
theorem im_Tu_diary : Cond.instanceMethod mt_Tu_diary.1 ∈ g_G.2.1 := g_memT (g_t5 5 rfl) rfl
theorem se_Tu_diary : Cond.selects mt_Tu_diary.1.cls mt_Tu_diary.1 mt_Tu_diary.1 ∈ g_G.2.1 := g_memT (g_t5 6 rfl) rfl
theorem cd_Di_write : Cond.code mt_Di_write.1 mt_Di_write.2.1 mt_Di_write.2.2.1 mt_Di_write.2.2.2 ∈ g_G.2.1 := g_memT (g_t5 11 rfl) rfl
theorem im_Di_write : Cond.instanceMethod mt_Di_write.1 ∈ g_G.2.1 := g_memT (g_t5 9 rfl) rfl
theorem se_Di_write : Cond.selects mt_Di_write.1.cls mt_Di_write.1 mt_Di_write.1 ∈ g_G.2.1 := g_memT (g_t5 10 rfl) rfl
theorem cd_Tu_turned : Cond.code mt_Tu_turned.1 mt_Tu_turned.2.1 mt_Tu_turned.2.2.1 mt_Tu_turned.2.2.2 ∈ g_G.2.1 := g_memT (g_t5 15 rfl) rfl
theorem im_Tu_turned : Cond.instanceMethod mt_Tu_turned.1 ∈ g_G.2.1 := g_memT (g_t5 13 rfl) rfl
theorem se_Tu_turned : Cond.selects mt_Tu_turned.1.cls mt_Tu_turned.1 mt_Tu_turned.1 ∈ g_G.2.1 := g_memT (g_t5 14 rfl) rfl
theorem cd_Gu_findTurns : Cond.code mt_Gu_findTurns.1 mt_Gu_findTurns.2.1 mt_Gu_findTurns.2.2.1 mt_Gu_findTurns.2.2.2 ∈ g_G.2.1 := g_memT (g_t5 19 rfl) rfl
theorem im_Gu_findTurns : Cond.instanceMethod mt_Gu_findTurns.1 ∈ g_G.2.1 := g_memT (g_t5 17 rfl) rfl
theorem se_Gu_findTurns : Cond.selects mt_Gu_findTurns.1.cls mt_Gu_findTurns.1 mt_Gu_findTurns.1 ∈ g_G.2.1 := g_memT (g_t5 18 rfl) rfl
theorem cd_Gu_fitsDiary : Cond.code mt_Gu_fitsDiary.1 mt_Gu_fitsDiary.2.1 mt_Gu_fitsDiary.2.2.1 mt_Gu_fitsDiary.2.2.2 ∈ g_G.2.1 := g_memT (g_t5 22 rfl) rfl
theorem sc_Gu_fitsDiary : Cond.static mt_Gu_fitsDiary.1 ∈ g_G.2.1 := g_memT (g_t5 21 rfl) rfl
theorem cd_Gu_sortsSeen : Cond.code mt_Gu_sortsSeen.1 mt_Gu_sortsSeen.2.1 mt_Gu_sortsSeen.2.2.1 mt_Gu_sortsSeen.2.2.2 ∈ g_G.2.1 := g_memT (g_t5 25 rfl) rfl
theorem sc_Gu_sortsSeen : Cond.static mt_Gu_sortsSeen.1 ∈ g_G.2.1 := g_memT (g_t5 24 rfl) rfl
theorem cd_Tu_look : Cond.code mt_Tu_look.1 mt_Tu_look.2.1 mt_Tu_look.2.2.1 mt_Tu_look.2.2.2 ∈ g_G.2.1 := g_memT (g_t5 32 rfl) rfl
theorem im_Tu_look : Cond.instanceMethod mt_Tu_look.1 ∈ g_G.2.1 := g_memT (g_t5 30 rfl) rfl
theorem se_Tu_look : Cond.selects mt_Tu_look.1.cls mt_Tu_look.1 mt_Tu_look.1 ∈ g_G.2.1 := g_memT (g_t5 31 rfl) rfl
theorem cd_Gu_findLook : Cond.code mt_Gu_findLook.1 mt_Gu_findLook.2.1 mt_Gu_findLook.2.2.1 mt_Gu_findLook.2.2.2 ∈ g_G.2.1 := g_memT (g_t5 36 rfl) rfl
theorem im_Gu_findLook : Cond.instanceMethod mt_Gu_findLook.1 ∈ g_G.2.1 := g_memT (g_t5 34 rfl) rfl
theorem se_Gu_findLook : Cond.selects mt_Gu_findLook.1.cls mt_Gu_findLook.1 mt_Gu_findLook.1 ∈ g_G.2.1 := g_memT (g_t5 35 rfl) rfl
theorem cd_Tu_days : Cond.code mt_Tu_days.1 mt_Tu_days.2.1 mt_Tu_days.2.2.1 mt_Tu_days.2.2.2 ∈ g_G.2.1 := g_memT (g_t5 42 rfl) rfl
theorem im_Tu_days : Cond.instanceMethod mt_Tu_days.1 ∈ g_G.2.1 := g_memT (g_t5 40 rfl) rfl
theorem se_Tu_days : Cond.selects mt_Tu_days.1.cls mt_Tu_days.1 mt_Tu_days.1 ∈ g_G.2.1 := g_memT (g_t5 41 rfl) rfl
theorem cd_Tu_nextDraw : Cond.code mt_Tu_nextDraw.1 mt_Tu_nextDraw.2.1 mt_Tu_nextDraw.2.2.1 mt_Tu_nextDraw.2.2.2 ∈ g_G.2.1 := g_memT (g_t5 46 rfl) rfl
theorem sc_Tu_nextDraw : Cond.static mt_Tu_nextDraw.1 ∈ g_G.2.1 := g_memT (g_t5 45 rfl) rfl
theorem cd_Mo_init : Cond.code mt_Mo_init.1 mt_Mo_init.2.1 mt_Mo_init.2.2.1 mt_Mo_init.2.2.2 ∈ g_G.2.1 := g_memT (g_t5 56 rfl) rfl
theorem im_Mo_init : Cond.instanceMethod mt_Mo_init.1 ∈ g_G.2.1 := g_memT (g_t5 55 rfl) rfl
theorem cd_Mo_feed : Cond.code mt_Mo_feed.1 mt_Mo_feed.2.1 mt_Mo_feed.2.2.1 mt_Mo_feed.2.2.2 ∈ g_G.2.1 := g_memT (g_t5 173 rfl) rfl
theorem im_Mo_feed : Cond.instanceMethod mt_Mo_feed.1 ∈ g_G.2.1 := g_memT (g_t5 171 rfl) rfl
theorem se_Mo_feed : Cond.selects mt_Mo_feed.1.cls mt_Mo_feed.1 mt_Mo_feed.1 ∈ g_G.2.1 := g_memT (g_t5 172 rfl) rfl
theorem cd_Mo_four : Cond.code mt_Mo_four.1 mt_Mo_four.2.1 mt_Mo_four.2.2.1 mt_Mo_four.2.2.2 ∈ g_G.2.1 := g_memT (g_t5 177 rfl) rfl
theorem im_Mo_four : Cond.instanceMethod mt_Mo_four.1 ∈ g_G.2.1 := g_memT (g_t5 176 rfl) rfl
theorem se_Mo_four : Cond.selects mt_Mo_four.1.cls mt_Mo_four.1 mt_Mo_four.1 ∈ g_G.2.1 := g_memT (g_t0 23 rfl) rfl
theorem cd_Mo_end : Cond.code mt_Mo_end.1 mt_Mo_end.2.1 mt_Mo_end.2.2.1 mt_Mo_end.2.2.2 ∈ g_G.2.1 := g_memT (g_t5 181 rfl) rfl
theorem im_Mo_end : Cond.instanceMethod mt_Mo_end.1 ∈ g_G.2.1 := g_memT (g_t5 179 rfl) rfl
theorem se_Mo_end : Cond.selects mt_Mo_end.1.cls mt_Mo_end.1 mt_Mo_end.1 ∈ g_G.2.1 := g_memT (g_t5 180 rfl) rfl
theorem cd_Mo_rule : Cond.code mt_Mo_rule.1 mt_Mo_rule.2.1 mt_Mo_rule.2.2.1 mt_Mo_rule.2.2.2 ∈ g_G.2.1 := g_memT (g_t5 185 rfl) rfl
theorem im_Mo_rule : Cond.instanceMethod mt_Mo_rule.1 ∈ g_G.2.1 := g_memT (g_t5 183 rfl) rfl
theorem se_Mo_rule : Cond.selects mt_Mo_rule.1.cls mt_Mo_rule.1 mt_Mo_rule.1 ∈ g_G.2.1 := g_memT (g_t5 184 rfl) rfl
theorem cd_Mo_readsAll : Cond.code mt_Mo_readsAll.1 mt_Mo_readsAll.2.1 mt_Mo_readsAll.2.2.1 mt_Mo_readsAll.2.2.2 ∈ g_G.2.1 := g_memT (g_t5 189 rfl) rfl
theorem im_Mo_readsAll : Cond.instanceMethod mt_Mo_readsAll.1 ∈ g_G.2.1 := g_memT (g_t5 188 rfl) rfl
theorem se_Mo_readsAll : Cond.selects mt_Mo_readsAll.1.cls mt_Mo_readsAll.1 mt_Mo_readsAll.1 ∈ g_G.2.1 := g_memT (g_t0 24 rfl) rfl
theorem cd_Mo_clauseHere : Cond.code mt_Mo_clauseHere.1 mt_Mo_clauseHere.2.1 mt_Mo_clauseHere.2.2.1 mt_Mo_clauseHere.2.2.2 ∈ g_G.2.1 := g_memT (g_t5 193 rfl) rfl
theorem im_Mo_clauseHere : Cond.instanceMethod mt_Mo_clauseHere.1 ∈ g_G.2.1 := g_memT (g_t5 192 rfl) rfl
theorem se_Mo_clauseHere : Cond.selects mt_Mo_clauseHere.1.cls mt_Mo_clauseHere.1 mt_Mo_clauseHere.1 ∈ g_G.2.1 := g_memT (g_t0 25 rfl) rfl
theorem cd_Mo_see : Cond.code mt_Mo_see.1 mt_Mo_see.2.1 mt_Mo_see.2.2.1 mt_Mo_see.2.2.2 ∈ g_G.2.1 := g_memT (g_t5 197 rfl) rfl
theorem im_Mo_see : Cond.instanceMethod mt_Mo_see.1 ∈ g_G.2.1 := g_memT (g_t5 196 rfl) rfl
theorem se_Mo_see : Cond.selects mt_Mo_see.1.cls mt_Mo_see.1 mt_Mo_see.1 ∈ g_G.2.1 := g_memT (g_t0 26 rfl) rfl
theorem cd_Mo_isRingWord : Cond.code mt_Mo_isRingWord.1 mt_Mo_isRingWord.2.1 mt_Mo_isRingWord.2.2.1 mt_Mo_isRingWord.2.2.2 ∈ g_G.2.1 := g_memT (g_t5 201 rfl) rfl
theorem im_Mo_isRingWord : Cond.instanceMethod mt_Mo_isRingWord.1 ∈ g_G.2.1 := g_memT (g_t5 200 rfl) rfl
theorem se_Mo_isRingWord : Cond.selects mt_Mo_isRingWord.1.cls mt_Mo_isRingWord.1 mt_Mo_isRingWord.1 ∈ g_G.2.1 := g_memT (g_t0 27 rfl) rfl
theorem cd_Mo_isWord : Cond.code mt_Mo_isWord.1 mt_Mo_isWord.2.1 mt_Mo_isWord.2.2.1 mt_Mo_isWord.2.2.2 ∈ g_G.2.1 := g_memT (g_t5 206 rfl) rfl
theorem im_Mo_isWord : Cond.instanceMethod mt_Mo_isWord.1 ∈ g_G.2.1 := g_memT (g_t5 205 rfl) rfl
theorem se_Mo_isWord : Cond.selects mt_Mo_isWord.1.cls mt_Mo_isWord.1 mt_Mo_isWord.1 ∈ g_G.2.1 := g_memT (g_t0 28 rfl) rfl
theorem cd_Mo_isLetter : Cond.code mt_Mo_isLetter.1 mt_Mo_isLetter.2.1 mt_Mo_isLetter.2.2.1 mt_Mo_isLetter.2.2.2 ∈ g_G.2.1 := g_memT (g_t5 210 rfl) rfl
theorem im_Mo_isLetter : Cond.instanceMethod mt_Mo_isLetter.1 ∈ g_G.2.1 := g_memT (g_t5 209 rfl) rfl
theorem se_Mo_isLetter : Cond.selects mt_Mo_isLetter.1.cls mt_Mo_isLetter.1 mt_Mo_isLetter.1 ∈ g_G.2.1 := g_memT (g_t0 29 rfl) rfl
theorem cd_Mo_fails : Cond.code mt_Mo_fails.1 mt_Mo_fails.2.1 mt_Mo_fails.2.2.1 mt_Mo_fails.2.2.2 ∈ g_G.2.1 := g_memT (g_t5 221 rfl) rfl
theorem im_Mo_fails : Cond.instanceMethod mt_Mo_fails.1 ∈ g_G.2.1 := g_memT (g_t5 220 rfl) rfl
theorem se_Mo_fails : Cond.selects mt_Mo_fails.1.cls mt_Mo_fails.1 mt_Mo_fails.1 ∈ g_G.2.1 := g_memT (g_t0 30 rfl) rfl
theorem cd_Mo_ringLineHere : Cond.code mt_Mo_ringLineHere.1 mt_Mo_ringLineHere.2.1 mt_Mo_ringLineHere.2.2.1 mt_Mo_ringLineHere.2.2.2 ∈ g_G.2.1 := g_memT (g_t5 225 rfl) rfl
theorem im_Mo_ringLineHere : Cond.instanceMethod mt_Mo_ringLineHere.1 ∈ g_G.2.1 := g_memT (g_t5 224 rfl) rfl
theorem se_Mo_ringLineHere : Cond.selects mt_Mo_ringLineHere.1.cls mt_Mo_ringLineHere.1 mt_Mo_ringLineHere.1 ∈ g_G.2.1 := g_memT (g_t0 31 rfl) rfl
theorem cd_Mo_isRingHere : Cond.code mt_Mo_isRingHere.1 mt_Mo_isRingHere.2.1 mt_Mo_isRingHere.2.2.1 mt_Mo_isRingHere.2.2.2 ∈ g_G.2.1 := g_memT (g_t5 229 rfl) rfl
theorem im_Mo_isRingHere : Cond.instanceMethod mt_Mo_isRingHere.1 ∈ g_G.2.1 := g_memT (g_t5 228 rfl) rfl
theorem se_Mo_isRingHere : Cond.selects mt_Mo_isRingHere.1.cls mt_Mo_isRingHere.1 mt_Mo_isRingHere.1 ∈ g_G.2.1 := g_memT (g_t0 32 rfl) rfl
theorem cd_Mo_passWord : Cond.code mt_Mo_passWord.1 mt_Mo_passWord.2.1 mt_Mo_passWord.2.2.1 mt_Mo_passWord.2.2.2 ∈ g_G.2.1 := g_memT (g_t5 233 rfl) rfl
theorem im_Mo_passWord : Cond.instanceMethod mt_Mo_passWord.1 ∈ g_G.2.1 := g_memT (g_t5 232 rfl) rfl
theorem se_Mo_passWord : Cond.selects mt_Mo_passWord.1.cls mt_Mo_passWord.1 mt_Mo_passWord.1 ∈ g_G.2.1 := g_memT (g_t0 33 rfl) rfl
theorem cd_Mo_cellHere : Cond.code mt_Mo_cellHere.1 mt_Mo_cellHere.2.1 mt_Mo_cellHere.2.2.1 mt_Mo_cellHere.2.2.2 ∈ g_G.2.1 := g_memT (g_t5 237 rfl) rfl
theorem im_Mo_cellHere : Cond.instanceMethod mt_Mo_cellHere.1 ∈ g_G.2.1 := g_memT (g_t5 236 rfl) rfl
theorem se_Mo_cellHere : Cond.selects mt_Mo_cellHere.1.cls mt_Mo_cellHere.1 mt_Mo_cellHere.1 ∈ g_G.2.1 := g_memT (g_t0 34 rfl) rfl
theorem cd_Mo_numberHere : Cond.code mt_Mo_numberHere.1 mt_Mo_numberHere.2.1 mt_Mo_numberHere.2.2.1 mt_Mo_numberHere.2.2.2 ∈ g_G.2.1 := g_memT (g_t6 1 rfl) rfl
theorem im_Mo_numberHere : Cond.instanceMethod mt_Mo_numberHere.1 ∈ g_G.2.1 := g_memT (g_t6 0 rfl) rfl
theorem se_Mo_numberHere : Cond.selects mt_Mo_numberHere.1.cls mt_Mo_numberHere.1 mt_Mo_numberHere.1 ∈ g_G.2.1 := g_memT (g_t0 35 rfl) rfl
theorem cd_Mo_isDigit : Cond.code mt_Mo_isDigit.1 mt_Mo_isDigit.2.1 mt_Mo_isDigit.2.2.1 mt_Mo_isDigit.2.2.2 ∈ g_G.2.1 := g_memT (g_t6 5 rfl) rfl
theorem im_Mo_isDigit : Cond.instanceMethod mt_Mo_isDigit.1 ∈ g_G.2.1 := g_memT (g_t6 4 rfl) rfl
theorem se_Mo_isDigit : Cond.selects mt_Mo_isDigit.1.cls mt_Mo_isDigit.1 mt_Mo_isDigit.1 ∈ g_G.2.1 := g_memT (g_t0 36 rfl) rfl
theorem cd_Mo_in : Cond.code mt_Mo_in.1 mt_Mo_in.2.1 mt_Mo_in.2.2.1 mt_Mo_in.2.2.2 ∈ g_G.2.1 := g_memT (g_t6 8 rfl) rfl
theorem sc_Mo_in : Cond.static mt_Mo_in.1 ∈ g_G.2.1 := g_memT (g_t6 7 rfl) rfl
theorem cd_Mo_isHouseHere : Cond.code mt_Mo_isHouseHere.1 mt_Mo_isHouseHere.2.1 mt_Mo_isHouseHere.2.2.1 mt_Mo_isHouseHere.2.2.2 ∈ g_G.2.1 := g_memT (g_t6 12 rfl) rfl
theorem im_Mo_isHouseHere : Cond.instanceMethod mt_Mo_isHouseHere.1 ∈ g_G.2.1 := g_memT (g_t6 11 rfl) rfl
theorem se_Mo_isHouseHere : Cond.selects mt_Mo_isHouseHere.1.cls mt_Mo_isHouseHere.1 mt_Mo_isHouseHere.1 ∈ g_G.2.1 := g_memT (g_t0 37 rfl) rfl
theorem cd_Mo_isSightHere : Cond.code mt_Mo_isSightHere.1 mt_Mo_isSightHere.2.1 mt_Mo_isSightHere.2.2.1 mt_Mo_isSightHere.2.2.2 ∈ g_G.2.1 := g_memT (g_t6 16 rfl) rfl
theorem im_Mo_isSightHere : Cond.instanceMethod mt_Mo_isSightHere.1 ∈ g_G.2.1 := g_memT (g_t6 15 rfl) rfl
theorem se_Mo_isSightHere : Cond.selects mt_Mo_isSightHere.1.cls mt_Mo_isSightHere.1 mt_Mo_isSightHere.1 ∈ g_G.2.1 := g_memT (g_t0 38 rfl) rfl
theorem cd_Mo_isLikeHere : Cond.code mt_Mo_isLikeHere.1 mt_Mo_isLikeHere.2.1 mt_Mo_isLikeHere.2.2.1 mt_Mo_isLikeHere.2.2.2 ∈ g_G.2.1 := g_memT (g_t6 20 rfl) rfl
theorem im_Mo_isLikeHere : Cond.instanceMethod mt_Mo_isLikeHere.1 ∈ g_G.2.1 := g_memT (g_t6 19 rfl) rfl
theorem se_Mo_isLikeHere : Cond.selects mt_Mo_isLikeHere.1.cls mt_Mo_isLikeHere.1 mt_Mo_isLikeHere.1 ∈ g_G.2.1 := g_memT (g_t0 39 rfl) rfl
theorem cd_Mo_isGateHere : Cond.code mt_Mo_isGateHere.1 mt_Mo_isGateHere.2.1 mt_Mo_isGateHere.2.2.1 mt_Mo_isGateHere.2.2.2 ∈ g_G.2.1 := g_memT (g_t6 24 rfl) rfl
theorem im_Mo_isGateHere : Cond.instanceMethod mt_Mo_isGateHere.1 ∈ g_G.2.1 := g_memT (g_t6 23 rfl) rfl
theorem se_Mo_isGateHere : Cond.selects mt_Mo_isGateHere.1.cls mt_Mo_isGateHere.1 mt_Mo_isGateHere.1 ∈ g_G.2.1 := g_memT (g_t0 40 rfl) rfl
theorem cd_Mo_isRateHere : Cond.code mt_Mo_isRateHere.1 mt_Mo_isRateHere.2.1 mt_Mo_isRateHere.2.2.1 mt_Mo_isRateHere.2.2.2 ∈ g_G.2.1 := g_memT (g_t6 28 rfl) rfl
theorem im_Mo_isRateHere : Cond.instanceMethod mt_Mo_isRateHere.1 ∈ g_G.2.1 := g_memT (g_t6 27 rfl) rfl
theorem se_Mo_isRateHere : Cond.selects mt_Mo_isRateHere.1.cls mt_Mo_isRateHere.1 mt_Mo_isRateHere.1 ∈ g_G.2.1 := g_memT (g_t0 41 rfl) rfl
theorem cd_Mo_isTurnHere : Cond.code mt_Mo_isTurnHere.1 mt_Mo_isTurnHere.2.1 mt_Mo_isTurnHere.2.2.1 mt_Mo_isTurnHere.2.2.2 ∈ g_G.2.1 := g_memT (g_t6 32 rfl) rfl
theorem im_Mo_isTurnHere : Cond.instanceMethod mt_Mo_isTurnHere.1 ∈ g_G.2.1 := g_memT (g_t6 31 rfl) rfl
theorem se_Mo_isTurnHere : Cond.selects mt_Mo_isTurnHere.1.cls mt_Mo_isTurnHere.1 mt_Mo_isTurnHere.1 ∈ g_G.2.1 := g_memT (g_t0 42 rfl) rfl
theorem cd_Mo_sum : Cond.code mt_Mo_sum.1 mt_Mo_sum.2.1 mt_Mo_sum.2.2.1 mt_Mo_sum.2.2.2 ∈ g_G.2.1 := g_memT (g_t6 36 rfl) rfl
theorem im_Mo_sum : Cond.instanceMethod mt_Mo_sum.1 ∈ g_G.2.1 := g_memT (g_t6 35 rfl) rfl
theorem se_Mo_sum : Cond.selects mt_Mo_sum.1.cls mt_Mo_sum.1 mt_Mo_sum.1 ∈ g_G.2.1 := g_memT (g_t0 43 rfl) rfl
theorem cd_Mo_term : Cond.code mt_Mo_term.1 mt_Mo_term.2.1 mt_Mo_term.2.2.1 mt_Mo_term.2.2.2 ∈ g_G.2.1 := g_memT (g_t6 40 rfl) rfl
theorem im_Mo_term : Cond.instanceMethod mt_Mo_term.1 ∈ g_G.2.1 := g_memT (g_t6 39 rfl) rfl
theorem se_Mo_term : Cond.selects mt_Mo_term.1.cls mt_Mo_term.1 mt_Mo_term.1 ∈ g_G.2.1 := g_memT (g_t0 44 rfl) rfl
theorem cd_Mo_value : Cond.code mt_Mo_value.1 mt_Mo_value.2.1 mt_Mo_value.2.2.1 mt_Mo_value.2.2.2 ∈ g_G.2.1 := g_memT (g_t6 44 rfl) rfl
theorem im_Mo_value : Cond.instanceMethod mt_Mo_value.1 ∈ g_G.2.1 := g_memT (g_t6 43 rfl) rfl
theorem se_Mo_value : Cond.selects mt_Mo_value.1.cls mt_Mo_value.1 mt_Mo_value.1 ∈ g_G.2.1 := g_memT (g_t0 45 rfl) rfl
theorem cd_Mo_makes : Cond.code mt_Mo_makes.1 mt_Mo_makes.2.1 mt_Mo_makes.2.2.1 mt_Mo_makes.2.2.2 ∈ g_G.2.1 := g_memT (g_t6 49 rfl) rfl
theorem im_Mo_makes : Cond.instanceMethod mt_Mo_makes.1 ∈ g_G.2.1 := g_memT (g_t6 48 rfl) rfl
theorem se_Mo_makes : Cond.selects mt_Mo_makes.1.cls mt_Mo_makes.1 mt_Mo_makes.1 ∈ g_G.2.1 := g_memT (g_t0 46 rfl) rfl
theorem cd_Mo_puts : Cond.code mt_Mo_puts.1 mt_Mo_puts.2.1 mt_Mo_puts.2.2.1 mt_Mo_puts.2.2.2 ∈ g_G.2.1 := g_memT (g_t6 53 rfl) rfl
theorem im_Mo_puts : Cond.instanceMethod mt_Mo_puts.1 ∈ g_G.2.1 := g_memT (g_t6 52 rfl) rfl
theorem se_Mo_puts : Cond.selects mt_Mo_puts.1.cls mt_Mo_puts.1 mt_Mo_puts.1 ∈ g_G.2.1 := g_memT (g_t0 47 rfl) rfl
theorem cd_Mo_wordHere : Cond.code mt_Mo_wordHere.1 mt_Mo_wordHere.2.1 mt_Mo_wordHere.2.2.1 mt_Mo_wordHere.2.2.2 ∈ g_G.2.1 := g_memT (g_t6 57 rfl) rfl
theorem im_Mo_wordHere : Cond.instanceMethod mt_Mo_wordHere.1 ∈ g_G.2.1 := g_memT (g_t6 56 rfl) rfl
theorem se_Mo_wordHere : Cond.selects mt_Mo_wordHere.1.cls mt_Mo_wordHere.1 mt_Mo_wordHere.1 ∈ g_G.2.1 := g_memT (g_t0 48 rfl) rfl
theorem cd_Mo_takesWord : Cond.code mt_Mo_takesWord.1 mt_Mo_takesWord.2.1 mt_Mo_takesWord.2.2.1 mt_Mo_takesWord.2.2.2 ∈ g_G.2.1 := g_memT (g_t6 73 rfl) rfl
theorem im_Mo_takesWord : Cond.instanceMethod mt_Mo_takesWord.1 ∈ g_G.2.1 := g_memT (g_t6 72 rfl) rfl
theorem se_Mo_takesWord : Cond.selects mt_Mo_takesWord.1.cls mt_Mo_takesWord.1 mt_Mo_takesWord.1 ∈ g_G.2.1 := g_memT (g_t0 49 rfl) rfl
theorem cd_Mo_tested : Cond.code mt_Mo_tested.1 mt_Mo_tested.2.1 mt_Mo_tested.2.2.1 mt_Mo_tested.2.2.2 ∈ g_G.2.1 := g_memT (g_t6 77 rfl) rfl
theorem im_Mo_tested : Cond.instanceMethod mt_Mo_tested.1 ∈ g_G.2.1 := g_memT (g_t6 76 rfl) rfl
theorem se_Mo_tested : Cond.selects mt_Mo_tested.1.cls mt_Mo_tested.1 mt_Mo_tested.1 ∈ g_G.2.1 := g_memT (g_t0 50 rfl) rfl
theorem cd_Mo_fact : Cond.code mt_Mo_fact.1 mt_Mo_fact.2.1 mt_Mo_fact.2.2.1 mt_Mo_fact.2.2.2 ∈ g_G.2.1 := g_memT (g_t6 81 rfl) rfl
theorem im_Mo_fact : Cond.instanceMethod mt_Mo_fact.1 ∈ g_G.2.1 := g_memT (g_t6 80 rfl) rfl
theorem se_Mo_fact : Cond.selects mt_Mo_fact.1.cls mt_Mo_fact.1 mt_Mo_fact.1 ∈ g_G.2.1 := g_memT (g_t0 51 rfl) rfl
theorem cd_Mo_opens : Cond.code mt_Mo_opens.1 mt_Mo_opens.2.1 mt_Mo_opens.2.2.1 mt_Mo_opens.2.2.2 ∈ g_G.2.1 := g_memT (g_t6 86 rfl) rfl
theorem im_Mo_opens : Cond.instanceMethod mt_Mo_opens.1 ∈ g_G.2.1 := g_memT (g_t6 85 rfl) rfl
theorem se_Mo_opens : Cond.selects mt_Mo_opens.1.cls mt_Mo_opens.1 mt_Mo_opens.1 ∈ g_G.2.1 := g_memT (g_t0 52 rfl) rfl
theorem cd_Mo_compare : Cond.code mt_Mo_compare.1 mt_Mo_compare.2.1 mt_Mo_compare.2.2.1 mt_Mo_compare.2.2.2 ∈ g_G.2.1 := g_memT (g_t6 90 rfl) rfl
theorem im_Mo_compare : Cond.instanceMethod mt_Mo_compare.1 ∈ g_G.2.1 := g_memT (g_t6 89 rfl) rfl
theorem se_Mo_compare : Cond.selects mt_Mo_compare.1.cls mt_Mo_compare.1 mt_Mo_compare.1 ∈ g_G.2.1 := g_memT (g_t0 53 rfl) rfl
theorem cd_Mo_closes : Cond.code mt_Mo_closes.1 mt_Mo_closes.2.1 mt_Mo_closes.2.2.1 mt_Mo_closes.2.2.2 ∈ g_G.2.1 := g_memT (g_t6 94 rfl) rfl
theorem im_Mo_closes : Cond.instanceMethod mt_Mo_closes.1 ∈ g_G.2.1 := g_memT (g_t6 93 rfl) rfl
theorem se_Mo_closes : Cond.selects mt_Mo_closes.1.cls mt_Mo_closes.1 mt_Mo_closes.1 ∈ g_G.2.1 := g_memT (g_t0 54 rfl) rfl
theorem cd_Mo_settles : Cond.code mt_Mo_settles.1 mt_Mo_settles.2.1 mt_Mo_settles.2.2.1 mt_Mo_settles.2.2.2 ∈ g_G.2.1 := g_memT (g_t6 98 rfl) rfl
theorem im_Mo_settles : Cond.instanceMethod mt_Mo_settles.1 ∈ g_G.2.1 := g_memT (g_t6 97 rfl) rfl
theorem se_Mo_settles : Cond.selects mt_Mo_settles.1.cls mt_Mo_settles.1 mt_Mo_settles.1 ∈ g_G.2.1 := g_memT (g_t0 55 rfl) rfl
theorem cd_Mo_strength : Cond.code mt_Mo_strength.1 mt_Mo_strength.2.1 mt_Mo_strength.2.2.1 mt_Mo_strength.2.2.2 ∈ g_G.2.1 := g_memT (g_t6 101 rfl) rfl
theorem sc_Mo_strength : Cond.static mt_Mo_strength.1 ∈ g_G.2.1 := g_memT (g_t6 100 rfl) rfl
theorem cd_Mo_isInside : Cond.code mt_Mo_isInside.1 mt_Mo_isInside.2.1 mt_Mo_isInside.2.2.1 mt_Mo_isInside.2.2.2 ∈ g_G.2.1 := g_memT (g_t6 105 rfl) rfl
theorem im_Mo_isInside : Cond.instanceMethod mt_Mo_isInside.1 ∈ g_G.2.1 := g_memT (g_t6 104 rfl) rfl
theorem se_Mo_isInside : Cond.selects mt_Mo_isInside.1.cls mt_Mo_isInside.1 mt_Mo_isInside.1 ∈ g_G.2.1 := g_memT (g_t0 56 rfl) rfl
theorem cd_Mo_ring : Cond.code mt_Mo_ring.1 mt_Mo_ring.2.1 mt_Mo_ring.2.2.1 mt_Mo_ring.2.2.2 ∈ g_G.2.1 := g_memT (g_t6 111 rfl) rfl
theorem im_Mo_ring : Cond.instanceMethod mt_Mo_ring.1 ∈ g_G.2.1 := g_memT (g_t6 109 rfl) rfl
theorem se_Mo_ring : Cond.selects mt_Mo_ring.1.cls mt_Mo_ring.1 mt_Mo_ring.1 ∈ g_G.2.1 := g_memT (g_t6 110 rfl) rfl
theorem cd_Mo_house : Cond.code mt_Mo_house.1 mt_Mo_house.2.1 mt_Mo_house.2.2.1 mt_Mo_house.2.2.2 ∈ g_G.2.1 := g_memT (g_t6 115 rfl) rfl
theorem im_Mo_house : Cond.instanceMethod mt_Mo_house.1 ∈ g_G.2.1 := g_memT (g_t6 113 rfl) rfl
theorem se_Mo_house : Cond.selects mt_Mo_house.1.cls mt_Mo_house.1 mt_Mo_house.1 ∈ g_G.2.1 := g_memT (g_t6 114 rfl) rfl
theorem cd_Mo_isHouse : Cond.code mt_Mo_isHouse.1 mt_Mo_isHouse.2.1 mt_Mo_isHouse.2.2.1 mt_Mo_isHouse.2.2.2 ∈ g_G.2.1 := g_memT (g_t6 119 rfl) rfl
theorem im_Mo_isHouse : Cond.instanceMethod mt_Mo_isHouse.1 ∈ g_G.2.1 := g_memT (g_t6 118 rfl) rfl
theorem se_Mo_isHouse : Cond.selects mt_Mo_isHouse.1.cls mt_Mo_isHouse.1 mt_Mo_isHouse.1 ∈ g_G.2.1 := g_memT (g_t0 57 rfl) rfl
theorem cd_Mo_facesOf : Cond.code mt_Mo_facesOf.1 mt_Mo_facesOf.2.1 mt_Mo_facesOf.2.2.1 mt_Mo_facesOf.2.2.2 ∈ g_G.2.1 := g_memT (g_t6 123 rfl) rfl
theorem im_Mo_facesOf : Cond.instanceMethod mt_Mo_facesOf.1 ∈ g_G.2.1 := g_memT (g_t6 122 rfl) rfl
theorem se_Mo_facesOf : Cond.selects mt_Mo_facesOf.1.cls mt_Mo_facesOf.1 mt_Mo_facesOf.1 ∈ g_G.2.1 := g_memT (g_t0 58 rfl) rfl
theorem cd_Mo_round : Cond.code mt_Mo_round.1 mt_Mo_round.2.1 mt_Mo_round.2.2.1 mt_Mo_round.2.2.2 ∈ g_G.2.1 := g_memT (g_t6 126 rfl) rfl
theorem sc_Mo_round : Cond.static mt_Mo_round.1 ∈ g_G.2.1 := g_memT (g_t6 125 rfl) rfl
theorem cd_Mo_sortsAt : Cond.code mt_Mo_sortsAt.1 mt_Mo_sortsAt.2.1 mt_Mo_sortsAt.2.2.1 mt_Mo_sortsAt.2.2.2 ∈ g_G.2.1 := g_memT (g_t6 130 rfl) rfl
theorem im_Mo_sortsAt : Cond.instanceMethod mt_Mo_sortsAt.1 ∈ g_G.2.1 := g_memT (g_t6 129 rfl) rfl
theorem se_Mo_sortsAt : Cond.selects mt_Mo_sortsAt.1.cls mt_Mo_sortsAt.1 mt_Mo_sortsAt.1 ∈ g_G.2.1 := g_memT (g_t0 59 rfl) rfl
theorem cd_Mo_likesOf : Cond.code mt_Mo_likesOf.1 mt_Mo_likesOf.2.1 mt_Mo_likesOf.2.2.1 mt_Mo_likesOf.2.2.2 ∈ g_G.2.1 := g_memT (g_t6 134 rfl) rfl
theorem im_Mo_likesOf : Cond.instanceMethod mt_Mo_likesOf.1 ∈ g_G.2.1 := g_memT (g_t6 133 rfl) rfl
theorem se_Mo_likesOf : Cond.selects mt_Mo_likesOf.1.cls mt_Mo_likesOf.1 mt_Mo_likesOf.1 ∈ g_G.2.1 := g_memT (g_t0 60 rfl) rfl
theorem cd_Mo_likesAt : Cond.code mt_Mo_likesAt.1 mt_Mo_likesAt.2.1 mt_Mo_likesAt.2.2.1 mt_Mo_likesAt.2.2.2 ∈ g_G.2.1 := g_memT (g_t6 138 rfl) rfl
theorem im_Mo_likesAt : Cond.instanceMethod mt_Mo_likesAt.1 ∈ g_G.2.1 := g_memT (g_t6 137 rfl) rfl
theorem se_Mo_likesAt : Cond.selects mt_Mo_likesAt.1.cls mt_Mo_likesAt.1 mt_Mo_likesAt.1 ∈ g_G.2.1 := g_memT (g_t0 61 rfl) rfl
theorem cd_Mo_isOf : Cond.code mt_Mo_isOf.1 mt_Mo_isOf.2.1 mt_Mo_isOf.2.2.1 mt_Mo_isOf.2.2.2 ∈ g_G.2.1 := g_memT (g_t6 141 rfl) rfl
theorem sc_Mo_isOf : Cond.static mt_Mo_isOf.1 ∈ g_G.2.1 := g_memT (g_t6 140 rfl) rfl
theorem cd_Mo_wantsStay : Cond.code mt_Mo_wantsStay.1 mt_Mo_wantsStay.2.1 mt_Mo_wantsStay.2.2.1 mt_Mo_wantsStay.2.2.2 ∈ g_G.2.1 := g_memT (g_t6 145 rfl) rfl
theorem im_Mo_wantsStay : Cond.instanceMethod mt_Mo_wantsStay.1 ∈ g_G.2.1 := g_memT (g_t6 144 rfl) rfl
theorem se_Mo_wantsStay : Cond.selects mt_Mo_wantsStay.1.cls mt_Mo_wantsStay.1 mt_Mo_wantsStay.1 ∈ g_G.2.1 := g_memT (g_t0 62 rfl) rfl
theorem cd_Mo_rateNow : Cond.code mt_Mo_rateNow.1 mt_Mo_rateNow.2.1 mt_Mo_rateNow.2.2.1 mt_Mo_rateNow.2.2.2 ∈ g_G.2.1 := g_memT (g_t6 149 rfl) rfl
theorem im_Mo_rateNow : Cond.instanceMethod mt_Mo_rateNow.1 ∈ g_G.2.1 := g_memT (g_t6 148 rfl) rfl
theorem se_Mo_rateNow : Cond.selects mt_Mo_rateNow.1.cls mt_Mo_rateNow.1 mt_Mo_rateNow.1 ∈ g_G.2.1 := g_memT (g_t0 63 rfl) rfl
theorem cd_Mo_direction : Cond.code mt_Mo_direction.1 mt_Mo_direction.2.1 mt_Mo_direction.2.2.1 mt_Mo_direction.2.2.2 ∈ g_G.2.1 := g_memT (g_t6 155 rfl) rfl
theorem im_Mo_direction : Cond.instanceMethod mt_Mo_direction.1 ∈ g_G.2.1 := g_memT (g_t6 153 rfl) rfl
theorem se_Mo_direction : Cond.selects mt_Mo_direction.1.cls mt_Mo_direction.1 mt_Mo_direction.1 ∈ g_G.2.1 := g_memT (g_t6 154 rfl) rfl
theorem cd_Mo_isRing : Cond.code mt_Mo_isRing.1 mt_Mo_isRing.2.1 mt_Mo_isRing.2.2.1 mt_Mo_isRing.2.2.2 ∈ g_G.2.1 := g_memT (g_t6 159 rfl) rfl
theorem im_Mo_isRing : Cond.instanceMethod mt_Mo_isRing.1 ∈ g_G.2.1 := g_memT (g_t6 158 rfl) rfl
theorem se_Mo_isRing : Cond.selects mt_Mo_isRing.1.cls mt_Mo_isRing.1 mt_Mo_isRing.1 ∈ g_G.2.1 := g_memT (g_t0 64 rfl) rfl
theorem cd_Mo_rateOf : Cond.code mt_Mo_rateOf.1 mt_Mo_rateOf.2.1 mt_Mo_rateOf.2.2.1 mt_Mo_rateOf.2.2.2 ∈ g_G.2.1 := g_memT (g_t6 165 rfl) rfl
theorem im_Mo_rateOf : Cond.instanceMethod mt_Mo_rateOf.1 ∈ g_G.2.1 := g_memT (g_t6 163 rfl) rfl
theorem se_Mo_rateOf : Cond.selects mt_Mo_rateOf.1.cls mt_Mo_rateOf.1 mt_Mo_rateOf.1 ∈ g_G.2.1 := g_memT (g_t6 164 rfl) rfl
theorem cd_Mo_worn : Cond.code mt_Mo_worn.1 mt_Mo_worn.2.1 mt_Mo_worn.2.2.1 mt_Mo_worn.2.2.2 ∈ g_G.2.1 := g_memT (g_t6 170 rfl) rfl
theorem im_Mo_worn : Cond.instanceMethod mt_Mo_worn.1 ∈ g_G.2.1 := g_memT (g_t6 168 rfl) rfl
theorem se_Mo_worn : Cond.selects mt_Mo_worn.1.cls mt_Mo_worn.1 mt_Mo_worn.1 ∈ g_G.2.1 := g_memT (g_t6 169 rfl) rfl
theorem cd_Mo_undo : Cond.code mt_Mo_undo.1 mt_Mo_undo.2.1 mt_Mo_undo.2.2.1 mt_Mo_undo.2.2.2 ∈ g_G.2.1 := g_memT (g_t6 174 rfl) rfl
theorem im_Mo_undo : Cond.instanceMethod mt_Mo_undo.1 ∈ g_G.2.1 := g_memT (g_t6 172 rfl) rfl
theorem se_Mo_undo : Cond.selects mt_Mo_undo.1.cls mt_Mo_undo.1 mt_Mo_undo.1 ∈ g_G.2.1 := g_memT (g_t6 173 rfl) rfl
theorem cd_Mo_hour : Cond.code mt_Mo_hour.1 mt_Mo_hour.2.1 mt_Mo_hour.2.2.1 mt_Mo_hour.2.2.2 ∈ g_G.2.1 := g_memT (g_t6 178 rfl) rfl
theorem im_Mo_hour : Cond.instanceMethod mt_Mo_hour.1 ∈ g_G.2.1 := g_memT (g_t6 176 rfl) rfl
theorem se_Mo_hour : Cond.selects mt_Mo_hour.1.cls mt_Mo_hour.1 mt_Mo_hour.1 ∈ g_G.2.1 := g_memT (g_t6 177 rfl) rfl
theorem cd_Mo_canGo : Cond.code mt_Mo_canGo.1 mt_Mo_canGo.2.1 mt_Mo_canGo.2.2.1 mt_Mo_canGo.2.2.2 ∈ g_G.2.1 := g_memT (g_t6 182 rfl) rfl
theorem im_Mo_canGo : Cond.instanceMethod mt_Mo_canGo.1 ∈ g_G.2.1 := g_memT (g_t6 181 rfl) rfl
theorem se_Mo_canGo : Cond.selects mt_Mo_canGo.1.cls mt_Mo_canGo.1 mt_Mo_canGo.1 ∈ g_G.2.1 := g_memT (g_t0 65 rfl) rfl
theorem cd_Mo_keepsAct : Cond.code mt_Mo_keepsAct.1 mt_Mo_keepsAct.2.1 mt_Mo_keepsAct.2.2.1 mt_Mo_keepsAct.2.2.2 ∈ g_G.2.1 := g_memT (g_t6 186 rfl) rfl
theorem im_Mo_keepsAct : Cond.instanceMethod mt_Mo_keepsAct.1 ∈ g_G.2.1 := g_memT (g_t6 185 rfl) rfl
theorem se_Mo_keepsAct : Cond.selects mt_Mo_keepsAct.1.cls mt_Mo_keepsAct.1 mt_Mo_keepsAct.1 ∈ g_G.2.1 := g_memT (g_t0 66 rfl) rfl
theorem cd_Mo_passes : Cond.code mt_Mo_passes.1 mt_Mo_passes.2.1 mt_Mo_passes.2.2.1 mt_Mo_passes.2.2.2 ∈ g_G.2.1 := g_memT (g_t6 190 rfl) rfl
theorem im_Mo_passes : Cond.instanceMethod mt_Mo_passes.1 ∈ g_G.2.1 := g_memT (g_t6 189 rfl) rfl
theorem se_Mo_passes : Cond.selects mt_Mo_passes.1.cls mt_Mo_passes.1 mt_Mo_passes.1 ∈ g_G.2.1 := g_memT (g_t0 67 rfl) rfl
theorem cd_Mo_passesAt : Cond.code mt_Mo_passesAt.1 mt_Mo_passesAt.2.1 mt_Mo_passesAt.2.2.1 mt_Mo_passesAt.2.2.2 ∈ g_G.2.1 := g_memT (g_t6 194 rfl) rfl
theorem im_Mo_passesAt : Cond.instanceMethod mt_Mo_passesAt.1 ∈ g_G.2.1 := g_memT (g_t6 193 rfl) rfl
theorem se_Mo_passesAt : Cond.selects mt_Mo_passesAt.1.cls mt_Mo_passesAt.1 mt_Mo_passesAt.1 ∈ g_G.2.1 := g_memT (g_t0 68 rfl) rfl
theorem cd_Mo_turns : Cond.code mt_Mo_turns.1 mt_Mo_turns.2.1 mt_Mo_turns.2.2.1 mt_Mo_turns.2.2.2 ∈ g_G.2.1 := g_memT (g_t6 198 rfl) rfl
theorem im_Mo_turns : Cond.instanceMethod mt_Mo_turns.1 ∈ g_G.2.1 := g_memT (g_t6 197 rfl) rfl
theorem se_Mo_turns : Cond.selects mt_Mo_turns.1.cls mt_Mo_turns.1 mt_Mo_turns.1 ∈ g_G.2.1 := g_memT (g_t0 69 rfl) rfl
theorem cd_Mo_goesOn : Cond.code mt_Mo_goesOn.1 mt_Mo_goesOn.2.1 mt_Mo_goesOn.2.2.1 mt_Mo_goesOn.2.2.2 ∈ g_G.2.1 := g_memT (g_t6 202 rfl) rfl
theorem im_Mo_goesOn : Cond.instanceMethod mt_Mo_goesOn.1 ∈ g_G.2.1 := g_memT (g_t6 201 rfl) rfl
theorem se_Mo_goesOn : Cond.selects mt_Mo_goesOn.1.cls mt_Mo_goesOn.1 mt_Mo_goesOn.1 ∈ g_G.2.1 := g_memT (g_t0 70 rfl) rfl
theorem cd_Mo_rate : Cond.code mt_Mo_rate.1 mt_Mo_rate.2.1 mt_Mo_rate.2.2.1 mt_Mo_rate.2.2.2 ∈ g_G.2.1 := g_memT (g_t6 206 rfl) rfl
theorem im_Mo_rate : Cond.instanceMethod mt_Mo_rate.1 ∈ g_G.2.1 := g_memT (g_t6 204 rfl) rfl
theorem se_Mo_rate : Cond.selects mt_Mo_rate.1.cls mt_Mo_rate.1 mt_Mo_rate.1 ∈ g_G.2.1 := g_memT (g_t6 205 rfl) rfl
theorem cd_Mo_swap : Cond.code mt_Mo_swap.1 mt_Mo_swap.2.1 mt_Mo_swap.2.2.1 mt_Mo_swap.2.2.2 ∈ g_G.2.1 := g_memT (g_t6 212 rfl) rfl
theorem im_Mo_swap : Cond.instanceMethod mt_Mo_swap.1 ∈ g_G.2.1 := g_memT (g_t6 210 rfl) rfl
theorem se_Mo_swap : Cond.selects mt_Mo_swap.1.cls mt_Mo_swap.1 mt_Mo_swap.1 ∈ g_G.2.1 := g_memT (g_t6 211 rfl) rfl
theorem cd_Mo_stop : Cond.code mt_Mo_stop.1 mt_Mo_stop.2.1 mt_Mo_stop.2.2.1 mt_Mo_stop.2.2.2 ∈ g_G.2.1 := g_memT (g_t6 216 rfl) rfl
theorem im_Mo_stop : Cond.instanceMethod mt_Mo_stop.1 ∈ g_G.2.1 := g_memT (g_t6 214 rfl) rfl
theorem se_Mo_stop : Cond.selects mt_Mo_stop.1.cls mt_Mo_stop.1 mt_Mo_stop.1 ∈ g_G.2.1 := g_memT (g_t6 215 rfl) rfl
theorem cd_Mo_run : Cond.code mt_Mo_run.1 mt_Mo_run.2.1 mt_Mo_run.2.2.1 mt_Mo_run.2.2.2 ∈ g_G.2.1 := g_memT (g_t6 220 rfl) rfl
theorem im_Mo_run : Cond.instanceMethod mt_Mo_run.1 ∈ g_G.2.1 := g_memT (g_t6 218 rfl) rfl
theorem se_Mo_run : Cond.selects mt_Mo_run.1.cls mt_Mo_run.1 mt_Mo_run.1 ∈ g_G.2.1 := g_memT (g_t6 219 rfl) rfl
theorem cd_Mo_isRule : Cond.code mt_Mo_isRule.1 mt_Mo_isRule.2.1 mt_Mo_isRule.2.2.1 mt_Mo_isRule.2.2.2 ∈ g_G.2.1 := g_memT (g_t6 224 rfl) rfl
theorem im_Mo_isRule : Cond.instanceMethod mt_Mo_isRule.1 ∈ g_G.2.1 := g_memT (g_t6 223 rfl) rfl
theorem se_Mo_isRule : Cond.selects mt_Mo_isRule.1.cls mt_Mo_isRule.1 mt_Mo_isRule.1 ∈ g_G.2.1 := g_memT (g_t0 71 rfl) rfl
theorem cd_Mo_passesBy : Cond.code mt_Mo_passesBy.1 mt_Mo_passesBy.2.1 mt_Mo_passesBy.2.2.1 mt_Mo_passesBy.2.2.2 ∈ g_G.2.1 := g_memT (g_t6 229 rfl) rfl
theorem im_Mo_passesBy : Cond.instanceMethod mt_Mo_passesBy.1 ∈ g_G.2.1 := g_memT (g_t6 228 rfl) rfl
theorem se_Mo_passesBy : Cond.selects mt_Mo_passesBy.1.cls mt_Mo_passesBy.1 mt_Mo_passesBy.1 ∈ g_G.2.1 := g_memT (g_t0 72 rfl) rfl
theorem cd_Mo_words : Cond.code mt_Mo_words.1 mt_Mo_words.2.1 mt_Mo_words.2.2.1 mt_Mo_words.2.2.2 ∈ g_G.2.1 := g_memT (g_t6 233 rfl) rfl
theorem im_Mo_words : Cond.instanceMethod mt_Mo_words.1 ∈ g_G.2.1 := g_memT (g_t6 232 rfl) rfl
theorem se_Mo_words : Cond.selects mt_Mo_words.1.cls mt_Mo_words.1 mt_Mo_words.1 ∈ g_G.2.1 := g_memT (g_t0 73 rfl) rfl
theorem cd_Mo_allLike : Cond.code mt_Mo_allLike.1 mt_Mo_allLike.2.1 mt_Mo_allLike.2.2.1 mt_Mo_allLike.2.2.2 ∈ g_G.2.1 := g_memT (g_t6 237 rfl) rfl
theorem im_Mo_allLike : Cond.instanceMethod mt_Mo_allLike.1 ∈ g_G.2.1 := g_memT (g_t6 236 rfl) rfl
theorem se_Mo_allLike : Cond.selects mt_Mo_allLike.1.cls mt_Mo_allLike.1 mt_Mo_allLike.1 ∈ g_G.2.1 := g_memT (g_t0 74 rfl) rfl
theorem cd_Mo_whoStay : Cond.code mt_Mo_whoStay.1 mt_Mo_whoStay.2.1 mt_Mo_whoStay.2.2.1 mt_Mo_whoStay.2.2.2 ∈ g_G.2.1 := g_memT (g_t7 1 rfl) rfl
theorem im_Mo_whoStay : Cond.instanceMethod mt_Mo_whoStay.1 ∈ g_G.2.1 := g_memT (g_t7 0 rfl) rfl
theorem se_Mo_whoStay : Cond.selects mt_Mo_whoStay.1.cls mt_Mo_whoStay.1 mt_Mo_whoStay.1 ∈ g_G.2.1 := g_memT (g_t0 75 rfl) rfl
theorem cd_Mo_votesOf : Cond.code mt_Mo_votesOf.1 mt_Mo_votesOf.2.1 mt_Mo_votesOf.2.2.1 mt_Mo_votesOf.2.2.2 ∈ g_G.2.1 := g_memT (g_t7 5 rfl) rfl
theorem im_Mo_votesOf : Cond.instanceMethod mt_Mo_votesOf.1 ∈ g_G.2.1 := g_memT (g_t7 4 rfl) rfl
theorem se_Mo_votesOf : Cond.selects mt_Mo_votesOf.1.cls mt_Mo_votesOf.1 mt_Mo_votesOf.1 ∈ g_G.2.1 := g_memT (g_t0 76 rfl) rfl
theorem cd_Mo_everyHouse : Cond.code mt_Mo_everyHouse.1 mt_Mo_everyHouse.2.1 mt_Mo_everyHouse.2.2.1 mt_Mo_everyHouse.2.2.2 ∈ g_G.2.1 := g_memT (g_t7 9 rfl) rfl
theorem im_Mo_everyHouse : Cond.instanceMethod mt_Mo_everyHouse.1 ∈ g_G.2.1 := g_memT (g_t7 8 rfl) rfl
theorem se_Mo_everyHouse : Cond.selects mt_Mo_everyHouse.1.cls mt_Mo_everyHouse.1 mt_Mo_everyHouse.1 ∈ g_G.2.1 := g_memT (g_t0 77 rfl) rfl
theorem cd_Mo_atGates : Cond.code mt_Mo_atGates.1 mt_Mo_atGates.2.1 mt_Mo_atGates.2.2.1 mt_Mo_atGates.2.2.2 ∈ g_G.2.1 := g_memT (g_t7 13 rfl) rfl
theorem im_Mo_atGates : Cond.instanceMethod mt_Mo_atGates.1 ∈ g_G.2.1 := g_memT (g_t7 12 rfl) rfl
theorem se_Mo_atGates : Cond.selects mt_Mo_atGates.1.cls mt_Mo_atGates.1 mt_Mo_atGates.1 ∈ g_G.2.1 := g_memT (g_t0 78 rfl) rfl
theorem cd_Mo_summedBy : Cond.code mt_Mo_summedBy.1 mt_Mo_summedBy.2.1 mt_Mo_summedBy.2.2.1 mt_Mo_summedBy.2.2.2 ∈ g_G.2.1 := g_memT (g_t7 17 rfl) rfl
theorem im_Mo_summedBy : Cond.instanceMethod mt_Mo_summedBy.1 ∈ g_G.2.1 := g_memT (g_t7 16 rfl) rfl
theorem se_Mo_summedBy : Cond.selects mt_Mo_summedBy.1.cls mt_Mo_summedBy.1 mt_Mo_summedBy.1 ∈ g_G.2.1 := g_memT (g_t0 79 rfl) rfl
theorem cd_Mo_reckons : Cond.code mt_Mo_reckons.1 mt_Mo_reckons.2.1 mt_Mo_reckons.2.2.1 mt_Mo_reckons.2.2.2 ∈ g_G.2.1 := g_memT (g_t7 21 rfl) rfl
theorem im_Mo_reckons : Cond.instanceMethod mt_Mo_reckons.1 ∈ g_G.2.1 := g_memT (g_t7 20 rfl) rfl
theorem se_Mo_reckons : Cond.selects mt_Mo_reckons.1.cls mt_Mo_reckons.1 mt_Mo_reckons.1 ∈ g_G.2.1 := g_memT (g_t0 80 rfl) rfl
theorem cd_Mo_push : Cond.code mt_Mo_push.1 mt_Mo_push.2.1 mt_Mo_push.2.2.1 mt_Mo_push.2.2.2 ∈ g_G.2.1 := g_memT (g_t7 25 rfl) rfl
theorem im_Mo_push : Cond.instanceMethod mt_Mo_push.1 ∈ g_G.2.1 := g_memT (g_t7 24 rfl) rfl
theorem se_Mo_push : Cond.selects mt_Mo_push.1.cls mt_Mo_push.1 mt_Mo_push.1 ∈ g_G.2.1 := g_memT (g_t0 81 rfl) rfl
theorem cd_Mo_pop : Cond.code mt_Mo_pop.1 mt_Mo_pop.2.1 mt_Mo_pop.2.2.1 mt_Mo_pop.2.2.2 ∈ g_G.2.1 := g_memT (g_t7 29 rfl) rfl
theorem im_Mo_pop : Cond.instanceMethod mt_Mo_pop.1 ∈ g_G.2.1 := g_memT (g_t7 28 rfl) rfl
theorem se_Mo_pop : Cond.selects mt_Mo_pop.1.cls mt_Mo_pop.1 mt_Mo_pop.1 ∈ g_G.2.1 := g_memT (g_t0 82 rfl) rfl
theorem cd_Mo_one : Cond.code mt_Mo_one.1 mt_Mo_one.2.1 mt_Mo_one.2.2.1 mt_Mo_one.2.2.2 ∈ g_G.2.1 := g_memT (g_t7 32 rfl) rfl
theorem sc_Mo_one : Cond.static mt_Mo_one.1 ∈ g_G.2.1 := g_memT (g_t7 31 rfl) rfl
theorem cd_Mo_faces : Cond.code mt_Mo_faces.1 mt_Mo_faces.2.1 mt_Mo_faces.2.2.1 mt_Mo_faces.2.2.2 ∈ g_G.2.1 := g_memT (g_t7 36 rfl) rfl
theorem im_Mo_faces : Cond.instanceMethod mt_Mo_faces.1 ∈ g_G.2.1 := g_memT (g_t7 34 rfl) rfl
theorem se_Mo_faces : Cond.selects mt_Mo_faces.1.cls mt_Mo_faces.1 mt_Mo_faces.1 ∈ g_G.2.1 := g_memT (g_t7 35 rfl) rfl
theorem cd_Mo_keeps : Cond.code mt_Mo_keeps.1 mt_Mo_keeps.2.1 mt_Mo_keeps.2.2.1 mt_Mo_keeps.2.2.2 ∈ g_G.2.1 := g_memT (g_t7 41 rfl) rfl
theorem im_Mo_keeps : Cond.instanceMethod mt_Mo_keeps.1 ∈ g_G.2.1 := g_memT (g_t7 40 rfl) rfl
theorem se_Mo_keeps : Cond.selects mt_Mo_keeps.1.cls mt_Mo_keeps.1 mt_Mo_keeps.1 ∈ g_G.2.1 := g_memT (g_t0 83 rfl) rfl
theorem cd_Mo_laysBack : Cond.code mt_Mo_laysBack.1 mt_Mo_laysBack.2.1 mt_Mo_laysBack.2.2.1 mt_Mo_laysBack.2.2.2 ∈ g_G.2.1 := g_memT (g_t7 45 rfl) rfl
theorem im_Mo_laysBack : Cond.instanceMethod mt_Mo_laysBack.1 ∈ g_G.2.1 := g_memT (g_t7 44 rfl) rfl
theorem se_Mo_laysBack : Cond.selects mt_Mo_laysBack.1.cls mt_Mo_laysBack.1 mt_Mo_laysBack.1 ∈ g_G.2.1 := g_memT (g_t0 84 rfl) rfl
theorem cd_Mo_sees : Cond.code mt_Mo_sees.1 mt_Mo_sees.2.1 mt_Mo_sees.2.2.1 mt_Mo_sees.2.2.2 ∈ g_G.2.1 := g_memT (g_t7 49 rfl) rfl
theorem im_Mo_sees : Cond.instanceMethod mt_Mo_sees.1 ∈ g_G.2.1 := g_memT (g_t7 47 rfl) rfl
theorem se_Mo_sees : Cond.selects mt_Mo_sees.1.cls mt_Mo_sees.1 mt_Mo_sees.1 ∈ g_G.2.1 := g_memT (g_t7 48 rfl) rfl
theorem cd_Mo_day : Cond.code mt_Mo_day.1 mt_Mo_day.2.1 mt_Mo_day.2.2.1 mt_Mo_day.2.2.2 ∈ g_G.2.1 := g_memT (g_t7 53 rfl) rfl
theorem im_Mo_day : Cond.instanceMethod mt_Mo_day.1 ∈ g_G.2.1 := g_memT (g_t7 51 rfl) rfl
theorem se_Mo_day : Cond.selects mt_Mo_day.1.cls mt_Mo_day.1 mt_Mo_day.1 ∈ g_G.2.1 := g_memT (g_t7 52 rfl) rfl
theorem cd_Mo_dayIn : Cond.code mt_Mo_dayIn.1 mt_Mo_dayIn.2.1 mt_Mo_dayIn.2.2.1 mt_Mo_dayIn.2.2.2 ∈ g_G.2.1 := g_memT (g_t7 57 rfl) rfl
theorem im_Mo_dayIn : Cond.instanceMethod mt_Mo_dayIn.1 ∈ g_G.2.1 := g_memT (g_t7 56 rfl) rfl
theorem se_Mo_dayIn : Cond.selects mt_Mo_dayIn.1.cls mt_Mo_dayIn.1 mt_Mo_dayIn.1 ∈ g_G.2.1 := g_memT (g_t0 85 rfl) rfl
theorem cd_Mo_plan : Cond.code mt_Mo_plan.1 mt_Mo_plan.2.1 mt_Mo_plan.2.2.1 mt_Mo_plan.2.2.2 ∈ g_G.2.1 := g_memT (g_t7 62 rfl) rfl
theorem im_Mo_plan : Cond.instanceMethod mt_Mo_plan.1 ∈ g_G.2.1 := g_memT (g_t7 60 rfl) rfl
theorem se_Mo_plan : Cond.selects mt_Mo_plan.1.cls mt_Mo_plan.1 mt_Mo_plan.1 ∈ g_G.2.1 := g_memT (g_t7 61 rfl) rfl
theorem cd_Mo_third : Cond.code mt_Mo_third.1 mt_Mo_third.2.1 mt_Mo_third.2.2.1 mt_Mo_third.2.2.2 ∈ g_G.2.1 := g_memT (g_t7 66 rfl) rfl
theorem sc_Mo_third : Cond.static mt_Mo_third.1 ∈ g_G.2.1 := g_memT (g_t7 65 rfl) rfl
theorem cd_Mo_worthOf : Cond.code mt_Mo_worthOf.1 mt_Mo_worthOf.2.1 mt_Mo_worthOf.2.2.1 mt_Mo_worthOf.2.2.2 ∈ g_G.2.1 := g_memT (g_t7 70 rfl) rfl
theorem im_Mo_worthOf : Cond.instanceMethod mt_Mo_worthOf.1 ∈ g_G.2.1 := g_memT (g_t7 69 rfl) rfl
theorem se_Mo_worthOf : Cond.selects mt_Mo_worthOf.1.cls mt_Mo_worthOf.1 mt_Mo_worthOf.1 ∈ g_G.2.1 := g_memT (g_t0 86 rfl) rfl
theorem cd_Mo_digitOf : Cond.code mt_Mo_digitOf.1 mt_Mo_digitOf.2.1 mt_Mo_digitOf.2.2.1 mt_Mo_digitOf.2.2.2 ∈ g_G.2.1 := g_memT (g_t7 73 rfl) rfl
theorem sc_Mo_digitOf : Cond.static mt_Mo_digitOf.1 ∈ g_G.2.1 := g_memT (g_t7 72 rfl) rfl
theorem cd_Mo_errand : Cond.code mt_Mo_errand.1 mt_Mo_errand.2.1 mt_Mo_errand.2.2.1 mt_Mo_errand.2.2.2 ∈ g_G.2.1 := g_memT (g_t7 77 rfl) rfl
theorem im_Mo_errand : Cond.instanceMethod mt_Mo_errand.1 ∈ g_G.2.1 := g_memT (g_t7 75 rfl) rfl
theorem se_Mo_errand : Cond.selects mt_Mo_errand.1.cls mt_Mo_errand.1 mt_Mo_errand.1 ∈ g_G.2.1 := g_memT (g_t7 76 rfl) rfl
theorem cd_Mo_backFrom : Cond.code mt_Mo_backFrom.1 mt_Mo_backFrom.2.1 mt_Mo_backFrom.2.2.1 mt_Mo_backFrom.2.2.2 ∈ g_G.2.1 := g_memT (g_t7 82 rfl) rfl
theorem im_Mo_backFrom : Cond.instanceMethod mt_Mo_backFrom.1 ∈ g_G.2.1 := g_memT (g_t7 81 rfl) rfl
theorem se_Mo_backFrom : Cond.selects mt_Mo_backFrom.1.cls mt_Mo_backFrom.1 mt_Mo_backFrom.1 ∈ g_G.2.1 := g_memT (g_t0 87 rfl) rfl
theorem cd_Mo_way : Cond.code mt_Mo_way.1 mt_Mo_way.2.1 mt_Mo_way.2.2.1 mt_Mo_way.2.2.2 ∈ g_G.2.1 := g_memT (g_t7 85 rfl) rfl
theorem sc_Mo_way : Cond.static mt_Mo_way.1 ∈ g_G.2.1 := g_memT (g_t7 84 rfl) rfl
theorem cd_Mo_stay : Cond.code mt_Mo_stay.1 mt_Mo_stay.2.1 mt_Mo_stay.2.2.1 mt_Mo_stay.2.2.2 ∈ g_G.2.1 := g_memT (g_t7 89 rfl) rfl
theorem im_Mo_stay : Cond.instanceMethod mt_Mo_stay.1 ∈ g_G.2.1 := g_memT (g_t7 87 rfl) rfl
theorem se_Mo_stay : Cond.selects mt_Mo_stay.1.cls mt_Mo_stay.1 mt_Mo_stay.1 ∈ g_G.2.1 := g_memT (g_t7 88 rfl) rfl
theorem cd_Mo_swings : Cond.code mt_Mo_swings.1 mt_Mo_swings.2.1 mt_Mo_swings.2.2.1 mt_Mo_swings.2.2.2 ∈ g_G.2.1 := g_memT (g_t7 93 rfl) rfl
theorem im_Mo_swings : Cond.instanceMethod mt_Mo_swings.1 ∈ g_G.2.1 := g_memT (g_t7 91 rfl) rfl
theorem se_Mo_swings : Cond.selects mt_Mo_swings.1.cls mt_Mo_swings.1 mt_Mo_swings.1 ∈ g_G.2.1 := g_memT (g_t7 92 rfl) rfl
theorem cd_Mo_trade : Cond.code mt_Mo_trade.1 mt_Mo_trade.2.1 mt_Mo_trade.2.2.1 mt_Mo_trade.2.2.2 ∈ g_G.2.1 := g_memT (g_t7 97 rfl) rfl
theorem im_Mo_trade : Cond.instanceMethod mt_Mo_trade.1 ∈ g_G.2.1 := g_memT (g_t7 95 rfl) rfl
theorem se_Mo_trade : Cond.selects mt_Mo_trade.1.cls mt_Mo_trade.1 mt_Mo_trade.1 ∈ g_G.2.1 := g_memT (g_t7 96 rfl) rfl
theorem cd_Mo_fillsDays : Cond.code mt_Mo_fillsDays.1 mt_Mo_fillsDays.2.1 mt_Mo_fillsDays.2.2.1 mt_Mo_fillsDays.2.2.2 ∈ g_G.2.1 := g_memT (g_t7 102 rfl) rfl
theorem im_Mo_fillsDays : Cond.instanceMethod mt_Mo_fillsDays.1 ∈ g_G.2.1 := g_memT (g_t7 101 rfl) rfl
theorem se_Mo_fillsDays : Cond.selects mt_Mo_fillsDays.1.cls mt_Mo_fillsDays.1 mt_Mo_fillsDays.1 ∈ g_G.2.1 := g_memT (g_t0 88 rfl) rfl
theorem cd_Mo_gathersTrades : Cond.code mt_Mo_gathersTrades.1 mt_Mo_gathersTrades.2.1 mt_Mo_gathersTrades.2.2.1 mt_Mo_gathersTrades.2.2.2 ∈ g_G.2.1 := g_memT (g_t7 106 rfl) rfl
theorem im_Mo_gathersTrades : Cond.instanceMethod mt_Mo_gathersTrades.1 ∈ g_G.2.1 := g_memT (g_t7 105 rfl) rfl
theorem se_Mo_gathersTrades : Cond.selects mt_Mo_gathersTrades.1.cls mt_Mo_gathersTrades.1 mt_Mo_gathersTrades.1 ∈ g_G.2.1 := g_memT (g_t0 89 rfl) rfl
theorem cd_Mo_countsRow : Cond.code mt_Mo_countsRow.1 mt_Mo_countsRow.2.1 mt_Mo_countsRow.2.2.1 mt_Mo_countsRow.2.2.2 ∈ g_G.2.1 := g_memT (g_t7 110 rfl) rfl
theorem im_Mo_countsRow : Cond.instanceMethod mt_Mo_countsRow.1 ∈ g_G.2.1 := g_memT (g_t7 109 rfl) rfl
theorem se_Mo_countsRow : Cond.selects mt_Mo_countsRow.1.cls mt_Mo_countsRow.1 mt_Mo_countsRow.1 ∈ g_G.2.1 := g_memT (g_t0 90 rfl) rfl
theorem cd_Mo_dayNow : Cond.code mt_Mo_dayNow.1 mt_Mo_dayNow.2.1 mt_Mo_dayNow.2.2.1 mt_Mo_dayNow.2.2.2 ∈ g_G.2.1 := g_memT (g_t7 114 rfl) rfl
theorem im_Mo_dayNow : Cond.instanceMethod mt_Mo_dayNow.1 ∈ g_G.2.1 := g_memT (g_t7 113 rfl) rfl
theorem se_Mo_dayNow : Cond.selects mt_Mo_dayNow.1.cls mt_Mo_dayNow.1 mt_Mo_dayNow.1 ∈ g_G.2.1 := g_memT (g_t0 91 rfl) rfl
theorem cd_Mo_spare : Cond.code mt_Mo_spare.1 mt_Mo_spare.2.1 mt_Mo_spare.2.2.1 mt_Mo_spare.2.2.2 ∈ g_G.2.1 := g_memT (g_t7 118 rfl) rfl
theorem im_Mo_spare : Cond.instanceMethod mt_Mo_spare.1 ∈ g_G.2.1 := g_memT (g_t7 116 rfl) rfl
theorem se_Mo_spare : Cond.selects mt_Mo_spare.1.cls mt_Mo_spare.1 mt_Mo_spare.1 ∈ g_G.2.1 := g_memT (g_t7 117 rfl) rfl
theorem cd_Mo_stepsOf : Cond.code mt_Mo_stepsOf.1 mt_Mo_stepsOf.2.1 mt_Mo_stepsOf.2.2.1 mt_Mo_stepsOf.2.2.2 ∈ g_G.2.1 := g_memT (g_t7 122 rfl) rfl
theorem sc_Mo_stepsOf : Cond.static mt_Mo_stepsOf.1 ∈ g_G.2.1 := g_memT (g_t7 121 rfl) rfl
theorem cd_Mo_mostWorn : Cond.code mt_Mo_mostWorn.1 mt_Mo_mostWorn.2.1 mt_Mo_mostWorn.2.2.1 mt_Mo_mostWorn.2.2.2 ∈ g_G.2.1 := g_memT (g_t7 126 rfl) rfl
theorem im_Mo_mostWorn : Cond.instanceMethod mt_Mo_mostWorn.1 ∈ g_G.2.1 := g_memT (g_t7 125 rfl) rfl
theorem se_Mo_mostWorn : Cond.selects mt_Mo_mostWorn.1.cls mt_Mo_mostWorn.1 mt_Mo_mostWorn.1 ∈ g_G.2.1 := g_memT (g_t0 92 rfl) rfl
theorem cd_Mo_apart : Cond.code mt_Mo_apart.1 mt_Mo_apart.2.1 mt_Mo_apart.2.2.1 mt_Mo_apart.2.2.2 ∈ g_G.2.1 := g_memT (g_t7 130 rfl) rfl
theorem im_Mo_apart : Cond.instanceMethod mt_Mo_apart.1 ∈ g_G.2.1 := g_memT (g_t7 128 rfl) rfl
theorem se_Mo_apart : Cond.selects mt_Mo_apart.1.cls mt_Mo_apart.1 mt_Mo_apart.1 ∈ g_G.2.1 := g_memT (g_t7 129 rfl) rfl
theorem cd_Mo_seenBy : Cond.code mt_Mo_seenBy.1 mt_Mo_seenBy.2.1 mt_Mo_seenBy.2.2.1 mt_Mo_seenBy.2.2.2 ∈ g_G.2.1 := g_memT (g_t7 136 rfl) rfl
theorem im_Mo_seenBy : Cond.instanceMethod mt_Mo_seenBy.1 ∈ g_G.2.1 := g_memT (g_t7 135 rfl) rfl
theorem se_Mo_seenBy : Cond.selects mt_Mo_seenBy.1.cls mt_Mo_seenBy.1 mt_Mo_seenBy.1 ∈ g_G.2.1 := g_memT (g_t0 93 rfl) rfl
theorem cd_Mo_diary : Cond.code mt_Mo_diary.1 mt_Mo_diary.2.1 mt_Mo_diary.2.2.1 mt_Mo_diary.2.2.2 ∈ g_G.2.1 := g_memT (g_t7 140 rfl) rfl
theorem im_Mo_diary : Cond.instanceMethod mt_Mo_diary.1 ∈ g_G.2.1 := g_memT (g_t7 138 rfl) rfl
theorem se_Mo_diary : Cond.selects mt_Mo_diary.1.cls mt_Mo_diary.1 mt_Mo_diary.1 ∈ g_G.2.1 := g_memT (g_t7 139 rfl) rfl
theorem cd_Mo_turned : Cond.code mt_Mo_turned.1 mt_Mo_turned.2.1 mt_Mo_turned.2.2.1 mt_Mo_turned.2.2.2 ∈ g_G.2.1 := g_memT (g_t7 145 rfl) rfl
theorem im_Mo_turned : Cond.instanceMethod mt_Mo_turned.1 ∈ g_G.2.1 := g_memT (g_t7 143 rfl) rfl
theorem se_Mo_turned : Cond.selects mt_Mo_turned.1.cls mt_Mo_turned.1 mt_Mo_turned.1 ∈ g_G.2.1 := g_memT (g_t7 144 rfl) rfl
theorem cd_Mo_fitsDiary : Cond.code mt_Mo_fitsDiary.1 mt_Mo_fitsDiary.2.1 mt_Mo_fitsDiary.2.2.1 mt_Mo_fitsDiary.2.2.2 ∈ g_G.2.1 := g_memT (g_t7 149 rfl) rfl
theorem im_Mo_fitsDiary : Cond.instanceMethod mt_Mo_fitsDiary.1 ∈ g_G.2.1 := g_memT (g_t7 148 rfl) rfl
theorem se_Mo_fitsDiary : Cond.selects mt_Mo_fitsDiary.1.cls mt_Mo_fitsDiary.1 mt_Mo_fitsDiary.1 ∈ g_G.2.1 := g_memT (g_t0 94 rfl) rfl
theorem cd_Mo_sawBy : Cond.code mt_Mo_sawBy.1 mt_Mo_sawBy.2.1 mt_Mo_sawBy.2.2.1 mt_Mo_sawBy.2.2.2 ∈ g_G.2.1 := g_memT (g_t7 153 rfl) rfl
theorem im_Mo_sawBy : Cond.instanceMethod mt_Mo_sawBy.1 ∈ g_G.2.1 := g_memT (g_t7 152 rfl) rfl
theorem se_Mo_sawBy : Cond.selects mt_Mo_sawBy.1.cls mt_Mo_sawBy.1 mt_Mo_sawBy.1 ∈ g_G.2.1 := g_memT (g_t0 95 rfl) rfl
theorem cd_Mo_look : Cond.code mt_Mo_look.1 mt_Mo_look.2.1 mt_Mo_look.2.2.1 mt_Mo_look.2.2.2 ∈ g_G.2.1 := g_memT (g_t7 157 rfl) rfl
theorem im_Mo_look : Cond.instanceMethod mt_Mo_look.1 ∈ g_G.2.1 := g_memT (g_t7 155 rfl) rfl
theorem se_Mo_look : Cond.selects mt_Mo_look.1.cls mt_Mo_look.1 mt_Mo_look.1 ∈ g_G.2.1 := g_memT (g_t7 156 rfl) rfl
theorem cd_Mo_seed : Cond.code mt_Mo_seed.1 mt_Mo_seed.2.1 mt_Mo_seed.2.2.1 mt_Mo_seed.2.2.2 ∈ g_G.2.1 := g_memT (g_t7 161 rfl) rfl
theorem im_Mo_seed : Cond.instanceMethod mt_Mo_seed.1 ∈ g_G.2.1 := g_memT (g_t7 159 rfl) rfl
theorem se_Mo_seed : Cond.selects mt_Mo_seed.1.cls mt_Mo_seed.1 mt_Mo_seed.1 ∈ g_G.2.1 := g_memT (g_t7 160 rfl) rfl
theorem cd_Mo_days : Cond.code mt_Mo_days.1 mt_Mo_days.2.1 mt_Mo_days.2.2.1 mt_Mo_days.2.2.2 ∈ g_G.2.1 := g_memT (g_t7 165 rfl) rfl
theorem im_Mo_days : Cond.instanceMethod mt_Mo_days.1 ∈ g_G.2.1 := g_memT (g_t7 163 rfl) rfl
theorem se_Mo_days : Cond.selects mt_Mo_days.1.cls mt_Mo_days.1 mt_Mo_days.1 ∈ g_G.2.1 := g_memT (g_t7 164 rfl) rfl
theorem cd_Mo_draw : Cond.code mt_Mo_draw.1 mt_Mo_draw.2.1 mt_Mo_draw.2.2.1 mt_Mo_draw.2.2.2 ∈ g_G.2.1 := g_memT (g_t7 170 rfl) rfl
theorem im_Mo_draw : Cond.instanceMethod mt_Mo_draw.1 ∈ g_G.2.1 := g_memT (g_t7 169 rfl) rfl
theorem se_Mo_draw : Cond.selects mt_Mo_draw.1.cls mt_Mo_draw.1 mt_Mo_draw.1 ∈ g_G.2.1 := g_memT (g_t0 96 rfl) rfl
theorem cd_Mo_count : Cond.code mt_Mo_count.1 mt_Mo_count.2.1 mt_Mo_count.2.2.1 mt_Mo_count.2.2.2 ∈ g_G.2.1 := g_memT (g_t7 178 rfl) rfl
theorem im_Mo_count : Cond.instanceMethod mt_Mo_count.1 ∈ g_G.2.1 := g_memT (g_t7 176 rfl) rfl
theorem se_Mo_count : Cond.selects mt_Mo_count.1.cls mt_Mo_count.1 mt_Mo_count.1 ∈ g_G.2.1 := g_memT (g_t7 177 rfl) rfl
theorem cd_Mo_image : Cond.code mt_Mo_image.1 mt_Mo_image.2.1 mt_Mo_image.2.2.1 mt_Mo_image.2.2.2 ∈ g_G.2.1 := g_memT (g_t7 182 rfl) rfl
theorem im_Mo_image : Cond.instanceMethod mt_Mo_image.1 ∈ g_G.2.1 := g_memT (g_t7 180 rfl) rfl
theorem se_Mo_image : Cond.selects mt_Mo_image.1.cls mt_Mo_image.1 mt_Mo_image.1 ∈ g_G.2.1 := g_memT (g_t7 181 rfl) rfl
theorem cd_Mo_back : Cond.code mt_Mo_back.1 mt_Mo_back.2.1 mt_Mo_back.2.2.1 mt_Mo_back.2.2.2 ∈ g_G.2.1 := g_memT (g_t7 186 rfl) rfl
theorem im_Mo_back : Cond.instanceMethod mt_Mo_back.1 ∈ g_G.2.1 := g_memT (g_t7 184 rfl) rfl
theorem se_Mo_back : Cond.selects mt_Mo_back.1.cls mt_Mo_back.1 mt_Mo_back.1 ∈ g_G.2.1 := g_memT (g_t7 185 rfl) rfl
theorem pd_0 : (parseMethodDescriptor "()V").map (fun q => q.parameters.length) = some 0 := by decide +kernel
theorem pd_1 : (parseMethodDescriptor "(IIIII)I").map (fun q => q.parameters.length) = some 5 := by decide +kernel
theorem pd_2 : (parseMethodDescriptor "(I)V").map (fun q => q.parameters.length) = some 1 := by decide +kernel
theorem pd_3 : (parseMethodDescriptor "(I)I").map (fun q => q.parameters.length) = some 1 := by decide +kernel
theorem pd_4 : (parseMethodDescriptor "()I").map (fun q => q.parameters.length) = some 0 := by decide +kernel
theorem pd_5 : (parseMethodDescriptor "(LTurnRing$Tape;LTurnRing$Ring;)I").map (fun q => q.parameters.length) = some 2 := by decide +kernel
theorem pd_6 : (parseMethodDescriptor "(Ljava/lang/String;)V").map (fun q => q.parameters.length) = some 1 := by decide +kernel
theorem pd_7 : (parseMethodDescriptor "()B").map (fun q => q.parameters.length) = some 0 := by decide +kernel
theorem pd_8 : (parseMethodDescriptor "(I)C").map (fun q => q.parameters.length) = some 1 := by decide +kernel
theorem pd_9 : (parseMethodDescriptor "()Z").map (fun q => q.parameters.length) = some 0 := by decide +kernel
theorem pd_10 : (parseMethodDescriptor "([BI)C").map (fun q => q.parameters.length) = some 2 := by decide +kernel
theorem pd_11 : (parseMethodDescriptor "(II)V").map (fun q => q.parameters.length) = some 2 := by decide +kernel
theorem pd_12 : (parseMethodDescriptor "(IILjava/util/function/BiFunction;)I").map (fun q => q.parameters.length) = some 3 := by decide +kernel
theorem pd_15 : (parseMethodDescriptor "([II)V").map (fun q => q.parameters.length) = some 2 := by decide +kernel
theorem pd_16 : (parseMethodDescriptor "([JJ)V").map (fun q => q.parameters.length) = some 2 := by decide +kernel
theorem pd_17 : (parseMethodDescriptor "(LTurnRing$Ring;II)Z").map (fun q => q.parameters.length) = some 3 := by decide +kernel
theorem pd_18 : (parseMethodDescriptor "(LTurnRing$Tape;LTurnRing$Ring;I)V").map (fun q => q.parameters.length) = some 3 := by decide +kernel
theorem pd_19 : (parseMethodDescriptor "(II)I").map (fun q => q.parameters.length) = some 2 := by decide +kernel
theorem pd_20 : (parseMethodDescriptor "(LTurnRing$Tape;LTurnRing$Ring;)V").map (fun q => q.parameters.length) = some 2 := by decide +kernel
theorem pd_21 : (parseMethodDescriptor "(I)Z").map (fun q => q.parameters.length) = some 1 := by decide +kernel
theorem pd_22 : (parseMethodDescriptor "(IIII)V").map (fun q => q.parameters.length) = some 4 := by decide +kernel
theorem pd_23 : (parseMethodDescriptor "(III)V").map (fun q => q.parameters.length) = some 3 := by decide +kernel
theorem pd_24 : (parseMethodDescriptor "(LTurnRing$Tape;)I").map (fun q => q.parameters.length) = some 1 := by decide +kernel
theorem pd_25 : (parseMethodDescriptor "(LTurnRing$Tape;)V").map (fun q => q.parameters.length) = some 1 := by decide +kernel
theorem pd_26 : (parseMethodDescriptor "(LTurnRing$Tape;I)V").map (fun q => q.parameters.length) = some 2 := by decide +kernel
theorem pd_27 : (parseMethodDescriptor "()[I").map (fun q => q.parameters.length) = some 0 := by decide +kernel
theorem pd_28 : (parseMethodDescriptor "([II)[I").map (fun q => q.parameters.length) = some 2 := by decide +kernel
theorem pd_31 : (parseMethodDescriptor "([I)V").map (fun q => q.parameters.length) = some 1 := by decide +kernel
theorem pd_32 : (parseMethodDescriptor "(IIII)I").map (fun q => q.parameters.length) = some 4 := by decide +kernel
theorem pd_33 : (parseMethodDescriptor "(II)Z").map (fun q => q.parameters.length) = some 2 := by decide +kernel
theorem pd_34 : (parseMethodDescriptor "(LTurnRing$Ring;)Z").map (fun q => q.parameters.length) = some 1 := by decide +kernel
theorem pd_35 : (parseMethodDescriptor "(IZ)V").map (fun q => q.parameters.length) = some 2 := by decide +kernel
theorem pd_36 : (parseMethodDescriptor "(LTurnRing$Rule;LTurnRing$Ring;)I").map (fun q => q.parameters.length) = some 2 := by decide +kernel
theorem pd_37 : (parseMethodDescriptor "(J)V").map (fun q => q.parameters.length) = some 1 := by decide +kernel
theorem pd_38 : (parseMethodDescriptor "(ILTurnRing$Ring;)I").map (fun q => q.parameters.length) = some 2 := by decide +kernel
theorem pd_39 : (parseMethodDescriptor "()J").map (fun q => q.parameters.length) = some 0 := by decide +kernel
theorem pd_40 : (parseMethodDescriptor "(Z)J").map (fun q => q.parameters.length) = some 1 := by decide +kernel
theorem pd_41 : (parseMethodDescriptor "(J)I").map (fun q => q.parameters.length) = some 1 := by decide +kernel
theorem pd_43 : (parseMethodDescriptor "(IJJ)J").map (fun q => q.parameters.length) = some 3 := by decide +kernel
theorem pd_44 : (parseMethodDescriptor "(LTurnRing$Ring;)V").map (fun q => q.parameters.length) = some 1 := by decide +kernel
theorem pd_45 : (parseMethodDescriptor "(LTurnRing$Diary;)V").map (fun q => q.parameters.length) = some 1 := by decide +kernel
theorem pd_46 : (parseMethodDescriptor "(IZI)I").map (fun q => q.parameters.length) = some 3 := by decide +kernel
theorem pd_47 : (parseMethodDescriptor "(LTurnRing$Ring;IZ)V").map (fun q => q.parameters.length) = some 3 := by decide +kernel
theorem pd_48 : (parseMethodDescriptor "(LTurnRing$Ring;II)V").map (fun q => q.parameters.length) = some 3 := by decide +kernel
theorem pd_49 : (parseMethodDescriptor "(LTurnRing$Ring;I)I").map (fun q => q.parameters.length) = some 2 := by decide +kernel
theorem pd_50 : (parseMethodDescriptor "(III)Z").map (fun q => q.parameters.length) = some 3 := by decide +kernel
theorem pd_51 : (parseMethodDescriptor "(III)I").map (fun q => q.parameters.length) = some 3 := by decide +kernel
theorem pd_52 : (parseMethodDescriptor "(LTurnRing$Rule;III)I").map (fun q => q.parameters.length) = some 4 := by decide +kernel
theorem pd_53 : (parseMethodDescriptor "(IIIZ)I").map (fun q => q.parameters.length) = some 4 := by decide +kernel
theorem pd_54 : (parseMethodDescriptor "(IIIZ)V").map (fun q => q.parameters.length) = some 4 := by decide +kernel
theorem pd_55 : (parseMethodDescriptor "(LTurnRing$Ring;IIII)I").map (fun q => q.parameters.length) = some 5 := by decide +kernel
theorem pd_56 : (parseMethodDescriptor "(LTurnRing$Ring;I)V").map (fun q => q.parameters.length) = some 2 := by decide +kernel
theorem pd_57 : (parseMethodDescriptor "(J)Z").map (fun q => q.parameters.length) = some 1 := by decide +kernel
theorem pd_58 : (parseMethodDescriptor "(JJJ)Z").map (fun q => q.parameters.length) = some 3 := by decide +kernel
theorem pd_59 : (parseMethodDescriptor "(I)J").map (fun q => q.parameters.length) = some 1 := by decide +kernel
theorem pd_60 : (parseMethodDescriptor "(III)J").map (fun q => q.parameters.length) = some 3 := by decide +kernel
theorem pd_61 : (parseMethodDescriptor "(IIZ)I").map (fun q => q.parameters.length) = some 3 := by decide +kernel
theorem pd_62 : (parseMethodDescriptor "(IIII)Z").map (fun q => q.parameters.length) = some 4 := by decide +kernel
theorem kb_La_9 : ab_kb g_G "TurnRingLaw" 9 mt_Tu_init 0 := ⟨g_good, cd_Tu_init, g_memT (g_t1 1 rfl) rfl, Or.inl (g_memT (g_t1 24 rfl) rfl), ⟨by decide, by decide, pd_0⟩, by decide⟩
theorem kb_Tu_9 : ab_kb g_G "TurnRing" 9 mt_Ta_init 0 := ⟨g_good, cd_Ta_init, g_memT (g_t1 2 rfl) rfl, Or.inr ⟨_, g_memM (g_t1 32 rfl) rfl⟩, ⟨by decide, by decide, pd_0⟩, by decide⟩
theorem kb_Tu_18 : ab_kb g_G "TurnRing" 18 mt_Ri_init 0 := ⟨g_good, cd_Ri_init, g_memT (g_t1 3 rfl) rfl, Or.inr ⟨_, g_memM (g_t1 77 rfl) rfl⟩, ⟨by decide, by decide, pd_0⟩, by decide⟩
theorem kb_Ri_36 : ab_kb g_G "TurnRing$Ring" 36 mt_Di_init 0 := ⟨g_good, cd_Di_init, g_memT (g_t1 4 rfl) rfl, Or.inr ⟨_, g_memM (g_t1 83 rfl) rfl⟩, ⟨by decide, by decide, pd_0⟩, by decide⟩
theorem kb_Tu_42 : ab_kb g_G "TurnRing" 42 mt_Ac_init 0 := ⟨g_good, cd_Ac_init, g_memT (g_t1 5 rfl) rfl, Or.inr ⟨_, g_memM (g_t1 211 rfl) rfl⟩, ⟨by decide, by decide, pd_0⟩, by decide⟩
theorem kb_Tu_49 : ab_kb g_G "TurnRing" 49 mt_Ru_init 0 := ⟨g_good, cd_Ru_init, g_memT (g_t1 6 rfl) rfl, Or.inr ⟨_, g_memM (g_t1 235 rfl) rfl⟩, ⟨by decide, by decide, pd_0⟩, by decide⟩
theorem kb_Tu_56 : ab_kb g_G "TurnRing" 56 mt_Ma_init 0 := ⟨g_good, cd_Ma_init, g_memT (g_t1 7 rfl) rfl, Or.inr ⟨_, g_memM (g_t2 11 rfl) rfl⟩, ⟨by decide, by decide, pd_0⟩, by decide⟩
theorem kb_Tu_63 : ab_kb g_G "TurnRing" 63 mt_Pl_init 0 := ⟨g_good, cd_Pl_init, g_memT (g_t1 8 rfl) rfl, Or.inr ⟨_, g_memM (g_t2 24 rfl) rfl⟩, ⟨by decide, by decide, pd_0⟩, by decide⟩
theorem kb_Tu_70 : ab_kb g_G "TurnRing" 70 mt_Tr_init 0 := ⟨g_good, cd_Tr_init, g_memT (g_t1 9 rfl) rfl, Or.inr ⟨_, g_memM (g_t2 48 rfl) rfl⟩, ⟨by decide, by decide, pd_0⟩, by decide⟩
theorem kb_Tu_77 : ab_kb g_G "TurnRing" 77 mt_Gu_init 0 := ⟨g_good, cd_Gu_init, g_memT (g_t1 10 rfl) rfl, Or.inr ⟨_, g_memM (g_t2 72 rfl) rfl⟩, ⟨by decide, by decide, pd_0⟩, by decide⟩
theorem kb_La_13 : ab_kb g_G "TurnRingLaw" 13 mt_Tu_feed 5 := ⟨g_good, cd_Tu_feed, g_memT (g_t1 1 rfl) rfl, Or.inl (g_memT (g_t2 140 rfl) rfl), ⟨by decide, by decide, pd_1⟩, by decide⟩
theorem kb_Tu_86 : ab_kb g_G "TurnRing" 86 mt_Ta_putBytes 1 := ⟨g_good, cd_Ta_putBytes, g_memT (g_t1 2 rfl) rfl, Or.inl (g_memT (g_t2 144 rfl) rfl), ⟨by decide, by decide, pd_2⟩, by decide⟩
theorem kb_La_18 : ab_kb g_G "TurnRingLaw" 18 mt_Tu_end 1 := ⟨g_good, cd_Tu_end, g_memT (g_t1 1 rfl) rfl, Or.inl (g_memT (g_t2 148 rfl) rfl), ⟨by decide, by decide, pd_3⟩, by decide⟩
theorem kb_La_23 : ab_kb g_G "TurnRingLaw" 23 mt_Tu_ring 0 := ⟨g_good, cd_Tu_ring, g_memT (g_t1 1 rfl) rfl, Or.inl (g_memT (g_t2 152 rfl) rfl), ⟨by decide, by decide, pd_4⟩, by decide⟩
theorem kb_Tu_90 : ab_kb g_G "TurnRing" 90 mt_Rr_readAll 2 := ⟨g_good, cd_Rr_readAll, g_memT (g_t1 12 rfl) rfl, Or.inl (g_memT (g_t2 156 rfl) rfl), ⟨by decide, by decide, pd_5⟩, by decide⟩
theorem kb_Rr_13 : ab_kb g_G "TurnRing$RingReader" 13 mt_Ta_begin 1 := ⟨g_good, cd_Ta_begin, g_memT (g_t1 2 rfl) rfl, Or.inl (g_memT (g_t2 160 rfl) rfl), ⟨by decide, by decide, pd_6⟩, by decide⟩
theorem kb_Ta_31 : ab_kb g_G "TurnRing$Tape" 31 mt_Ta_advance 0 := ⟨g_good, cd_Ta_advance, g_memT (g_t1 2 rfl) rfl, Or.inl (g_memT (g_t2 164 rfl) rfl), ⟨by decide, by decide, pd_0⟩, by decide⟩
theorem kb_Ta_46 : ab_kb g_G "TurnRing$Tape" 46 mt_Ta_readNumber 0 := ⟨g_good, cd_Ta_readNumber, g_memT (g_t1 2 rfl) rfl, Or.inl (g_memT (g_t2 168 rfl) rfl), ⟨by decide, by decide, pd_0⟩, by decide⟩
theorem kb_Ta_49 : ab_kb g_G "TurnRing$Tape" 49 mt_Ta_readWord 0 := ⟨g_good, cd_Ta_readWord, g_memT (g_t1 2 rfl) rfl, Or.inl (g_memT (g_t2 172 rfl) rfl), ⟨by decide, by decide, pd_0⟩, by decide⟩
theorem kb_Ta_55 : ab_kb g_G "TurnRing$Tape" 55 mt_St_length 0 := ⟨g_good, cd_St_length, g_memT (g_t1 13 rfl) rfl, Or.inl (g_memT (g_t2 176 rfl) rfl), ⟨by decide, by decide, pd_4⟩, by decide⟩
theorem kb_St_335 : ab_kb g_G "java/lang/String" 335 mt_St_coder 0 := ⟨g_good, cd_St_coder, g_memT (g_t1 13 rfl) rfl, Or.inl (g_memT (g_t2 180 rfl) rfl), ⟨by decide, by decide, pd_7⟩, by decide⟩
theorem kb_Ta_60 : ab_kb g_G "TurnRing$Tape" 60 mt_St_charAt 1 := ⟨g_good, cd_St_charAt, g_memT (g_t1 13 rfl) rfl, Or.inl (g_memT (g_t2 186 rfl) rfl), ⟨by decide, by decide, pd_8⟩, by decide⟩
theorem kb_St_492 : ab_kb g_G "java/lang/String" 492 mt_St_isLatin1 0 := ⟨g_good, cd_St_isLatin1, g_memT (g_t1 13 rfl) rfl, Or.inl (g_memT (g_t2 190 rfl) rfl), ⟨by decide, by decide, pd_9⟩, by decide⟩
theorem kb_St_495 : ab_kb g_G "java/lang/String" 495 mt_Sl_charAt 2 := ⟨g_good, cd_Sl_charAt, g_memT (g_t1 14 rfl) rfl, Or.inl (g_memT (g_t2 194 rfl) rfl), ⟨by decide, by decide, pd_10⟩, by decide⟩
theorem kb_Sl_9 : ab_kb g_G "java/lang/StringLatin1" 9 mt_St_checkIndex 2 := ⟨g_good, cd_St_checkIndex, g_memT (g_t1 13 rfl) rfl, Or.inl (g_memT (g_t2 197 rfl) rfl), ⟨by decide, by decide, pd_11⟩, by decide⟩
theorem kb_St_1059 : ab_kb g_G "java/lang/String" 1059 mt_Zz_checkIndex 3 := ⟨g_good, cd_Zz_checkIndex, g_memT (g_t1 15 rfl) rfl, Or.inl (g_memT (g_t2 202 rfl) rfl), ⟨by decide, by decide, pd_12⟩, by decide⟩
theorem kb_Ta_52 : ab_kb g_G "TurnRing$Tape" 52 mt_Ta_readSign 0 := ⟨g_good, cd_Ta_readSign, g_memT (g_t1 2 rfl) rfl, Or.inl (g_memT (g_t2 224 rfl) rfl), ⟨by decide, by decide, pd_0⟩, by decide⟩
theorem kb_Rr_19 : ab_kb g_G "TurnRing$RingReader" 19 mt_Ri_clear 0 := ⟨g_good, cd_Ri_clear, g_memT (g_t1 3 rfl) rfl, Or.inl (g_memT (g_t2 228 rfl) rfl), ⟨by decide, by decide, pd_0⟩, by decide⟩
theorem kb_Ri_73 : ab_kb g_G "TurnRing$Ring" 73 mt_Ar_fill_AIIV 2 := ⟨g_good, cd_Ar_fill_AIIV, g_memT (g_t1 17 rfl) rfl, Or.inl (g_memT (g_t2 232 rfl) rfl), ⟨by decide, by decide, pd_15⟩, by decide⟩
theorem kb_Ri_79 : ab_kb g_G "TurnRing$Ring" 79 mt_Ar_fill_AJJV 2 := ⟨g_good, cd_Ar_fill_AJJV, g_memT (g_t1 17 rfl) rfl, Or.inl (g_memT (g_t2 235 rfl) rfl), ⟨by decide, by decide, pd_16⟩, by decide⟩
theorem kb_Rr_28 : ab_kb g_G "TurnRing$RingReader" 28 mt_Ta_fail 1 := ⟨g_good, cd_Ta_fail, g_memT (g_t1 2 rfl) rfl, Or.inl (g_memT (g_t2 238 rfl) rfl), ⟨by decide, by decide, pd_2⟩, by decide⟩
theorem kb_Rr_32 : ab_kb g_G "TurnRing$RingReader" 32 mt_Rr_mayFollow 3 := ⟨g_good, cd_Rr_mayFollow, g_memT (g_t1 12 rfl) rfl, Or.inl (g_memT (g_t3 2 rfl) rfl), ⟨by decide, by decide, pd_17⟩, by decide⟩
theorem kb_Rr_36 : ab_kb g_G "TurnRing$RingReader" 36 mt_Ta_advance 0 := ⟨g_good, cd_Ta_advance, g_memT (g_t1 2 rfl) rfl, Or.inl (g_memT (g_t3 5 rfl) rfl), ⟨by decide, by decide, pd_0⟩, by decide⟩
theorem kb_Rr_39 : ab_kb g_G "TurnRing$RingReader" 39 mt_Rr_readRest 3 := ⟨g_good, cd_Rr_readRest, g_memT (g_t1 12 rfl) rfl, Or.inl (g_memT (g_t3 6 rfl) rfl), ⟨by decide, by decide, pd_18⟩, by decide⟩
theorem kb_Rr_59 : ab_kb g_G "TurnRing$RingReader" 59 mt_Ta_takeNumber 2 := ⟨g_good, cd_Ta_takeNumber, g_memT (g_t1 2 rfl) rfl, Or.inl (g_memT (g_t3 9 rfl) rfl), ⟨by decide, by decide, pd_19⟩, by decide⟩
theorem kb_Ta_64 : ab_kb g_G "TurnRing$Tape" 64 mt_Ta_fail 1 := ⟨g_good, cd_Ta_fail, g_memT (g_t1 2 rfl) rfl, Or.inl (g_memT (g_t3 13 rfl) rfl), ⟨by decide, by decide, pd_2⟩, by decide⟩
theorem kb_Rr_71 : ab_kb g_G "TurnRing$RingReader" 71 mt_Rr_readHouse 2 := ⟨g_good, cd_Rr_readHouse, g_memT (g_t1 12 rfl) rfl, Or.inl (g_memT (g_t3 17 rfl) rfl), ⟨by decide, by decide, pd_20⟩, by decide⟩
theorem kb_Rr_90 : ab_kb g_G "TurnRing$RingReader" 90 mt_Ri_slotTaken 1 := ⟨g_good, cd_Ri_slotTaken, g_memT (g_t1 3 rfl) rfl, Or.inl (g_memT (g_t3 20 rfl) rfl), ⟨by decide, by decide, pd_21⟩, by decide⟩
theorem kb_Rr_94 : ab_kb g_G "TurnRing$RingReader" 94 mt_Ri_addHouse 2 := ⟨g_good, cd_Ri_addHouse, g_memT (g_t1 3 rfl) rfl, Or.inl (g_memT (g_t3 24 rfl) rfl), ⟨by decide, by decide, pd_11⟩, by decide⟩
theorem kb_Rr_75 : ab_kb g_G "TurnRing$RingReader" 75 mt_Rr_readSight 2 := ⟨g_good, cd_Rr_readSight, g_memT (g_t1 12 rfl) rfl, Or.inl (g_memT (g_t3 28 rfl) rfl), ⟨by decide, by decide, pd_20⟩, by decide⟩
theorem kb_Rr_98 : ab_kb g_G "TurnRing$RingReader" 98 mt_Ri_addSight 4 := ⟨g_good, cd_Ri_addSight, g_memT (g_t1 3 rfl) rfl, Or.inl (g_memT (g_t3 31 rfl) rfl), ⟨by decide, by decide, pd_22⟩, by decide⟩
theorem kb_Rr_78 : ab_kb g_G "TurnRing$RingReader" 78 mt_Rr_readLiking 3 := ⟨g_good, cd_Rr_readLiking, g_memT (g_t1 12 rfl) rfl, Or.inl (g_memT (g_t3 35 rfl) rfl), ⟨by decide, by decide, pd_18⟩, by decide⟩
theorem kb_Rr_81 : ab_kb g_G "TurnRing$RingReader" 81 mt_Rr_readGate 2 := ⟨g_good, cd_Rr_readGate, g_memT (g_t1 12 rfl) rfl, Or.inl (g_memT (g_t3 38 rfl) rfl), ⟨by decide, by decide, pd_20⟩, by decide⟩
theorem kb_Rr_84 : ab_kb g_G "TurnRing$RingReader" 84 mt_Rr_readRate 2 := ⟨g_good, cd_Rr_readRate, g_memT (g_t1 12 rfl) rfl, Or.inl (g_memT (g_t3 41 rfl) rfl), ⟨by decide, by decide, pd_20⟩, by decide⟩
theorem kb_Rr_109 : ab_kb g_G "TurnRing$RingReader" 109 mt_Ri_setRates 3 := ⟨g_good, cd_Ri_setRates, g_memT (g_t1 3 rfl) rfl, Or.inl (g_memT (g_t3 44 rfl) rfl), ⟨by decide, by decide, pd_23⟩, by decide⟩
theorem kb_Tu_99 : ab_kb g_G "TurnRing" 99 mt_Ac_forget 0 := ⟨g_good, cd_Ac_forget, g_memT (g_t1 5 rfl) rfl, Or.inl (g_memT (g_t3 48 rfl) rfl), ⟨by decide, by decide, pd_0⟩, by decide⟩
theorem kb_La_28 : ab_kb g_G "TurnRingLaw" 28 mt_Tu_rule 0 := ⟨g_good, cd_Tu_rule, g_memT (g_t1 1 rfl) rfl, Or.inl (g_memT (g_t3 52 rfl) rfl), ⟨by decide, by decide, pd_4⟩, by decide⟩
theorem kb_Tu_108 : ab_kb g_G "TurnRing" 108 mt_Ru_readAll 1 := ⟨g_good, cd_Ru_readAll, g_memT (g_t1 6 rfl) rfl, Or.inl (g_memT (g_t3 56 rfl) rfl), ⟨by decide, by decide, pd_24⟩, by decide⟩
theorem kb_Ru_17 : ab_kb g_G "TurnRing$RuleReader" 17 mt_Ta_begin 1 := ⟨g_good, cd_Ta_begin, g_memT (g_t1 2 rfl) rfl, Or.inl (g_memT (g_t3 61 rfl) rfl), ⟨by decide, by decide, pd_6⟩, by decide⟩
theorem kb_Ru_33 : ab_kb g_G "TurnRing$RuleReader" 33 mt_Ta_fail 1 := ⟨g_good, cd_Ta_fail, g_memT (g_t1 2 rfl) rfl, Or.inl (g_memT (g_t3 62 rfl) rfl), ⟨by decide, by decide, pd_2⟩, by decide⟩
theorem kb_Ru_37 : ab_kb g_G "TurnRing$RuleReader" 37 mt_Ta_advance 0 := ⟨g_good, cd_Ta_advance, g_memT (g_t1 2 rfl) rfl, Or.inl (g_memT (g_t3 63 rfl) rfl), ⟨by decide, by decide, pd_0⟩, by decide⟩
theorem kb_Ru_40 : ab_kb g_G "TurnRing$RuleReader" 40 mt_Ru_readSum 1 := ⟨g_good, cd_Ru_readSum, g_memT (g_t1 6 rfl) rfl, Or.inl (g_memT (g_t3 64 rfl) rfl), ⟨by decide, by decide, pd_25⟩, by decide⟩
theorem kb_Ru_75 : ab_kb g_G "TurnRing$RuleReader" 75 mt_Ru_checkValue 1 := ⟨g_good, cd_Ru_checkValue, g_memT (g_t1 6 rfl) rfl, Or.inl (g_memT (g_t3 68 rfl) rfl), ⟨by decide, by decide, pd_25⟩, by decide⟩
theorem kb_Ru_72 : ab_kb g_G "TurnRing$RuleReader" 72 mt_Ru_countToken 1 := ⟨g_good, cd_Ru_countToken, g_memT (g_t1 6 rfl) rfl, Or.inl (g_memT (g_t3 72 rfl) rfl), ⟨by decide, by decide, pd_25⟩, by decide⟩
theorem kb_Ru_50 : ab_kb g_G "TurnRing$RuleReader" 50 mt_Ru_emit 1 := ⟨g_good, cd_Ru_emit, g_memT (g_t1 6 rfl) rfl, Or.inl (g_memT (g_t3 76 rfl) rfl), ⟨by decide, by decide, pd_2⟩, by decide⟩
theorem kb_Ru_81 : ab_kb g_G "TurnRing$RuleReader" 81 mt_Ru_timingOf 1 := ⟨g_good, cd_Ru_timingOf, g_memT (g_t1 6 rfl) rfl, Or.inl (g_memT (g_t3 80 rfl) rfl), ⟨by decide, by decide, pd_3⟩, by decide⟩
theorem kb_Ru_84 : ab_kb g_G "TurnRing$RuleReader" 84 mt_Ru_addingOf 1 := ⟨g_good, cd_Ru_addingOf, g_memT (g_t1 6 rfl) rfl, Or.inl (g_memT (g_t3 83 rfl) rfl), ⟨by decide, by decide, pd_3⟩, by decide⟩
theorem kb_Ru_46 : ab_kb g_G "TurnRing$RuleReader" 46 mt_Ru_readTest 2 := ⟨g_good, cd_Ru_readTest, g_memT (g_t1 6 rfl) rfl, Or.inl (g_memT (g_t3 86 rfl) rfl), ⟨by decide, by decide, pd_26⟩, by decide⟩
theorem kb_Ru_65 : ab_kb g_G "TurnRing$RuleReader" 65 mt_Ru_readFact 2 := ⟨g_good, cd_Ru_readFact, g_memT (g_t1 6 rfl) rfl, Or.inl (g_memT (g_t3 90 rfl) rfl), ⟨by decide, by decide, pd_26⟩, by decide⟩
theorem kb_Ru_68 : ab_kb g_G "TurnRing$RuleReader" 68 mt_Ru_comparisonOf 1 := ⟨g_good, cd_Ru_comparisonOf, g_memT (g_t1 6 rfl) rfl, Or.inl (g_memT (g_t3 94 rfl) rfl), ⟨by decide, by decide, pd_3⟩, by decide⟩
theorem kb_Tu_111 : ab_kb g_G "TurnRing" 111 mt_Ru_codeRead 0 := ⟨g_good, cd_Ru_codeRead, g_memT (g_t1 6 rfl) rfl, Or.inl (g_memT (g_t3 98 rfl) rfl), ⟨by decide, by decide, pd_27⟩, by decide⟩
theorem kb_Ru_59 : ab_kb g_G "TurnRing$RuleReader" 59 mt_Ar_copyOf 2 := ⟨g_good, cd_Ar_copyOf, g_memT (g_t1 17 rfl) rfl, Or.inl (g_memT (g_t3 102 rfl) rfl), ⟨by decide, by decide, pd_28⟩, by decide⟩
theorem kb_Tu_115 : ab_kb g_G "TurnRing" 115 mt_Ro_init 1 := ⟨g_good, cd_Ro_init, g_memT (g_t1 19 rfl) rfl, Or.inl (g_memT (g_t3 118 rfl) rfl), ⟨by decide, by decide, pd_31⟩, by decide⟩
theorem kb_La_32 : ab_kb g_G "TurnRingLaw" 32 mt_Tu_house 2 := ⟨g_good, cd_Tu_house, g_memT (g_t1 1 rfl) rfl, Or.inl (g_memT (g_t3 127 rfl) rfl), ⟨by decide, by decide, pd_19⟩, by decide⟩
theorem kb_Tu_118 : ab_kb g_G "TurnRing" 118 mt_Tu_hasHouse 1 := ⟨g_good, cd_Tu_hasHouse, g_memT (g_t1 1 rfl) rfl, Or.inl (g_memT (g_t3 131 rfl) rfl), ⟨by decide, by decide, pd_21⟩, by decide⟩
theorem kb_Tu_132 : ab_kb g_G "TurnRing" 132 mt_Ri_facing 1 := ⟨g_good, cd_Ri_facing, g_memT (g_t1 3 rfl) rfl, Or.inl (g_memT (g_t3 135 rfl) rfl), ⟨by decide, by decide, pd_3⟩, by decide⟩
theorem kb_Ri_95 : ab_kb g_G "TurnRing$Ring" 95 mt_Tu_facedBy 2 := ⟨g_good, cd_Tu_facedBy, g_memT (g_t1 1 rfl) rfl, Or.inr ⟨_, g_memM (g_t3 139 rfl) rfl⟩, ⟨by decide, by decide, pd_19⟩, by decide⟩
theorem kb_Tu_139 : ab_kb g_G "TurnRing" 139 mt_Ri_sortsAt 2 := ⟨g_good, cd_Ri_sortsAt, g_memT (g_t1 3 rfl) rfl, Or.inl (g_memT (g_t3 142 rfl) rfl), ⟨by decide, by decide, pd_19⟩, by decide⟩
theorem kb_Tu_143 : ab_kb g_G "TurnRing" 143 mt_Ri_likesNow 1 := ⟨g_good, cd_Ri_likesNow, g_memT (g_t1 3 rfl) rfl, Or.inl (g_memT (g_t3 146 rfl) rfl), ⟨by decide, by decide, pd_3⟩, by decide⟩
theorem kb_Ri_106 : ab_kb g_G "TurnRing$Ring" 106 mt_Ri_likesIn 4 := ⟨g_good, cd_Ri_likesIn, g_memT (g_t1 3 rfl) rfl, Or.inl (g_memT (g_t3 150 rfl) rfl), ⟨by decide, by decide, pd_32⟩, by decide⟩
theorem kb_Ri_103 : ab_kb g_G "TurnRing$Ring" 103 mt_Ri_sortsAt 2 := ⟨g_good, cd_Ri_sortsAt, g_memT (g_t1 3 rfl) rfl, Or.inl (g_memT (g_t3 154 rfl) rfl), ⟨by decide, by decide, pd_19⟩, by decide⟩
theorem kb_Tu_146 : ab_kb g_G "TurnRing" 146 mt_Ri_isGate 1 := ⟨g_good, cd_Ri_isGate, g_memT (g_t1 3 rfl) rfl, Or.inl (g_memT (g_t3 155 rfl) rfl), ⟨by decide, by decide, pd_21⟩, by decide⟩
theorem kb_Tu_149 : ab_kb g_G "TurnRing" 149 mt_Ri_wantsStay 1 := ⟨g_good, cd_Ri_wantsStay, g_memT (g_t1 3 rfl) rfl, Or.inl (g_memT (g_t3 159 rfl) rfl), ⟨by decide, by decide, pd_21⟩, by decide⟩
theorem kb_Ri_131 : ab_kb g_G "TurnRing$Ring" 131 mt_Tu_wrapped 1 := ⟨g_good, cd_Tu_wrapped, g_memT (g_t1 1 rfl) rfl, Or.inr ⟨_, g_memM (g_t3 163 rfl) rfl⟩, ⟨by decide, by decide, pd_3⟩, by decide⟩
theorem kb_La_37 : ab_kb g_G "TurnRingLaw" 37 mt_Tu_direction 2 := ⟨g_good, cd_Tu_direction, g_memT (g_t1 1 rfl) rfl, Or.inl (g_memT (g_t3 166 rfl) rfl), ⟨by decide, by decide, pd_19⟩, by decide⟩
theorem kb_Tu_156 : ab_kb g_G "TurnRing" 156 mt_Tu_isDirection 1 := ⟨g_good, cd_Tu_isDirection, g_memT (g_t1 1 rfl) rfl, Or.inl (g_memT (g_t3 170 rfl) rfl), ⟨by decide, by decide, pd_21⟩, by decide⟩
theorem kb_Tu_159 : ab_kb g_G "TurnRing" 159 mt_Ri_houseFacing 1 := ⟨g_good, cd_Ri_houseFacing, g_memT (g_t1 3 rfl) rfl, Or.inl (g_memT (g_t3 173 rfl) rfl), ⟨by decide, by decide, pd_3⟩, by decide⟩
theorem kb_Ri_99 : ab_kb g_G "TurnRing$Ring" 99 mt_Ri_facing 1 := ⟨g_good, cd_Ri_facing, g_memT (g_t1 3 rfl) rfl, Or.inl (g_memT (g_t3 177 rfl) rfl), ⟨by decide, by decide, pd_3⟩, by decide⟩
theorem kb_La_41 : ab_kb g_G "TurnRingLaw" 41 mt_Tu_rateOf 1 := ⟨g_good, cd_Tu_rateOf, g_memT (g_t1 1 rfl) rfl, Or.inl (g_memT (g_t3 178 rfl) rfl), ⟨by decide, by decide, pd_3⟩, by decide⟩
theorem kb_Tu_162 : ab_kb g_G "TurnRing" 162 mt_Tu_isHour 1 := ⟨g_good, cd_Tu_isHour, g_memT (g_t1 1 rfl) rfl, Or.inl (g_memT (g_t3 182 rfl) rfl), ⟨by decide, by decide, pd_21⟩, by decide⟩
theorem kb_La_45 : ab_kb g_G "TurnRingLaw" 45 mt_Tu_worn 1 := ⟨g_good, cd_Tu_worn, g_memT (g_t1 1 rfl) rfl, Or.inl (g_memT (g_t3 185 rfl) rfl), ⟨by decide, by decide, pd_3⟩, by decide⟩
theorem kb_La_139 : ab_kb g_G "TurnRingLaw" 139 mt_Tu_count 1 := ⟨g_good, cd_Tu_count, g_memT (g_t1 1 rfl) rfl, Or.inl (g_memT (g_t3 189 rfl) rfl), ⟨by decide, by decide, pd_3⟩, by decide⟩
theorem kb_Tu_183 : ab_kb g_G "TurnRing" 183 mt_Ri_allLike 2 := ⟨g_good, cd_Ri_allLike, g_memT (g_t1 3 rfl) rfl, Or.inl (g_memT (g_t3 193 rfl) rfl), ⟨by decide, by decide, pd_19⟩, by decide⟩
theorem kb_Tu_204 : ab_kb g_G "TurnRing" 204 mt_Ri_allVotes 0 := ⟨g_good, cd_Ri_allVotes, g_memT (g_t1 3 rfl) rfl, Or.inl (g_memT (g_t3 197 rfl) rfl), ⟨by decide, by decide, pd_4⟩, by decide⟩
theorem kb_Ri_137 : ab_kb g_G "TurnRing$Ring" 137 mt_Ri_votesOf 1 := ⟨g_good, cd_Ri_votesOf, g_memT (g_t1 3 rfl) rfl, Or.inl (g_memT (g_t3 201 rfl) rfl), ⟨by decide, by decide, pd_3⟩, by decide⟩
theorem kb_La_49 : ab_kb g_G "TurnRingLaw" 49 mt_Tu_hour 0 := ⟨g_good, cd_Tu_hour, g_memT (g_t1 1 rfl) rfl, Or.inl (g_memT (g_t3 206 rfl) rfl), ⟨by decide, by decide, pd_4⟩, by decide⟩
theorem kb_Tu_209 : ab_kb g_G "TurnRing" 209 mt_Ri_hoursBehind 1 := ⟨g_good, cd_Ri_hoursBehind, g_memT (g_t1 3 rfl) rfl, Or.inl (g_memT (g_t3 210 rfl) rfl), ⟨by decide, by decide, pd_3⟩, by decide⟩
theorem kb_Tu_212 : ab_kb g_G "TurnRing" 212 mt_Tu_lastHour 0 := ⟨g_good, cd_Tu_lastHour, g_memT (g_t1 1 rfl) rfl, Or.inl (g_memT (g_t3 214 rfl) rfl), ⟨by decide, by decide, pd_4⟩, by decide⟩
theorem kb_Tu_215 : ab_kb g_G "TurnRing" 215 mt_Ri_passHour 1 := ⟨g_good, cd_Ri_passHour, g_memT (g_t1 3 rfl) rfl, Or.inl (g_memT (g_t3 217 rfl) rfl), ⟨by decide, by decide, pd_3⟩, by decide⟩
theorem kb_Tu_218 : ab_kb g_G "TurnRing" 218 mt_Ac_keep 3 := ⟨g_good, cd_Ac_keep, g_memT (g_t1 5 rfl) rfl, Or.inl (g_memT (g_t3 225 rfl) rfl), ⟨by decide, by decide, pd_23⟩, by decide⟩
theorem kb_La_53 : ab_kb g_G "TurnRingLaw" 53 mt_Tu_rate 2 := ⟨g_good, cd_Tu_rate, g_memT (g_t1 1 rfl) rfl, Or.inl (g_memT (g_t3 230 rfl) rfl), ⟨by decide, by decide, pd_19⟩, by decide⟩
theorem kb_La_57 : ab_kb g_G "TurnRingLaw" 57 mt_Tu_swap 2 := ⟨g_good, cd_Tu_swap, g_memT (g_t1 1 rfl) rfl, Or.inl (g_memT (g_t3 234 rfl) rfl), ⟨by decide, by decide, pd_33⟩, by decide⟩
theorem kb_Tu_222 : ab_kb g_G "TurnRing" 222 mt_Ri_swapSlots 2 := ⟨g_good, cd_Ri_swapSlots, g_memT (g_t1 3 rfl) rfl, Or.inl (g_memT (g_t3 238 rfl) rfl), ⟨by decide, by decide, pd_11⟩, by decide⟩
theorem kb_La_62 : ab_kb g_G "TurnRingLaw" 62 mt_Tu_stop 0 := ⟨g_good, cd_Tu_stop, g_memT (g_t1 1 rfl) rfl, Or.inl (g_memT (g_t4 2 rfl) rfl), ⟨by decide, by decide, pd_9⟩, by decide⟩
theorem kb_La_67 : ab_kb g_G "TurnRingLaw" 67 mt_Tu_undo 0 := ⟨g_good, cd_Tu_undo, g_memT (g_t1 1 rfl) rfl, Or.inl (g_memT (g_t4 6 rfl) rfl), ⟨by decide, by decide, pd_4⟩, by decide⟩
theorem kb_Tu_226 : ab_kb g_G "TurnRing" 226 mt_Ac_undoLast 1 := ⟨g_good, cd_Ac_undoLast, g_memT (g_t1 5 rfl) rfl, Or.inl (g_memT (g_t4 10 rfl) rfl), ⟨by decide, by decide, pd_34⟩, by decide⟩
theorem kb_Ac_32 : ab_kb g_G "TurnRing$ActLog" 32 mt_Ri_takeHourBack 2 := ⟨g_good, cd_Ri_takeHourBack, g_memT (g_t1 3 rfl) rfl, Or.inl (g_memT (g_t4 14 rfl) rfl), ⟨by decide, by decide, pd_35⟩, by decide⟩
theorem kb_Ac_41 : ab_kb g_G "TurnRing$ActLog" 41 mt_Ri_swapSlots 2 := ⟨g_good, cd_Ri_swapSlots, g_memT (g_t1 3 rfl) rfl, Or.inl (g_memT (g_t4 18 rfl) rfl), ⟨by decide, by decide, pd_11⟩, by decide⟩
theorem kb_La_71 : ab_kb g_G "TurnRingLaw" 71 mt_Tu_run 2 := ⟨g_good, cd_Tu_run, g_memT (g_t1 1 rfl) rfl, Or.inl (g_memT (g_t4 19 rfl) rfl), ⟨by decide, by decide, pd_19⟩, by decide⟩
theorem kb_Tu_230 : ab_kb g_G "TurnRing" 230 mt_Tu_hasRule 1 := ⟨g_good, cd_Tu_hasRule, g_memT (g_t1 1 rfl) rfl, Or.inl (g_memT (g_t4 23 rfl) rfl), ⟨by decide, by decide, pd_21⟩, by decide⟩
theorem kb_Tu_233 : ab_kb g_G "TurnRing" 233 mt_Ma_rateBy 2 := ⟨g_good, cd_Ma_rateBy, g_memT (g_t1 7 rfl) rfl, Or.inl (g_memT (g_t4 27 rfl) rfl), ⟨by decide, by decide, pd_36⟩, by decide⟩
theorem kb_Ma_25 : ab_kb g_G "TurnRing$Machine" 25 mt_Ma_push 1 := ⟨g_good, cd_Ma_push, g_memT (g_t1 7 rfl) rfl, Or.inl (g_memT (g_t4 31 rfl) rfl), ⟨by decide, by decide, pd_37⟩, by decide⟩
theorem kb_Ma_29 : ab_kb g_G "TurnRing$Machine" 29 mt_Ma_wordOf 2 := ⟨g_good, cd_Ma_wordOf, g_memT (g_t1 7 rfl) rfl, Or.inl (g_memT (g_t4 35 rfl) rfl), ⟨by decide, by decide, pd_38⟩, by decide⟩
theorem kb_Ma_79 : ab_kb g_G "TurnRing$Machine" 79 mt_Ri_allLike 2 := ⟨g_good, cd_Ri_allLike, g_memT (g_t1 3 rfl) rfl, Or.inl (g_memT (g_t4 38 rfl) rfl), ⟨by decide, by decide, pd_19⟩, by decide⟩
theorem kb_Ma_83 : ab_kb g_G "TurnRing$Machine" 83 mt_Ri_bestLike 0 := ⟨g_good, cd_Ri_bestLike, g_memT (g_t1 3 rfl) rfl, Or.inl (g_memT (g_t4 39 rfl) rfl), ⟨by decide, by decide, pd_4⟩, by decide⟩
theorem kb_Ri_110 : ab_kb g_G "TurnRing$Ring" 110 mt_Ri_likesNow 1 := ⟨g_good, cd_Ri_likesNow, g_memT (g_t1 3 rfl) rfl, Or.inl (g_memT (g_t4 43 rfl) rfl), ⟨by decide, by decide, pd_3⟩, by decide⟩
theorem kb_Ma_87 : ab_kb g_G "TurnRing$Machine" 87 mt_Ri_leastLike 0 := ⟨g_good, cd_Ri_leastLike, g_memT (g_t1 3 rfl) rfl, Or.inl (g_memT (g_t4 45 rfl) rfl), ⟨by decide, by decide, pd_4⟩, by decide⟩
theorem kb_Ma_90 : ab_kb g_G "TurnRing$Machine" 90 mt_Ri_stayVotes 0 := ⟨g_good, cd_Ri_stayVotes, g_memT (g_t1 3 rfl) rfl, Or.inl (g_memT (g_t4 49 rfl) rfl), ⟨by decide, by decide, pd_4⟩, by decide⟩
theorem kb_Ri_134 : ab_kb g_G "TurnRing$Ring" 134 mt_Ri_wantsStay 1 := ⟨g_good, cd_Ri_wantsStay, g_memT (g_t1 3 rfl) rfl, Or.inl (g_memT (g_t4 53 rfl) rfl), ⟨by decide, by decide, pd_21⟩, by decide⟩
theorem kb_Ma_93 : ab_kb g_G "TurnRing$Machine" 93 mt_Ri_allVotes 0 := ⟨g_good, cd_Ri_allVotes, g_memT (g_t1 3 rfl) rfl, Or.inl (g_memT (g_t4 54 rfl) rfl), ⟨by decide, by decide, pd_4⟩, by decide⟩
theorem kb_Ma_96 : ab_kb g_G "TurnRing$Machine" 96 mt_Ri_atGates 0 := ⟨g_good, cd_Ri_atGates, g_memT (g_t1 3 rfl) rfl, Or.inl (g_memT (g_t4 55 rfl) rfl), ⟨by decide, by decide, pd_4⟩, by decide⟩
theorem kb_Ri_121 : ab_kb g_G "TurnRing$Ring" 121 mt_Ri_isGate 1 := ⟨g_good, cd_Ri_isGate, g_memT (g_t1 3 rfl) rfl, Or.inl (g_memT (g_t4 59 rfl) rfl), ⟨by decide, by decide, pd_21⟩, by decide⟩
theorem kb_Ma_33 : ab_kb g_G "TurnRing$Machine" 33 mt_Ma_pop 0 := ⟨g_good, cd_Ma_pop, g_memT (g_t1 7 rfl) rfl, Or.inl (g_memT (g_t4 60 rfl) rfl), ⟨by decide, by decide, pd_39⟩, by decide⟩
theorem kb_Ma_37 : ab_kb g_G "TurnRing$Machine" 37 mt_Ma_truth 1 := ⟨g_good, cd_Ma_truth, g_memT (g_t1 7 rfl) rfl, Or.inl (g_memT (g_t4 64 rfl) rfl), ⟨by decide, by decide, pd_40⟩, by decide⟩
theorem kb_Ma_41 : ab_kb g_G "TurnRing$Machine" 41 mt_Ma_held 1 := ⟨g_good, cd_Ma_held, g_memT (g_t1 7 rfl) rfl, Or.inl (g_memT (g_t4 67 rfl) rfl), ⟨by decide, by decide, pd_41⟩, by decide⟩
theorem kb_Ma_45 : ab_kb g_G "TurnRing$Machine" 45 mt_Ma_joined 3 := ⟨g_good, cd_Ma_joined, g_memT (g_t1 7 rfl) rfl, Or.inl (g_memT (g_t4 78 rfl) rfl), ⟨by decide, by decide, pd_43⟩, by decide⟩
theorem kb_La_131 : ab_kb g_G "TurnRingLaw" 131 mt_Tu_seed 1 := ⟨g_good, cd_Tu_seed, g_memT (g_t1 1 rfl) rfl, Or.inl (g_memT (g_t4 81 rfl) rfl), ⟨by decide, by decide, pd_3⟩, by decide⟩
theorem kb_La_143 : ab_kb g_G "TurnRingLaw" 143 mt_Tu_image 1 := ⟨g_good, cd_Tu_image, g_memT (g_t1 1 rfl) rfl, Or.inl (g_memT (g_t4 85 rfl) rfl), ⟨by decide, by decide, pd_3⟩, by decide⟩
theorem kb_Tu_237 : ab_kb g_G "TurnRing" 237 mt_Ri_copyFrom 1 := ⟨g_good, cd_Ri_copyFrom, g_memT (g_t1 3 rfl) rfl, Or.inl (g_memT (g_t4 89 rfl) rfl), ⟨by decide, by decide, pd_44⟩, by decide⟩
theorem kb_Ri_91 : ab_kb g_G "TurnRing$Ring" 91 mt_Di_copyFrom 1 := ⟨g_good, cd_Di_copyFrom, g_memT (g_t1 4 rfl) rfl, Or.inl (g_memT (g_t4 94 rfl) rfl), ⟨by decide, by decide, pd_45⟩, by decide⟩
theorem kb_La_147 : ab_kb g_G "TurnRingLaw" 147 mt_Tu_back 1 := ⟨g_good, cd_Tu_back, g_memT (g_t1 1 rfl) rfl, Or.inl (g_memT (g_t4 99 rfl) rfl), ⟨by decide, by decide, pd_3⟩, by decide⟩
theorem kb_La_75 : ab_kb g_G "TurnRingLaw" 75 mt_Tu_faces 2 := ⟨g_good, cd_Tu_faces, g_memT (g_t1 1 rfl) rfl, Or.inl (g_memT (g_t4 103 rfl) rfl), ⟨by decide, by decide, pd_19⟩, by decide⟩
theorem kb_Tu_241 : ab_kb g_G "TurnRing" 241 mt_Ri_angleOn 1 := ⟨g_good, cd_Ri_angleOn, g_memT (g_t1 3 rfl) rfl, Or.inl (g_memT (g_t4 107 rfl) rfl), ⟨by decide, by decide, pd_3⟩, by decide⟩
theorem kb_Ri_128 : ab_kb g_G "TurnRing$Ring" 128 mt_Ri_angleBehind 2 := ⟨g_good, cd_Ri_angleBehind, g_memT (g_t1 3 rfl) rfl, Or.inl (g_memT (g_t4 111 rfl) rfl), ⟨by decide, by decide, pd_19⟩, by decide⟩
theorem kb_Ri_125 : ab_kb g_G "TurnRing$Ring" 125 mt_Ri_hourOn 1 := ⟨g_good, cd_Ri_hourOn, g_memT (g_t1 3 rfl) rfl, Or.inl (g_memT (g_t4 115 rfl) rfl), ⟨by decide, by decide, pd_3⟩, by decide⟩
theorem kb_Tu_244 : ab_kb g_G "TurnRing" 244 mt_Tu_facedBy 2 := ⟨g_good, cd_Tu_facedBy, g_memT (g_t1 1 rfl) rfl, Or.inl (g_memT (g_t4 119 rfl) rfl), ⟨by decide, by decide, pd_19⟩, by decide⟩
theorem kb_La_79 : ab_kb g_G "TurnRingLaw" 79 mt_Tu_sees 2 := ⟨g_good, cd_Tu_sees, g_memT (g_t1 1 rfl) rfl, Or.inl (g_memT (g_t4 120 rfl) rfl), ⟨by decide, by decide, pd_19⟩, by decide⟩
theorem kb_Tu_247 : ab_kb g_G "TurnRing" 247 mt_Ri_hourOn 1 := ⟨g_good, cd_Ri_hourOn, g_memT (g_t1 3 rfl) rfl, Or.inl (g_memT (g_t4 124 rfl) rfl), ⟨by decide, by decide, pd_3⟩, by decide⟩
theorem kb_La_83 : ab_kb g_G "TurnRingLaw" 83 mt_Tu_day 1 := ⟨g_good, cd_Tu_day, g_memT (g_t1 1 rfl) rfl, Or.inl (g_memT (g_t4 125 rfl) rfl), ⟨by decide, by decide, pd_3⟩, by decide⟩
theorem kb_Tu_250 : ab_kb g_G "TurnRing" 250 mt_Ri_dayIn 2 := ⟨g_good, cd_Ri_dayIn, g_memT (g_t1 3 rfl) rfl, Or.inl (g_memT (g_t4 129 rfl) rfl), ⟨by decide, by decide, pd_19⟩, by decide⟩
theorem kb_La_92 : ab_kb g_G "TurnRingLaw" 92 mt_Tu_errand 4 := ⟨g_good, cd_Tu_errand, g_memT (g_t1 1 rfl) rfl, Or.inl (g_memT (g_t4 133 rfl) rfl), ⟨by decide, by decide, pd_32⟩, by decide⟩
theorem kb_Tu_253 : ab_kb g_G "TurnRing" 253 mt_Tu_wayBetween 2 := ⟨g_good, cd_Tu_wayBetween, g_memT (g_t1 1 rfl) rfl, Or.inl (g_memT (g_t4 137 rfl) rfl), ⟨by decide, by decide, pd_19⟩, by decide⟩
theorem kb_Tu_256 : ab_kb g_G "TurnRing" 256 mt_Ri_angleBehind 2 := ⟨g_good, cd_Ri_angleBehind, g_memT (g_t1 3 rfl) rfl, Or.inl (g_memT (g_t4 142 rfl) rfl), ⟨by decide, by decide, pd_19⟩, by decide⟩
theorem kb_La_97 : ab_kb g_G "TurnRingLaw" 97 mt_Tu_stay 1 := ⟨g_good, cd_Tu_stay, g_memT (g_t1 1 rfl) rfl, Or.inl (g_memT (g_t4 143 rfl) rfl), ⟨by decide, by decide, pd_3⟩, by decide⟩
theorem kb_Tu_267 : ab_kb g_G "TurnRing" 267 mt_Ri_stayVotes 0 := ⟨g_good, cd_Ri_stayVotes, g_memT (g_t1 3 rfl) rfl, Or.inl (g_memT (g_t4 147 rfl) rfl), ⟨by decide, by decide, pd_4⟩, by decide⟩
theorem kb_La_101 : ab_kb g_G "TurnRingLaw" 101 mt_Tu_swings 1 := ⟨g_good, cd_Tu_swings, g_memT (g_t1 1 rfl) rfl, Or.inl (g_memT (g_t4 148 rfl) rfl), ⟨by decide, by decide, pd_3⟩, by decide⟩
theorem kb_Tu_270 : ab_kb g_G "TurnRing" 270 mt_Ri_votesOf 1 := ⟨g_good, cd_Ri_votesOf, g_memT (g_t1 3 rfl) rfl, Or.inl (g_memT (g_t4 152 rfl) rfl), ⟨by decide, by decide, pd_3⟩, by decide⟩
theorem kb_La_87 : ab_kb g_G "TurnRingLaw" 87 mt_Tu_plan 3 := ⟨g_good, cd_Tu_plan, g_memT (g_t1 1 rfl) rfl, Or.inl (g_memT (g_t4 153 rfl) rfl), ⟨by decide, by decide, pd_46⟩, by decide⟩
theorem kb_Tu_273 : ab_kb g_G "TurnRing" 273 mt_Pl_findBest 3 := ⟨g_good, cd_Pl_findBest, g_memT (g_t1 8 rfl) rfl, Or.inl (g_memT (g_t4 157 rfl) rfl), ⟨by decide, by decide, pd_47⟩, by decide⟩
theorem kb_Pl_24 : ab_kb g_G "TurnRing$Planner" 24 mt_Ar_fill_AIIV 2 := ⟨g_good, cd_Ar_fill_AIIV, g_memT (g_t1 17 rfl) rfl, Or.inl (g_memT (g_t4 161 rfl) rfl), ⟨by decide, by decide, pd_15⟩, by decide⟩
theorem kb_Pl_36 : ab_kb g_G "TurnRing$Planner" 36 mt_Pl_weighFrom 3 := ⟨g_good, cd_Pl_weighFrom, g_memT (g_t1 8 rfl) rfl, Or.inl (g_memT (g_t4 162 rfl) rfl), ⟨by decide, by decide, pd_48⟩, by decide⟩
theorem kb_Pl_60 : ab_kb g_G "TurnRing$Planner" 60 mt_Tu_wrapped 1 := ⟨g_good, cd_Tu_wrapped, g_memT (g_t1 1 rfl) rfl, Or.inr ⟨_, g_memM (g_t4 166 rfl) rfl⟩, ⟨by decide, by decide, pd_3⟩, by decide⟩
theorem kb_Pl_69 : ab_kb g_G "TurnRing$Planner" 69 mt_Ri_hourOn 1 := ⟨g_good, cd_Ri_hourOn, g_memT (g_t1 3 rfl) rfl, Or.inl (g_memT (g_t4 167 rfl) rfl), ⟨by decide, by decide, pd_3⟩, by decide⟩
theorem kb_Pl_72 : ab_kb g_G "TurnRing$Planner" 72 mt_Ri_likesIn 4 := ⟨g_good, cd_Ri_likesIn, g_memT (g_t1 3 rfl) rfl, Or.inl (g_memT (g_t4 168 rfl) rfl), ⟨by decide, by decide, pd_32⟩, by decide⟩
theorem kb_Pl_40 : ab_kb g_G "TurnRing$Planner" 40 mt_Pl_leastHad 2 := ⟨g_good, cd_Pl_leastHad, g_memT (g_t1 8 rfl) rfl, Or.inl (g_memT (g_t4 169 rfl) rfl), ⟨by decide, by decide, pd_49⟩, by decide⟩
theorem kb_Pl_44 : ab_kb g_G "TurnRing$Planner" 44 mt_Pl_allHad 2 := ⟨g_good, cd_Pl_allHad, g_memT (g_t1 8 rfl) rfl, Or.inl (g_memT (g_t4 174 rfl) rfl), ⟨by decide, by decide, pd_49⟩, by decide⟩
theorem kb_Pl_56 : ab_kb g_G "TurnRing$Planner" 56 mt_Pl_nextRow 1 := ⟨g_good, cd_Pl_nextRow, g_memT (g_t1 8 rfl) rfl, Or.inl (g_memT (g_t4 179 rfl) rfl), ⟨by decide, by decide, pd_3⟩, by decide⟩
theorem kb_La_105 : ab_kb g_G "TurnRingLaw" 105 mt_Tu_trade 1 := ⟨g_good, cd_Tu_trade, g_memT (g_t1 1 rfl) rfl, Or.inl (g_memT (g_t4 183 rfl) rfl), ⟨by decide, by decide, pd_3⟩, by decide⟩
theorem kb_Tu_283 : ab_kb g_G "TurnRing" 283 mt_Tr_findRows 1 := ⟨g_good, cd_Tr_findRows, g_memT (g_t1 9 rfl) rfl, Or.inl (g_memT (g_t4 187 rfl) rfl), ⟨by decide, by decide, pd_44⟩, by decide⟩
theorem kb_Tr_27 : ab_kb g_G "TurnRing$Trader" 27 mt_Tr_sortSlots 1 := ⟨g_good, cd_Tr_sortSlots, g_memT (g_t1 9 rfl) rfl, Or.inl (g_memT (g_t4 191 rfl) rfl), ⟨by decide, by decide, pd_44⟩, by decide⟩
theorem kb_Tr_46 : ab_kb g_G "TurnRing$Trader" 46 mt_Ri_slotTaken 1 := ⟨g_good, cd_Ri_slotTaken, g_memT (g_t1 3 rfl) rfl, Or.inl (g_memT (g_t4 195 rfl) rfl), ⟨by decide, by decide, pd_21⟩, by decide⟩
theorem kb_Tr_37 : ab_kb g_G "TurnRing$Trader" 37 mt_Ri_dayIn 2 := ⟨g_good, cd_Ri_dayIn, g_memT (g_t1 3 rfl) rfl, Or.inl (g_memT (g_t4 196 rfl) rfl), ⟨by decide, by decide, pd_19⟩, by decide⟩
theorem kb_Tr_42 : ab_kb g_G "TurnRing$Trader" 42 mt_Tr_weighSet 2 := ⟨g_good, cd_Tr_weighSet, g_memT (g_t1 9 rfl) rfl, Or.inl (g_memT (g_t4 197 rfl) rfl), ⟨by decide, by decide, pd_11⟩, by decide⟩
theorem kb_Tr_50 : ab_kb g_G "TurnRing$Trader" 50 mt_In_bitCount 1 := ⟨g_good, cd_In_bitCount, g_memT (g_t1 21 rfl) rfl, Or.inl (g_memT (g_t4 201 rfl) rfl), ⟨by decide, by decide, pd_3⟩, by decide⟩
theorem kb_Tr_56 : ab_kb g_G "TurnRing$Trader" 56 mt_Tr_mayTake 3 := ⟨g_good, cd_Tr_mayTake, g_memT (g_t1 9 rfl) rfl, Or.inl (g_memT (g_t4 207 rfl) rfl), ⟨by decide, by decide, pd_50⟩, by decide⟩
theorem kb_Tr_60 : ab_kb g_G "TurnRing$Trader" 60 mt_Tr_sumWith 3 := ⟨g_good, cd_Tr_sumWith, g_memT (g_t1 9 rfl) rfl, Or.inl (g_memT (g_t4 211 rfl) rfl), ⟨by decide, by decide, pd_51⟩, by decide⟩
theorem kb_Tu_292 : ab_kb g_G "TurnRing" 292 mt_Tr_firstSlotOf 2 := ⟨g_good, cd_Tr_firstSlotOf, g_memT (g_t1 9 rfl) rfl, Or.inl (g_memT (g_t4 216 rfl) rfl), ⟨by decide, by decide, pd_49⟩, by decide⟩
theorem kb_Tr_69 : ab_kb g_G "TurnRing$Trader" 69 mt_Tr_firstChoice 3 := ⟨g_good, cd_Tr_firstChoice, g_memT (g_t1 9 rfl) rfl, Or.inl (g_memT (g_t4 220 rfl) rfl), ⟨by decide, by decide, pd_51⟩, by decide⟩
theorem kb_La_109 : ab_kb g_G "TurnRingLaw" 109 mt_Tu_spare 3 := ⟨g_good, cd_Tu_spare, g_memT (g_t1 1 rfl) rfl, Or.inl (g_memT (g_t4 224 rfl) rfl), ⟨by decide, by decide, pd_51⟩, by decide⟩
theorem kb_Tu_296 : ab_kb g_G "TurnRing" 296 mt_Ri_mostWornBehind 1 := ⟨g_good, cd_Ri_mostWornBehind, g_memT (g_t1 3 rfl) rfl, Or.inl (g_memT (g_t4 228 rfl) rfl), ⟨by decide, by decide, pd_3⟩, by decide⟩
theorem kb_La_114 : ab_kb g_G "TurnRingLaw" 114 mt_Tu_apart 5 := ⟨g_good, cd_Tu_apart, g_memT (g_t1 1 rfl) rfl, Or.inl (g_memT (g_t4 233 rfl) rfl), ⟨by decide, by decide, pd_1⟩, by decide⟩
theorem kb_Tu_302 : ab_kb g_G "TurnRing" 302 mt_Tu_isSort 1 := ⟨g_good, cd_Tu_isSort, g_memT (g_t1 1 rfl) rfl, Or.inl (g_memT (g_t4 237 rfl) rfl), ⟨by decide, by decide, pd_21⟩, by decide⟩
theorem kb_Tu_305 : ab_kb g_G "TurnRing" 305 mt_Tu_hoursSeen 4 := ⟨g_good, cd_Tu_hoursSeen, g_memT (g_t1 1 rfl) rfl, Or.inl (g_memT (g_t5 0 rfl) rfl), ⟨by decide, by decide, pd_52⟩, by decide⟩
theorem kb_La_118 : ab_kb g_G "TurnRingLaw" 118 mt_Tu_diary 4 := ⟨g_good, cd_Tu_diary, g_memT (g_t1 1 rfl) rfl, Or.inl (g_memT (g_t5 4 rfl) rfl), ⟨by decide, by decide, pd_53⟩, by decide⟩
theorem kb_Tu_309 : ab_kb g_G "TurnRing" 309 mt_Di_write 4 := ⟨g_good, cd_Di_write, g_memT (g_t1 4 rfl) rfl, Or.inl (g_memT (g_t5 8 rfl) rfl), ⟨by decide, by decide, pd_54⟩, by decide⟩
theorem kb_La_123 : ab_kb g_G "TurnRingLaw" 123 mt_Tu_turned 1 := ⟨g_good, cd_Tu_turned, g_memT (g_t1 1 rfl) rfl, Or.inl (g_memT (g_t5 12 rfl) rfl), ⟨by decide, by decide, pd_3⟩, by decide⟩
theorem kb_Tu_313 : ab_kb g_G "TurnRing" 313 mt_Gu_findTurns 1 := ⟨g_good, cd_Gu_findTurns, g_memT (g_t1 10 rfl) rfl, Or.inl (g_memT (g_t5 16 rfl) rfl), ⟨by decide, by decide, pd_44⟩, by decide⟩
theorem kb_Gu_25 : ab_kb g_G "TurnRing$Guesser" 25 mt_Gu_fitsDiary 3 := ⟨g_good, cd_Gu_fitsDiary, g_memT (g_t1 10 rfl) rfl, Or.inl (g_memT (g_t5 20 rfl) rfl), ⟨by decide, by decide, pd_17⟩, by decide⟩
theorem kb_Gu_60 : ab_kb g_G "TurnRing$Guesser" 60 mt_Gu_sortsSeen 5 := ⟨g_good, cd_Gu_sortsSeen, g_memT (g_t1 10 rfl) rfl, Or.inl (g_memT (g_t5 23 rfl) rfl), ⟨by decide, by decide, pd_55⟩, by decide⟩
theorem kb_Gu_34 : ab_kb g_G "TurnRing$Guesser" 34 mt_Tu_wrapped 1 := ⟨g_good, cd_Tu_wrapped, g_memT (g_t1 1 rfl) rfl, Or.inr ⟨_, g_memM (g_t5 26 rfl) rfl⟩, ⟨by decide, by decide, pd_3⟩, by decide⟩
theorem kb_Gu_38 : ab_kb g_G "TurnRing$Guesser" 38 mt_Tu_facedBy 2 := ⟨g_good, cd_Tu_facedBy, g_memT (g_t1 1 rfl) rfl, Or.inr ⟨_, g_memM (g_t5 27 rfl) rfl⟩, ⟨by decide, by decide, pd_19⟩, by decide⟩
theorem kb_Gu_42 : ab_kb g_G "TurnRing$Guesser" 42 mt_Ri_sortsAt 2 := ⟨g_good, cd_Ri_sortsAt, g_memT (g_t1 3 rfl) rfl, Or.inl (g_memT (g_t5 28 rfl) rfl), ⟨by decide, by decide, pd_19⟩, by decide⟩
theorem kb_La_127 : ab_kb g_G "TurnRingLaw" 127 mt_Tu_look 2 := ⟨g_good, cd_Tu_look, g_memT (g_t1 1 rfl) rfl, Or.inl (g_memT (g_t5 29 rfl) rfl), ⟨by decide, by decide, pd_19⟩, by decide⟩
theorem kb_Tu_324 : ab_kb g_G "TurnRing" 324 mt_Gu_findLook 2 := ⟨g_good, cd_Gu_findLook, g_memT (g_t1 10 rfl) rfl, Or.inl (g_memT (g_t5 33 rfl) rfl), ⟨by decide, by decide, pd_56⟩, by decide⟩
theorem kb_Gu_70 : ab_kb g_G "TurnRing$Guesser" 70 mt_Ar_fill_AIIV 2 := ⟨g_good, cd_Ar_fill_AIIV, g_memT (g_t1 17 rfl) rfl, Or.inl (g_memT (g_t5 37 rfl) rfl), ⟨by decide, by decide, pd_15⟩, by decide⟩
theorem kb_La_135 : ab_kb g_G "TurnRingLaw" 135 mt_Tu_days 4 := ⟨g_good, cd_Tu_days, g_memT (g_t1 1 rfl) rfl, Or.inl (g_memT (g_t5 39 rfl) rfl), ⟨by decide, by decide, pd_32⟩, by decide⟩
theorem kb_Tu_335 : ab_kb g_G "TurnRing" 335 mt_Tu_nextDraw 1 := ⟨g_good, cd_Tu_nextDraw, g_memT (g_t1 1 rfl) rfl, Or.inl (g_memT (g_t5 44 rfl) rfl), ⟨by decide, by decide, pd_3⟩, by decide⟩
theorem kb_Tu_339 : ab_kb g_G "TurnRing" 339 mt_Tu_wrapped 1 := ⟨g_good, cd_Tu_wrapped, g_memT (g_t1 1 rfl) rfl, Or.inl (g_memT (g_t5 51 rfl) rfl), ⟨by decide, by decide, pd_3⟩, by decide⟩
theorem kb_La_12 : ab_kb g_G "TurnRingLaw" 12 mt_Mo_init 0 := ⟨g_good, cd_Mo_init, g_memT (g_t1 11 rfl) rfl, Or.inl (g_memT (g_t5 54 rfl) rfl), ⟨by decide, by decide, pd_0⟩, by decide⟩
theorem kb_La_17 : ab_kb g_G "TurnRingLaw" 17 mt_Mo_feed 5 := ⟨g_good, cd_Mo_feed, g_memT (g_t1 11 rfl) rfl, Or.inl (g_memT (g_t5 170 rfl) rfl), ⟨by decide, by decide, pd_1⟩, by decide⟩
theorem kb_Mo_80 : ab_kb g_G "TurnRingModel" 80 mt_Mo_four 1 := ⟨g_good, cd_Mo_four, g_memT (g_t1 11 rfl) rfl, Or.inl (g_memT (g_t5 174 rfl) rfl), ⟨by decide, by decide, pd_2⟩, by decide⟩
theorem kb_La_22 : ab_kb g_G "TurnRingLaw" 22 mt_Mo_end 1 := ⟨g_good, cd_Mo_end, g_memT (g_t1 11 rfl) rfl, Or.inl (g_memT (g_t5 178 rfl) rfl), ⟨by decide, by decide, pd_3⟩, by decide⟩
theorem kb_La_31 : ab_kb g_G "TurnRingLaw" 31 mt_Mo_rule 0 := ⟨g_good, cd_Mo_rule, g_memT (g_t1 11 rfl) rfl, Or.inl (g_memT (g_t5 182 rfl) rfl), ⟨by decide, by decide, pd_4⟩, by decide⟩
theorem kb_Mo_269 : ab_kb g_G "TurnRingModel" 269 mt_Mo_readsAll 0 := ⟨g_good, cd_Mo_readsAll, g_memT (g_t1 11 rfl) rfl, Or.inl (g_memT (g_t5 186 rfl) rfl), ⟨by decide, by decide, pd_9⟩, by decide⟩
theorem kb_Mo_263 : ab_kb g_G "TurnRingModel" 263 mt_Mo_clauseHere 0 := ⟨g_good, cd_Mo_clauseHere, g_memT (g_t1 11 rfl) rfl, Or.inl (g_memT (g_t5 190 rfl) rfl), ⟨by decide, by decide, pd_9⟩, by decide⟩
theorem kb_Mo_90 : ab_kb g_G "TurnRingModel" 90 mt_Mo_see 0 := ⟨g_good, cd_Mo_see, g_memT (g_t1 11 rfl) rfl, Or.inl (g_memT (g_t5 194 rfl) rfl), ⟨by decide, by decide, pd_4⟩, by decide⟩
theorem kb_Mo_249 : ab_kb g_G "TurnRingModel" 249 mt_Mo_isRingWord 0 := ⟨g_good, cd_Mo_isRingWord, g_memT (g_t1 11 rfl) rfl, Or.inl (g_memT (g_t5 198 rfl) rfl), ⟨by decide, by decide, pd_9⟩, by decide⟩
theorem kb_Mo_98 : ab_kb g_G "TurnRingModel" 98 mt_Mo_isWord 1 := ⟨g_good, cd_Mo_isWord, g_memT (g_t1 11 rfl) rfl, Or.inl (g_memT (g_t5 203 rfl) rfl), ⟨by decide, by decide, pd_57⟩, by decide⟩
theorem kb_Mo_94 : ab_kb g_G "TurnRingModel" 94 mt_Mo_isLetter 1 := ⟨g_good, cd_Mo_isLetter, g_memT (g_t1 11 rfl) rfl, Or.inl (g_memT (g_t5 207 rfl) rfl), ⟨by decide, by decide, pd_21⟩, by decide⟩
theorem kb_Mo_108 : ab_kb g_G "TurnRingModel" 108 mt_Mo_fails 2 := ⟨g_good, cd_Mo_fails, g_memT (g_t1 11 rfl) rfl, Or.inl (g_memT (g_t5 218 rfl) rfl), ⟨by decide, by decide, pd_33⟩, by decide⟩
theorem kb_Mo_257 : ab_kb g_G "TurnRingModel" 257 mt_Mo_ringLineHere 1 := ⟨g_good, cd_Mo_ringLineHere, g_memT (g_t1 11 rfl) rfl, Or.inl (g_memT (g_t5 222 rfl) rfl), ⟨by decide, by decide, pd_21⟩, by decide⟩
theorem kb_Mo_221 : ab_kb g_G "TurnRingModel" 221 mt_Mo_isRingHere 1 := ⟨g_good, cd_Mo_isRingHere, g_memT (g_t1 11 rfl) rfl, Or.inl (g_memT (g_t5 226 rfl) rfl), ⟨by decide, by decide, pd_21⟩, by decide⟩
theorem kb_Mo_102 : ab_kb g_G "TurnRingModel" 102 mt_Mo_passWord 0 := ⟨g_good, cd_Mo_passWord, g_memT (g_t1 11 rfl) rfl, Or.inl (g_memT (g_t5 230 rfl) rfl), ⟨by decide, by decide, pd_0⟩, by decide⟩
theorem kb_Mo_215 : ab_kb g_G "TurnRingModel" 215 mt_Mo_cellHere 3 := ⟨g_good, cd_Mo_cellHere, g_memT (g_t1 11 rfl) rfl, Or.inl (g_memT (g_t5 234 rfl) rfl), ⟨by decide, by decide, pd_50⟩, by decide⟩
theorem kb_Mo_164 : ab_kb g_G "TurnRingModel" 164 mt_Mo_numberHere 2 := ⟨g_good, cd_Mo_numberHere, g_memT (g_t1 11 rfl) rfl, Or.inl (g_memT (g_t5 238 rfl) rfl), ⟨by decide, by decide, pd_33⟩, by decide⟩
theorem kb_Mo_105 : ab_kb g_G "TurnRingModel" 105 mt_Mo_isDigit 1 := ⟨g_good, cd_Mo_isDigit, g_memT (g_t1 11 rfl) rfl, Or.inl (g_memT (g_t6 2 rfl) rfl), ⟨by decide, by decide, pd_21⟩, by decide⟩
theorem kb_Mo_115 : ab_kb g_G "TurnRingModel" 115 mt_Mo_in 3 := ⟨g_good, cd_Mo_in, g_memT (g_t1 11 rfl) rfl, Or.inl (g_memT (g_t6 6 rfl) rfl), ⟨by decide, by decide, pd_58⟩, by decide⟩
theorem kb_Mo_226 : ab_kb g_G "TurnRingModel" 226 mt_Mo_isHouseHere 1 := ⟨g_good, cd_Mo_isHouseHere, g_memT (g_t1 11 rfl) rfl, Or.inl (g_memT (g_t6 9 rfl) rfl), ⟨by decide, by decide, pd_21⟩, by decide⟩
theorem kb_Mo_231 : ab_kb g_G "TurnRingModel" 231 mt_Mo_isSightHere 1 := ⟨g_good, cd_Mo_isSightHere, g_memT (g_t1 11 rfl) rfl, Or.inl (g_memT (g_t6 13 rfl) rfl), ⟨by decide, by decide, pd_21⟩, by decide⟩
theorem kb_Mo_236 : ab_kb g_G "TurnRingModel" 236 mt_Mo_isLikeHere 1 := ⟨g_good, cd_Mo_isLikeHere, g_memT (g_t1 11 rfl) rfl, Or.inl (g_memT (g_t6 17 rfl) rfl), ⟨by decide, by decide, pd_21⟩, by decide⟩
theorem kb_Mo_243 : ab_kb g_G "TurnRingModel" 243 mt_Mo_isGateHere 0 := ⟨g_good, cd_Mo_isGateHere, g_memT (g_t1 11 rfl) rfl, Or.inl (g_memT (g_t6 21 rfl) rfl), ⟨by decide, by decide, pd_9⟩, by decide⟩
theorem kb_Mo_246 : ab_kb g_G "TurnRingModel" 246 mt_Mo_isRateHere 0 := ⟨g_good, cd_Mo_isRateHere, g_memT (g_t1 11 rfl) rfl, Or.inl (g_memT (g_t6 25 rfl) rfl), ⟨by decide, by decide, pd_9⟩, by decide⟩
theorem kb_Mo_260 : ab_kb g_G "TurnRingModel" 260 mt_Mo_isTurnHere 0 := ⟨g_good, cd_Mo_isTurnHere, g_memT (g_t1 11 rfl) rfl, Or.inl (g_memT (g_t6 29 rfl) rfl), ⟨by decide, by decide, pd_9⟩, by decide⟩
theorem kb_Mo_180 : ab_kb g_G "TurnRingModel" 180 mt_Mo_sum 0 := ⟨g_good, cd_Mo_sum, g_memT (g_t1 11 rfl) rfl, Or.inl (g_memT (g_t6 33 rfl) rfl), ⟨by decide, by decide, pd_9⟩, by decide⟩
theorem kb_Mo_177 : ab_kb g_G "TurnRingModel" 177 mt_Mo_term 0 := ⟨g_good, cd_Mo_term, g_memT (g_t1 11 rfl) rfl, Or.inl (g_memT (g_t6 37 rfl) rfl), ⟨by decide, by decide, pd_9⟩, by decide⟩
theorem kb_Mo_173 : ab_kb g_G "TurnRingModel" 173 mt_Mo_value 0 := ⟨g_good, cd_Mo_value, g_memT (g_t1 11 rfl) rfl, Or.inl (g_memT (g_t6 41 rfl) rfl), ⟨by decide, by decide, pd_9⟩, by decide⟩
theorem kb_Mo_167 : ab_kb g_G "TurnRingModel" 167 mt_Mo_makes 1 := ⟨g_good, cd_Mo_makes, g_memT (g_t1 11 rfl) rfl, Or.inl (g_memT (g_t6 46 rfl) rfl), ⟨by decide, by decide, pd_21⟩, by decide⟩
theorem kb_Mo_159 : ab_kb g_G "TurnRingModel" 159 mt_Mo_puts 2 := ⟨g_good, cd_Mo_puts, g_memT (g_t1 11 rfl) rfl, Or.inl (g_memT (g_t6 50 rfl) rfl), ⟨by decide, by decide, pd_11⟩, by decide⟩
theorem kb_Mo_170 : ab_kb g_G "TurnRingModel" 170 mt_Mo_wordHere 0 := ⟨g_good, cd_Mo_wordHere, g_memT (g_t1 11 rfl) rfl, Or.inl (g_memT (g_t6 54 rfl) rfl), ⟨by decide, by decide, pd_4⟩, by decide⟩
theorem kb_Mo_209 : ab_kb g_G "TurnRingModel" 209 mt_Mo_takesWord 1 := ⟨g_good, cd_Mo_takesWord, g_memT (g_t1 11 rfl) rfl, Or.inl (g_memT (g_t6 70 rfl) rfl), ⟨by decide, by decide, pd_57⟩, by decide⟩
theorem kb_Mo_212 : ab_kb g_G "TurnRingModel" 212 mt_Mo_tested 0 := ⟨g_good, cd_Mo_tested, g_memT (g_t1 11 rfl) rfl, Or.inl (g_memT (g_t6 74 rfl) rfl), ⟨by decide, by decide, pd_9⟩, by decide⟩
theorem kb_Mo_197 : ab_kb g_G "TurnRingModel" 197 mt_Mo_fact 0 := ⟨g_good, cd_Mo_fact, g_memT (g_t1 11 rfl) rfl, Or.inl (g_memT (g_t6 78 rfl) rfl), ⟨by decide, by decide, pd_9⟩, by decide⟩
theorem kb_Mo_185 : ab_kb g_G "TurnRingModel" 185 mt_Mo_opens 1 := ⟨g_good, cd_Mo_opens, g_memT (g_t1 11 rfl) rfl, Or.inl (g_memT (g_t6 83 rfl) rfl), ⟨by decide, by decide, pd_21⟩, by decide⟩
theorem kb_Mo_188 : ab_kb g_G "TurnRingModel" 188 mt_Mo_compare 0 := ⟨g_good, cd_Mo_compare, g_memT (g_t1 11 rfl) rfl, Or.inl (g_memT (g_t6 87 rfl) rfl), ⟨by decide, by decide, pd_9⟩, by decide⟩
theorem kb_Mo_200 : ab_kb g_G "TurnRingModel" 200 mt_Mo_closes 0 := ⟨g_good, cd_Mo_closes, g_memT (g_t1 11 rfl) rfl, Or.inl (g_memT (g_t6 91 rfl) rfl), ⟨by decide, by decide, pd_0⟩, by decide⟩
theorem kb_Mo_191 : ab_kb g_G "TurnRingModel" 191 mt_Mo_settles 1 := ⟨g_good, cd_Mo_settles, g_memT (g_t1 11 rfl) rfl, Or.inl (g_memT (g_t6 95 rfl) rfl), ⟨by decide, by decide, pd_2⟩, by decide⟩
theorem kb_Mo_155 : ab_kb g_G "TurnRingModel" 155 mt_Mo_strength 1 := ⟨g_good, cd_Mo_strength, g_memT (g_t1 11 rfl) rfl, Or.inl (g_memT (g_t6 99 rfl) rfl), ⟨by decide, by decide, pd_3⟩, by decide⟩
theorem kb_Mo_194 : ab_kb g_G "TurnRingModel" 194 mt_Mo_isInside 0 := ⟨g_good, cd_Mo_isInside, g_memT (g_t1 11 rfl) rfl, Or.inl (g_memT (g_t6 102 rfl) rfl), ⟨by decide, by decide, pd_9⟩, by decide⟩
theorem kb_La_27 : ab_kb g_G "TurnRingLaw" 27 mt_Mo_ring 0 := ⟨g_good, cd_Mo_ring, g_memT (g_t1 11 rfl) rfl, Or.inl (g_memT (g_t6 108 rfl) rfl), ⟨by decide, by decide, pd_4⟩, by decide⟩
theorem kb_La_36 : ab_kb g_G "TurnRingLaw" 36 mt_Mo_house 2 := ⟨g_good, cd_Mo_house, g_memT (g_t1 11 rfl) rfl, Or.inl (g_memT (g_t6 112 rfl) rfl), ⟨by decide, by decide, pd_19⟩, by decide⟩
theorem kb_Mo_316 : ab_kb g_G "TurnRingModel" 316 mt_Mo_isHouse 1 := ⟨g_good, cd_Mo_isHouse, g_memT (g_t1 11 rfl) rfl, Or.inl (g_memT (g_t6 116 rfl) rfl), ⟨by decide, by decide, pd_21⟩, by decide⟩
theorem kb_Mo_300 : ab_kb g_G "TurnRingModel" 300 mt_Mo_facesOf 1 := ⟨g_good, cd_Mo_facesOf, g_memT (g_t1 11 rfl) rfl, Or.inl (g_memT (g_t6 120 rfl) rfl), ⟨by decide, by decide, pd_3⟩, by decide⟩
theorem kb_Mo_297 : ab_kb g_G "TurnRingModel" 297 mt_Mo_round 1 := ⟨g_good, cd_Mo_round, g_memT (g_t1 11 rfl) rfl, Or.inl (g_memT (g_t6 124 rfl) rfl), ⟨by decide, by decide, pd_3⟩, by decide⟩
theorem kb_Mo_290 : ab_kb g_G "TurnRingModel" 290 mt_Mo_sortsAt 2 := ⟨g_good, cd_Mo_sortsAt, g_memT (g_t1 11 rfl) rfl, Or.inl (g_memT (g_t6 127 rfl) rfl), ⟨by decide, by decide, pd_19⟩, by decide⟩
theorem kb_Mo_307 : ab_kb g_G "TurnRingModel" 307 mt_Mo_likesOf 1 := ⟨g_good, cd_Mo_likesOf, g_memT (g_t1 11 rfl) rfl, Or.inl (g_memT (g_t6 131 rfl) rfl), ⟨by decide, by decide, pd_3⟩, by decide⟩
theorem kb_Mo_303 : ab_kb g_G "TurnRingModel" 303 mt_Mo_likesAt 3 := ⟨g_good, cd_Mo_likesAt, g_memT (g_t1 11 rfl) rfl, Or.inl (g_memT (g_t6 135 rfl) rfl), ⟨by decide, by decide, pd_51⟩, by decide⟩
theorem kb_Mo_294 : ab_kb g_G "TurnRingModel" 294 mt_Mo_isOf 2 := ⟨g_good, cd_Mo_isOf, g_memT (g_t1 11 rfl) rfl, Or.inl (g_memT (g_t6 139 rfl) rfl), ⟨by decide, by decide, pd_33⟩, by decide⟩
theorem kb_Mo_313 : ab_kb g_G "TurnRingModel" 313 mt_Mo_wantsStay 1 := ⟨g_good, cd_Mo_wantsStay, g_memT (g_t1 11 rfl) rfl, Or.inl (g_memT (g_t6 142 rfl) rfl), ⟨by decide, by decide, pd_21⟩, by decide⟩
theorem kb_Mo_310 : ab_kb g_G "TurnRingModel" 310 mt_Mo_rateNow 0 := ⟨g_good, cd_Mo_rateNow, g_memT (g_t1 11 rfl) rfl, Or.inl (g_memT (g_t6 146 rfl) rfl), ⟨by decide, by decide, pd_4⟩, by decide⟩
theorem kb_La_40 : ab_kb g_G "TurnRingLaw" 40 mt_Mo_direction 2 := ⟨g_good, cd_Mo_direction, g_memT (g_t1 11 rfl) rfl, Or.inl (g_memT (g_t6 152 rfl) rfl), ⟨by decide, by decide, pd_19⟩, by decide⟩
theorem kb_Mo_323 : ab_kb g_G "TurnRingModel" 323 mt_Mo_isRing 0 := ⟨g_good, cd_Mo_isRing, g_memT (g_t1 11 rfl) rfl, Or.inl (g_memT (g_t6 156 rfl) rfl), ⟨by decide, by decide, pd_9⟩, by decide⟩
theorem kb_La_44 : ab_kb g_G "TurnRingLaw" 44 mt_Mo_rateOf 1 := ⟨g_good, cd_Mo_rateOf, g_memT (g_t1 11 rfl) rfl, Or.inl (g_memT (g_t6 162 rfl) rfl), ⟨by decide, by decide, pd_3⟩, by decide⟩
theorem kb_La_48 : ab_kb g_G "TurnRingLaw" 48 mt_Mo_worn 1 := ⟨g_good, cd_Mo_worn, g_memT (g_t1 11 rfl) rfl, Or.inl (g_memT (g_t6 167 rfl) rfl), ⟨by decide, by decide, pd_3⟩, by decide⟩
theorem kb_La_70 : ab_kb g_G "TurnRingLaw" 70 mt_Mo_undo 0 := ⟨g_good, cd_Mo_undo, g_memT (g_t1 11 rfl) rfl, Or.inl (g_memT (g_t6 171 rfl) rfl), ⟨by decide, by decide, pd_4⟩, by decide⟩
theorem kb_La_52 : ab_kb g_G "TurnRingLaw" 52 mt_Mo_hour 0 := ⟨g_good, cd_Mo_hour, g_memT (g_t1 11 rfl) rfl, Or.inl (g_memT (g_t6 175 rfl) rfl), ⟨by decide, by decide, pd_4⟩, by decide⟩
theorem kb_Mo_341 : ab_kb g_G "TurnRingModel" 341 mt_Mo_canGo 1 := ⟨g_good, cd_Mo_canGo, g_memT (g_t1 11 rfl) rfl, Or.inl (g_memT (g_t6 179 rfl) rfl), ⟨by decide, by decide, pd_21⟩, by decide⟩
theorem kb_Mo_344 : ab_kb g_G "TurnRingModel" 344 mt_Mo_keepsAct 0 := ⟨g_good, cd_Mo_keepsAct, g_memT (g_t1 11 rfl) rfl, Or.inl (g_memT (g_t6 183 rfl) rfl), ⟨by decide, by decide, pd_0⟩, by decide⟩
theorem kb_Mo_347 : ab_kb g_G "TurnRingModel" 347 mt_Mo_passes 0 := ⟨g_good, cd_Mo_passes, g_memT (g_t1 11 rfl) rfl, Or.inl (g_memT (g_t6 187 rfl) rfl), ⟨by decide, by decide, pd_4⟩, by decide⟩
theorem kb_Mo_338 : ab_kb g_G "TurnRingModel" 338 mt_Mo_passesAt 1 := ⟨g_good, cd_Mo_passesAt, g_memT (g_t1 11 rfl) rfl, Or.inl (g_memT (g_t6 191 rfl) rfl), ⟨by decide, by decide, pd_3⟩, by decide⟩
theorem kb_Mo_332 : ab_kb g_G "TurnRingModel" 332 mt_Mo_turns 1 := ⟨g_good, cd_Mo_turns, g_memT (g_t1 11 rfl) rfl, Or.inl (g_memT (g_t6 195 rfl) rfl), ⟨by decide, by decide, pd_2⟩, by decide⟩
theorem kb_Mo_335 : ab_kb g_G "TurnRingModel" 335 mt_Mo_goesOn 0 := ⟨g_good, cd_Mo_goesOn, g_memT (g_t1 11 rfl) rfl, Or.inl (g_memT (g_t6 199 rfl) rfl), ⟨by decide, by decide, pd_0⟩, by decide⟩
theorem kb_La_56 : ab_kb g_G "TurnRingLaw" 56 mt_Mo_rate 2 := ⟨g_good, cd_Mo_rate, g_memT (g_t1 11 rfl) rfl, Or.inl (g_memT (g_t6 203 rfl) rfl), ⟨by decide, by decide, pd_19⟩, by decide⟩
theorem kb_La_61 : ab_kb g_G "TurnRingLaw" 61 mt_Mo_swap 2 := ⟨g_good, cd_Mo_swap, g_memT (g_t1 11 rfl) rfl, Or.inl (g_memT (g_t6 209 rfl) rfl), ⟨by decide, by decide, pd_33⟩, by decide⟩
theorem kb_La_66 : ab_kb g_G "TurnRingLaw" 66 mt_Mo_stop 0 := ⟨g_good, cd_Mo_stop, g_memT (g_t1 11 rfl) rfl, Or.inl (g_memT (g_t6 213 rfl) rfl), ⟨by decide, by decide, pd_9⟩, by decide⟩
theorem kb_La_74 : ab_kb g_G "TurnRingLaw" 74 mt_Mo_run 2 := ⟨g_good, cd_Mo_run, g_memT (g_t1 11 rfl) rfl, Or.inl (g_memT (g_t6 217 rfl) rfl), ⟨by decide, by decide, pd_19⟩, by decide⟩
theorem kb_Mo_380 : ab_kb g_G "TurnRingModel" 380 mt_Mo_isRule 1 := ⟨g_good, cd_Mo_isRule, g_memT (g_t1 11 rfl) rfl, Or.inl (g_memT (g_t6 221 rfl) rfl), ⟨by decide, by decide, pd_21⟩, by decide⟩
theorem kb_Mo_385 : ab_kb g_G "TurnRingModel" 385 mt_Mo_passesBy 1 := ⟨g_good, cd_Mo_passesBy, g_memT (g_t1 11 rfl) rfl, Or.inl (g_memT (g_t6 226 rfl) rfl), ⟨by decide, by decide, pd_2⟩, by decide⟩
theorem kb_Mo_373 : ab_kb g_G "TurnRingModel" 373 mt_Mo_words 0 := ⟨g_good, cd_Mo_words, g_memT (g_t1 11 rfl) rfl, Or.inl (g_memT (g_t6 230 rfl) rfl), ⟨by decide, by decide, pd_0⟩, by decide⟩
theorem kb_Mo_354 : ab_kb g_G "TurnRingModel" 354 mt_Mo_allLike 0 := ⟨g_good, cd_Mo_allLike, g_memT (g_t1 11 rfl) rfl, Or.inl (g_memT (g_t6 234 rfl) rfl), ⟨by decide, by decide, pd_4⟩, by decide⟩
theorem kb_Mo_357 : ab_kb g_G "TurnRingModel" 357 mt_Mo_whoStay 0 := ⟨g_good, cd_Mo_whoStay, g_memT (g_t1 11 rfl) rfl, Or.inl (g_memT (g_t6 238 rfl) rfl), ⟨by decide, by decide, pd_4⟩, by decide⟩
theorem kb_Mo_360 : ab_kb g_G "TurnRingModel" 360 mt_Mo_votesOf 1 := ⟨g_good, cd_Mo_votesOf, g_memT (g_t1 11 rfl) rfl, Or.inl (g_memT (g_t7 2 rfl) rfl), ⟨by decide, by decide, pd_3⟩, by decide⟩
theorem kb_Mo_363 : ab_kb g_G "TurnRingModel" 363 mt_Mo_everyHouse 0 := ⟨g_good, cd_Mo_everyHouse, g_memT (g_t1 11 rfl) rfl, Or.inl (g_memT (g_t7 6 rfl) rfl), ⟨by decide, by decide, pd_4⟩, by decide⟩
theorem kb_Mo_366 : ab_kb g_G "TurnRingModel" 366 mt_Mo_atGates 0 := ⟨g_good, cd_Mo_atGates, g_memT (g_t1 11 rfl) rfl, Or.inl (g_memT (g_t7 10 rfl) rfl), ⟨by decide, by decide, pd_4⟩, by decide⟩
theorem kb_Mo_376 : ab_kb g_G "TurnRingModel" 376 mt_Mo_summedBy 1 := ⟨g_good, cd_Mo_summedBy, g_memT (g_t1 11 rfl) rfl, Or.inl (g_memT (g_t7 14 rfl) rfl), ⟨by decide, by decide, pd_59⟩, by decide⟩
theorem kb_Mo_369 : ab_kb g_G "TurnRingModel" 369 mt_Mo_reckons 3 := ⟨g_good, cd_Mo_reckons, g_memT (g_t1 11 rfl) rfl, Or.inl (g_memT (g_t7 18 rfl) rfl), ⟨by decide, by decide, pd_60⟩, by decide⟩
theorem kb_Mo_278 : ab_kb g_G "TurnRingModel" 278 mt_Mo_push 1 := ⟨g_good, cd_Mo_push, g_memT (g_t1 11 rfl) rfl, Or.inl (g_memT (g_t7 22 rfl) rfl), ⟨by decide, by decide, pd_37⟩, by decide⟩
theorem kb_Mo_282 : ab_kb g_G "TurnRingModel" 282 mt_Mo_pop 0 := ⟨g_good, cd_Mo_pop, g_memT (g_t1 11 rfl) rfl, Or.inl (g_memT (g_t7 26 rfl) rfl), ⟨by decide, by decide, pd_39⟩, by decide⟩
theorem kb_Mo_286 : ab_kb g_G "TurnRingModel" 286 mt_Mo_one 3 := ⟨g_good, cd_Mo_one, g_memT (g_t1 11 rfl) rfl, Or.inl (g_memT (g_t7 30 rfl) rfl), ⟨by decide, by decide, pd_43⟩, by decide⟩
theorem kb_La_78 : ab_kb g_G "TurnRingLaw" 78 mt_Mo_faces 2 := ⟨g_good, cd_Mo_faces, g_memT (g_t1 11 rfl) rfl, Or.inl (g_memT (g_t7 33 rfl) rfl), ⟨by decide, by decide, pd_19⟩, by decide⟩
theorem kb_Mo_390 : ab_kb g_G "TurnRingModel" 390 mt_Mo_keeps 0 := ⟨g_good, cd_Mo_keeps, g_memT (g_t1 11 rfl) rfl, Or.inl (g_memT (g_t7 38 rfl) rfl), ⟨by decide, by decide, pd_0⟩, by decide⟩
theorem kb_Mo_393 : ab_kb g_G "TurnRingModel" 393 mt_Mo_laysBack 0 := ⟨g_good, cd_Mo_laysBack, g_memT (g_t1 11 rfl) rfl, Or.inl (g_memT (g_t7 42 rfl) rfl), ⟨by decide, by decide, pd_0⟩, by decide⟩
theorem kb_La_82 : ab_kb g_G "TurnRingLaw" 82 mt_Mo_sees 2 := ⟨g_good, cd_Mo_sees, g_memT (g_t1 11 rfl) rfl, Or.inl (g_memT (g_t7 46 rfl) rfl), ⟨by decide, by decide, pd_19⟩, by decide⟩
theorem kb_La_86 : ab_kb g_G "TurnRingLaw" 86 mt_Mo_day 1 := ⟨g_good, cd_Mo_day, g_memT (g_t1 11 rfl) rfl, Or.inl (g_memT (g_t7 50 rfl) rfl), ⟨by decide, by decide, pd_3⟩, by decide⟩
theorem kb_Mo_396 : ab_kb g_G "TurnRingModel" 396 mt_Mo_dayIn 2 := ⟨g_good, cd_Mo_dayIn, g_memT (g_t1 11 rfl) rfl, Or.inl (g_memT (g_t7 54 rfl) rfl), ⟨by decide, by decide, pd_19⟩, by decide⟩
theorem kb_La_91 : ab_kb g_G "TurnRingLaw" 91 mt_Mo_plan 3 := ⟨g_good, cd_Mo_plan, g_memT (g_t1 11 rfl) rfl, Or.inl (g_memT (g_t7 59 rfl) rfl), ⟨by decide, by decide, pd_46⟩, by decide⟩
theorem kb_Mo_400 : ab_kb g_G "TurnRingModel" 400 mt_Mo_third 1 := ⟨g_good, cd_Mo_third, g_memT (g_t1 11 rfl) rfl, Or.inl (g_memT (g_t7 64 rfl) rfl), ⟨by decide, by decide, pd_3⟩, by decide⟩
theorem kb_Mo_408 : ab_kb g_G "TurnRingModel" 408 mt_Mo_worthOf 3 := ⟨g_good, cd_Mo_worthOf, g_memT (g_t1 11 rfl) rfl, Or.inl (g_memT (g_t7 67 rfl) rfl), ⟨by decide, by decide, pd_61⟩, by decide⟩
theorem kb_Mo_403 : ab_kb g_G "TurnRingModel" 403 mt_Mo_digitOf 3 := ⟨g_good, cd_Mo_digitOf, g_memT (g_t1 11 rfl) rfl, Or.inl (g_memT (g_t7 71 rfl) rfl), ⟨by decide, by decide, pd_51⟩, by decide⟩
theorem kb_La_96 : ab_kb g_G "TurnRingLaw" 96 mt_Mo_errand 4 := ⟨g_good, cd_Mo_errand, g_memT (g_t1 11 rfl) rfl, Or.inl (g_memT (g_t7 74 rfl) rfl), ⟨by decide, by decide, pd_32⟩, by decide⟩
theorem kb_Mo_417 : ab_kb g_G "TurnRingModel" 417 mt_Mo_backFrom 3 := ⟨g_good, cd_Mo_backFrom, g_memT (g_t1 11 rfl) rfl, Or.inl (g_memT (g_t7 79 rfl) rfl), ⟨by decide, by decide, pd_51⟩, by decide⟩
theorem kb_Mo_412 : ab_kb g_G "TurnRingModel" 412 mt_Mo_way 2 := ⟨g_good, cd_Mo_way, g_memT (g_t1 11 rfl) rfl, Or.inl (g_memT (g_t7 83 rfl) rfl), ⟨by decide, by decide, pd_19⟩, by decide⟩
theorem kb_La_100 : ab_kb g_G "TurnRingLaw" 100 mt_Mo_stay 1 := ⟨g_good, cd_Mo_stay, g_memT (g_t1 11 rfl) rfl, Or.inl (g_memT (g_t7 86 rfl) rfl), ⟨by decide, by decide, pd_3⟩, by decide⟩
theorem kb_La_104 : ab_kb g_G "TurnRingLaw" 104 mt_Mo_swings 1 := ⟨g_good, cd_Mo_swings, g_memT (g_t1 11 rfl) rfl, Or.inl (g_memT (g_t7 90 rfl) rfl), ⟨by decide, by decide, pd_3⟩, by decide⟩
theorem kb_La_108 : ab_kb g_G "TurnRingLaw" 108 mt_Mo_trade 1 := ⟨g_good, cd_Mo_trade, g_memT (g_t1 11 rfl) rfl, Or.inl (g_memT (g_t7 94 rfl) rfl), ⟨by decide, by decide, pd_3⟩, by decide⟩
theorem kb_Mo_434 : ab_kb g_G "TurnRingModel" 434 mt_Mo_fillsDays 0 := ⟨g_good, cd_Mo_fillsDays, g_memT (g_t1 11 rfl) rfl, Or.inl (g_memT (g_t7 99 rfl) rfl), ⟨by decide, by decide, pd_0⟩, by decide⟩
theorem kb_Mo_437 : ab_kb g_G "TurnRingModel" 437 mt_Mo_gathersTrades 0 := ⟨g_good, cd_Mo_gathersTrades, g_memT (g_t1 11 rfl) rfl, Or.inl (g_memT (g_t7 103 rfl) rfl), ⟨by decide, by decide, pd_0⟩, by decide⟩
theorem kb_Mo_426 : ab_kb g_G "TurnRingModel" 426 mt_Mo_countsRow 0 := ⟨g_good, cd_Mo_countsRow, g_memT (g_t1 11 rfl) rfl, Or.inl (g_memT (g_t7 107 rfl) rfl), ⟨by decide, by decide, pd_0⟩, by decide⟩
theorem kb_Mo_429 : ab_kb g_G "TurnRingModel" 429 mt_Mo_dayNow 1 := ⟨g_good, cd_Mo_dayNow, g_memT (g_t1 11 rfl) rfl, Or.inl (g_memT (g_t7 111 rfl) rfl), ⟨by decide, by decide, pd_3⟩, by decide⟩
theorem kb_La_113 : ab_kb g_G "TurnRingLaw" 113 mt_Mo_spare 3 := ⟨g_good, cd_Mo_spare, g_memT (g_t1 11 rfl) rfl, Or.inl (g_memT (g_t7 115 rfl) rfl), ⟨by decide, by decide, pd_51⟩, by decide⟩
theorem kb_Mo_442 : ab_kb g_G "TurnRingModel" 442 mt_Mo_stepsOf 2 := ⟨g_good, cd_Mo_stepsOf, g_memT (g_t1 11 rfl) rfl, Or.inl (g_memT (g_t7 120 rfl) rfl), ⟨by decide, by decide, pd_19⟩, by decide⟩
theorem kb_Mo_445 : ab_kb g_G "TurnRingModel" 445 mt_Mo_mostWorn 2 := ⟨g_good, cd_Mo_mostWorn, g_memT (g_t1 11 rfl) rfl, Or.inl (g_memT (g_t7 123 rfl) rfl), ⟨by decide, by decide, pd_19⟩, by decide⟩
theorem kb_La_117 : ab_kb g_G "TurnRingLaw" 117 mt_Mo_apart 5 := ⟨g_good, cd_Mo_apart, g_memT (g_t1 11 rfl) rfl, Or.inl (g_memT (g_t7 127 rfl) rfl), ⟨by decide, by decide, pd_1⟩, by decide⟩
theorem kb_Mo_452 : ab_kb g_G "TurnRingModel" 452 mt_Mo_seenBy 4 := ⟨g_good, cd_Mo_seenBy, g_memT (g_t1 11 rfl) rfl, Or.inl (g_memT (g_t7 133 rfl) rfl), ⟨by decide, by decide, pd_32⟩, by decide⟩
theorem kb_La_122 : ab_kb g_G "TurnRingLaw" 122 mt_Mo_diary 4 := ⟨g_good, cd_Mo_diary, g_memT (g_t1 11 rfl) rfl, Or.inl (g_memT (g_t7 137 rfl) rfl), ⟨by decide, by decide, pd_53⟩, by decide⟩
theorem kb_La_126 : ab_kb g_G "TurnRingLaw" 126 mt_Mo_turned 1 := ⟨g_good, cd_Mo_turned, g_memT (g_t1 11 rfl) rfl, Or.inl (g_memT (g_t7 142 rfl) rfl), ⟨by decide, by decide, pd_3⟩, by decide⟩
theorem kb_Mo_462 : ab_kb g_G "TurnRingModel" 462 mt_Mo_fitsDiary 1 := ⟨g_good, cd_Mo_fitsDiary, g_memT (g_t1 11 rfl) rfl, Or.inl (g_memT (g_t7 146 rfl) rfl), ⟨by decide, by decide, pd_21⟩, by decide⟩
theorem kb_Mo_458 : ab_kb g_G "TurnRingModel" 458 mt_Mo_sawBy 4 := ⟨g_good, cd_Mo_sawBy, g_memT (g_t1 11 rfl) rfl, Or.inl (g_memT (g_t7 150 rfl) rfl), ⟨by decide, by decide, pd_62⟩, by decide⟩
theorem kb_La_130 : ab_kb g_G "TurnRingLaw" 130 mt_Mo_look 2 := ⟨g_good, cd_Mo_look, g_memT (g_t1 11 rfl) rfl, Or.inl (g_memT (g_t7 154 rfl) rfl), ⟨by decide, by decide, pd_19⟩, by decide⟩
theorem kb_La_134 : ab_kb g_G "TurnRingLaw" 134 mt_Mo_seed 1 := ⟨g_good, cd_Mo_seed, g_memT (g_t1 11 rfl) rfl, Or.inl (g_memT (g_t7 158 rfl) rfl), ⟨by decide, by decide, pd_3⟩, by decide⟩
theorem kb_La_138 : ab_kb g_G "TurnRingLaw" 138 mt_Mo_days 4 := ⟨g_good, cd_Mo_days, g_memT (g_t1 11 rfl) rfl, Or.inl (g_memT (g_t7 162 rfl) rfl), ⟨by decide, by decide, pd_32⟩, by decide⟩
theorem kb_Mo_481 : ab_kb g_G "TurnRingModel" 481 mt_Mo_draw 1 := ⟨g_good, cd_Mo_draw, g_memT (g_t1 11 rfl) rfl, Or.inl (g_memT (g_t7 167 rfl) rfl), ⟨by decide, by decide, pd_3⟩, by decide⟩
theorem kb_La_142 : ab_kb g_G "TurnRingLaw" 142 mt_Mo_count 1 := ⟨g_good, cd_Mo_count, g_memT (g_t1 11 rfl) rfl, Or.inl (g_memT (g_t7 175 rfl) rfl), ⟨by decide, by decide, pd_3⟩, by decide⟩
theorem kb_La_146 : ab_kb g_G "TurnRingLaw" 146 mt_Mo_image 1 := ⟨g_good, cd_Mo_image, g_memT (g_t1 11 rfl) rfl, Or.inl (g_memT (g_t7 179 rfl) rfl), ⟨by decide, by decide, pd_3⟩, by decide⟩
theorem kb_La_150 : ab_kb g_G "TurnRingLaw" 150 mt_Mo_back 1 := ⟨g_good, cd_Mo_back, g_memT (g_t1 11 rfl) rfl, Or.inl (g_memT (g_t7 183 rfl) rfl), ⟨by decide, by decide, pd_3⟩, by decide⟩
theorem nw_La_7 : ab_nw g_G "TurnRingLaw" 7 10 13 df_Tu := ⟨"TurnRing", tf_Tu, ty_Tu, rfl, uw_Tu, tk_Tu, g_memT (g_t1 22 rfl) rfl, g_memT (g_t1 23 rfl) rfl, g_memT (g_t1 1 rfl) rfl, dk_Tu⟩
theorem nw_Tu_7 : ab_nw g_G "TurnRing" 7 8 9 df_Ta := ⟨"TurnRing$Tape", tf_Ta, ty_Ta, rfl, uw_Ta, tk_Ta, g_memT (g_t1 30 rfl) rfl, g_memT (g_t1 31 rfl) rfl, g_memT (g_t1 2 rfl) rfl, dk_Ta⟩
theorem nw_Tu_16 : ab_nw g_G "TurnRing" 16 5 18 df_Ri := ⟨"TurnRing$Ring", tf_Ri, ty_Ri, rfl, uw_Ri, tk_Ri, g_memT (g_t1 75 rfl) rfl, g_memT (g_t1 76 rfl) rfl, g_memT (g_t1 3 rfl) rfl, dk_Ri⟩
theorem cw_Tu_16 : Cond.classLink "TurnRing" 16 "TurnRing$Ring" ∈ g_G.2.1 := g_memT (g_t1 75 rfl) rfl
theorem nw_Ri_34 : ab_nw g_G "TurnRing$Ring" 34 1 5 df_Di := ⟨"TurnRing$Diary", tf_Di, ty_Di, rfl, uw_Di, tk_Di, g_memT (g_t1 81 rfl) rfl, g_memT (g_t1 82 rfl) rfl, g_memT (g_t1 4 rfl) rfl, dk_Di⟩
theorem nw_Tu_34 : ab_nw g_G "TurnRing" 34 6 1 df_Ro := ⟨"TurnRing$Rule", tf_Ro, ty_Ro, rfl, uw_Ro, tk_Ro, g_memT (g_t1 207 rfl) rfl, g_memT (g_t3 97 rfl) rfl, g_memT (g_t1 19 rfl) rfl, dk_Ro⟩
theorem cw_Tu_34 : Cond.classLink "TurnRing" 34 "TurnRing$Rule" ∈ g_G.2.1 := g_memT (g_t1 207 rfl) rfl
theorem nw_Tu_40 : ab_nw g_G "TurnRing" 40 0 5 df_Ac := ⟨"TurnRing$ActLog", tf_Ac, ty_Ac, rfl, uw_Ac, tk_Ac, g_memT (g_t1 209 rfl) rfl, g_memT (g_t1 210 rfl) rfl, g_memT (g_t1 5 rfl) rfl, dk_Ac⟩
theorem nw_Tu_47 : ab_nw g_G "TurnRing" 47 7 3 df_Ru := ⟨"TurnRing$RuleReader", tf_Ru, ty_Ru, rfl, uw_Ru, tk_Ru, g_memT (g_t1 233 rfl) rfl, g_memT (g_t1 234 rfl) rfl, g_memT (g_t1 6 rfl) rfl, dk_Ru⟩
theorem nw_Tu_54 : ab_nw g_G "TurnRing" 54 3 2 df_Ma := ⟨"TurnRing$Machine", tf_Ma, ty_Ma, rfl, uw_Ma, tk_Ma, g_memT (g_t2 9 rfl) rfl, g_memT (g_t2 10 rfl) rfl, g_memT (g_t1 7 rfl) rfl, dk_Ma⟩
theorem nw_Tu_61 : ab_nw g_G "TurnRing" 61 4 5 df_Pl := ⟨"TurnRing$Planner", tf_Pl, ty_Pl, rfl, uw_Pl, tk_Pl, g_memT (g_t2 22 rfl) rfl, g_memT (g_t2 23 rfl) rfl, g_memT (g_t1 8 rfl) rfl, dk_Pl⟩
theorem nw_Tu_68 : ab_nw g_G "TurnRing" 68 9 5 df_Tr := ⟨"TurnRing$Trader", tf_Tr, ty_Tr, rfl, uw_Tr, tk_Tr, g_memT (g_t2 46 rfl) rfl, g_memT (g_t2 47 rfl) rfl, g_memT (g_t1 9 rfl) rfl, dk_Tr⟩
theorem nw_Tu_75 : ab_nw g_G "TurnRing" 75 2 6 df_Gu := ⟨"TurnRing$Guesser", tf_Gu, ty_Gu, rfl, uw_Gu, tk_Gu, g_memT (g_t2 70 rfl) rfl, g_memT (g_t2 71 rfl) rfl, g_memT (g_t1 10 rfl) rfl, dk_Gu⟩
theorem nw_La_10 : ab_nw g_G "TurnRingLaw" 10 11 37 df_Mo := ⟨"TurnRingModel", tf_Mo, ty_Mo, rfl, uw_Mo, tk_Mo, g_memT (g_t5 52 rfl) rfl, g_memT (g_t5 53 rfl) rfl, g_memT (g_t1 11 rfl) rfl, dk_Mo⟩
theorem cn_Tu_208 : Cond.constant "TurnRing" 208 (-100000) ∈ g_G.2.1 := g_memT (g_t3 205 rfl) rfl
theorem cn_In_265 : Cond.constant "java/lang/Integer" 265 (1431655765) ∈ g_G.2.1 := g_memT (g_t4 204 rfl) rfl
theorem cn_In_266 : Cond.constant "java/lang/Integer" 266 (858993459) ∈ g_G.2.1 := g_memT (g_t4 205 rfl) rfl
theorem cn_In_267 : Cond.constant "java/lang/Integer" 267 (252645135) ∈ g_G.2.1 := g_memT (g_t4 206 rfl) rfl
theorem cn_Tu_334 : Cond.constant "TurnRing" 334 (-10000000) ∈ g_G.2.1 := g_memT (g_t5 43 rfl) rfl
theorem cn_Tu_338 : Cond.constant "TurnRing" 338 (65536) ∈ g_G.2.1 := g_memT (g_t5 50 rfl) rfl
theorem cn_Mo_163 : Cond.constant "TurnRingModel" 163 (99999) ∈ g_G.2.1 := g_memT (g_t6 45 rfl) rfl
theorem cn_Mo_399 : Cond.constant "TurnRingModel" 399 (-100000) ∈ g_G.2.1 := g_memT (g_t7 58 rfl) rfl
theorem cn_Mo_480 : Cond.constant "TurnRingModel" 480 (-10000000) ∈ g_G.2.1 := g_memT (g_t7 166 rfl) rfl
theorem cn_Ma_49 : Cond.constantLong "TurnRing$Machine" 49 (-3) ∈ g_G.2.1 := g_memT (g_t4 70 rfl) rfl
theorem cn_Ma_51 : Cond.constantLong "TurnRing$Machine" 51 (3) ∈ g_G.2.1 := g_memT (g_t4 71 rfl) rfl
theorem cn_Tu_342 : Cond.constantLong "TurnRing" 342 (1103515245) ∈ g_G.2.1 := g_memT (g_t5 47 rfl) rfl
theorem cn_Tu_344 : Cond.constantLong "TurnRing" 344 (12345) ∈ g_G.2.1 := g_memT (g_t5 48 rfl) rfl
theorem cn_Tu_346 : Cond.constantLong "TurnRing" 346 (2147483648) ∈ g_G.2.1 := g_memT (g_t5 49 rfl) rfl
theorem cn_Mo_219 : Cond.constantLong "TurnRingModel" 219 (1919512167) ∈ g_G.2.1 := g_memT (g_t5 202 rfl) rfl
theorem cn_Mo_224 : Cond.constantLong "TurnRingModel" 224 (448546567013) ∈ g_G.2.1 := g_memT (g_t5 211 rfl) rfl
theorem cn_Mo_229 : Cond.constantLong "TurnRingModel" 229 (495689623668) ∈ g_G.2.1 := g_memT (g_t5 212 rfl) rfl
theorem cn_Mo_234 : Cond.constantLong "TurnRingModel" 234 (465625113971) ∈ g_G.2.1 := g_memT (g_t5 213 rfl) rfl
theorem cn_Mo_239 : Cond.constantLong "TurnRingModel" 239 (30521761840260467) ∈ g_G.2.1 := g_memT (g_t5 214 rfl) rfl
theorem cn_Mo_241 : Cond.constantLong "TurnRingModel" 241 (1734440037) ∈ g_G.2.1 := g_memT (g_t5 215 rfl) rfl
theorem cn_Mo_125 : Cond.constantLong "TurnRingModel" 125 (1918989413) ∈ g_G.2.1 := g_memT (g_t5 216 rfl) rfl
theorem cn_Mo_252 : Cond.constantLong "TurnRingModel" 252 (1953854062) ∈ g_G.2.1 := g_memT (g_t5 217 rfl) rfl
theorem cn_Mo_119 : Cond.constantLong "TurnRingModel" 119 (1752135026) ∈ g_G.2.1 := g_memT (g_t6 58 rfl) rfl
theorem cn_Mo_121 : Cond.constantLong "TurnRingModel" 121 (6578553) ∈ g_G.2.1 := g_memT (g_t6 59 rfl) rfl
theorem cn_Mo_123 : Cond.constantLong "TurnRingModel" 123 (418464099429) ∈ g_G.2.1 := g_memT (g_t6 60 rfl) rfl
theorem cn_Mo_127 : Cond.constantLong "TurnRingModel" 127 (2003792494) ∈ g_G.2.1 := g_memT (g_t6 61 rfl) rfl
theorem cn_Mo_129 : Cond.constantLong "TurnRingModel" 129 (465625113956) ∈ g_G.2.1 := g_memT (g_t6 62 rfl) rfl
theorem cn_Mo_131 : Cond.constantLong "TurnRingModel" 131 (1650815860) ∈ g_G.2.1 := g_memT (g_t6 63 rfl) rfl
theorem cn_Mo_133 : Cond.constantLong "TurnRingModel" 133 (465557353332) ∈ g_G.2.1 := g_memT (g_t6 64 rfl) rfl
theorem cn_Mo_135 : Cond.constantLong "TurnRingModel" 135 (495873784179) ∈ g_G.2.1 := g_memT (g_t6 65 rfl) rfl
theorem cn_Mo_137 : Cond.constantLong "TurnRingModel" 137 (508676040051) ∈ g_G.2.1 := g_memT (g_t6 66 rfl) rfl
theorem cn_Mo_139 : Cond.constantLong "TurnRingModel" 139 (444016649587) ∈ g_G.2.1 := g_memT (g_t6 67 rfl) rfl
theorem cn_Mo_141 : Cond.constantLong "TurnRingModel" 141 (495874699379) ∈ g_G.2.1 := g_memT (g_t6 68 rfl) rfl
theorem cn_Mo_207 : Cond.constantLong "TurnRingModel" 207 (26982) ∈ g_G.2.1 := g_memT (g_t6 69 rfl) rfl
theorem cn_Mo_183 : Cond.constantLong "TurnRingModel" 183 (7237492) ∈ g_G.2.1 := g_memT (g_t6 82 rfl) rfl
theorem cn_Mo_203 : Cond.constantLong "TurnRingModel" 203 (6385252) ∈ g_G.2.1 := g_memT (g_t6 106 rfl) rfl
theorem cn_Mo_205 : Cond.constantLong "TurnRingModel" 205 (28530) ∈ g_G.2.1 := g_memT (g_t6 107 rfl) rfl
theorem cn_Mo_319 : Cond.constantLong "TurnRingModel" 319 (100) ∈ g_G.2.1 := g_memT (g_t6 150 rfl) rfl
theorem cn_Mo_321 : Cond.constantLong "TurnRingModel" 321 (104) ∈ g_G.2.1 := g_memT (g_t6 151 rfl) rfl
theorem cn_Mo_326 : Cond.constantLong "TurnRingModel" 326 (11) ∈ g_G.2.1 := g_memT (g_t6 160 rfl) rfl
theorem cn_Mo_328 : Cond.constantLong "TurnRingModel" 328 (2) ∈ g_G.2.1 := g_memT (g_t6 161 rfl) rfl
theorem cn_Mo_330 : Cond.constantLong "TurnRingModel" 330 (23) ∈ g_G.2.1 := g_memT (g_t6 166 rfl) rfl
theorem cn_Mo_350 : Cond.constantLong "TurnRingModel" 350 (-3) ∈ g_G.2.1 := g_memT (g_t6 207 rfl) rfl
theorem cn_Mo_352 : Cond.constantLong "TurnRingModel" 352 (3) ∈ g_G.2.1 := g_memT (g_t6 208 rfl) rfl
theorem cn_Mo_383 : Cond.constantLong "TurnRingModel" 383 (96) ∈ g_G.2.1 := g_memT (g_t6 225 rfl) rfl
theorem cn_Mo_388 : Cond.constantLong "TurnRingModel" 388 (200) ∈ g_G.2.1 := g_memT (g_t7 37 rfl) rfl
theorem cn_Mo_406 : Cond.constantLong "TurnRingModel" 406 (5) ∈ g_G.2.1 := g_memT (g_t7 63 rfl) rfl
theorem cn_Mo_415 : Cond.constantLong "TurnRingModel" 415 (24) ∈ g_G.2.1 := g_memT (g_t7 78 rfl) rfl
theorem cn_Mo_432 : Cond.constantLong "TurnRingModel" 432 (8) ∈ g_G.2.1 := g_memT (g_t7 98 rfl) rfl
theorem cn_Mo_440 : Cond.constantLong "TurnRingModel" 440 (10) ∈ g_G.2.1 := g_memT (g_t7 119 rfl) rfl
theorem cn_Mo_448 : Cond.constantLong "TurnRingModel" 448 (4) ∈ g_G.2.1 := g_memT (g_t7 131 rfl) rfl
theorem cn_Mo_450 : Cond.constantLong "TurnRingModel" 450 (60) ∈ g_G.2.1 := g_memT (g_t7 132 rfl) rfl
theorem cn_Mo_456 : Cond.constantLong "TurnRingModel" 456 (99) ∈ g_G.2.1 := g_memT (g_t7 141 rfl) rfl
theorem cn_Mo_472 : Cond.constantLong "TurnRingModel" 472 (1103515245) ∈ g_G.2.1 := g_memT (g_t7 171 rfl) rfl
theorem cn_Mo_474 : Cond.constantLong "TurnRingModel" 474 (12345) ∈ g_G.2.1 := g_memT (g_t7 172 rfl) rfl
theorem cn_Mo_476 : Cond.constantLong "TurnRingModel" 476 (2147483648) ∈ g_G.2.1 := g_memT (g_t7 173 rfl) rfl
theorem cn_Mo_478 : Cond.constantLong "TurnRingModel" 478 (65536) ∈ g_G.2.1 := g_memT (g_t7 174 rfl) rfl
theorem ac_int : Cond.arrayClass .int ∈ g_G.2.1 := g_memT (g_t1 110 rfl) rfl
theorem ac_byte : Cond.arrayClass .byte ∈ g_G.2.1 := g_memT (g_t1 74 rfl) rfl
theorem ac_boolean : Cond.arrayClass .boolean ∈ g_G.2.1 := g_memT (g_t1 232 rfl) rfl
theorem ac_long : Cond.arrayClass .long ∈ g_G.2.1 := g_memT (g_t1 111 rfl) rfl
theorem oi_Tu : Cond.methodLink "TurnRing" 1 Lib.objectInit ∈ g_G.2.1 ∧ Cond.instanceMethod Lib.objectInit ∈ g_G.2.1 ∧ Cond.code Lib.objectInit ⟨#[0xb1]⟩ 1 none ∈ g_G.2.1 := ⟨g_memT (g_t1 27 rfl) rfl, g_memT (g_t1 28 rfl) rfl, g_memT (g_t1 29 rfl) rfl⟩
theorem oi_Ta : Cond.methodLink "TurnRing$Tape" 3 Lib.objectInit ∈ g_G.2.1 ∧ Cond.instanceMethod Lib.objectInit ∈ g_G.2.1 ∧ Cond.code Lib.objectInit ⟨#[0xb1]⟩ 1 none ∈ g_G.2.1 := ⟨g_memT (g_t1 35 rfl) rfl, g_memT (g_t1 28 rfl) rfl, g_memT (g_t1 29 rfl) rfl⟩
theorem oi_Ri : Cond.methodLink "TurnRing$Ring" 3 Lib.objectInit ∈ g_G.2.1 ∧ Cond.instanceMethod Lib.objectInit ∈ g_G.2.1 ∧ Cond.code Lib.objectInit ⟨#[0xb1]⟩ 1 none ∈ g_G.2.1 := ⟨g_memT (g_t1 80 rfl) rfl, g_memT (g_t1 28 rfl) rfl, g_memT (g_t1 29 rfl) rfl⟩
theorem oi_Di : Cond.methodLink "TurnRing$Diary" 3 Lib.objectInit ∈ g_G.2.1 ∧ Cond.instanceMethod Lib.objectInit ∈ g_G.2.1 ∧ Cond.code Lib.objectInit ⟨#[0xb1]⟩ 1 none ∈ g_G.2.1 := ⟨g_memT (g_t1 86 rfl) rfl, g_memT (g_t1 28 rfl) rfl, g_memT (g_t1 29 rfl) rfl⟩
theorem oi_Ac : Cond.methodLink "TurnRing$ActLog" 1 Lib.objectInit ∈ g_G.2.1 ∧ Cond.instanceMethod Lib.objectInit ∈ g_G.2.1 ∧ Cond.code Lib.objectInit ⟨#[0xb1]⟩ 1 none ∈ g_G.2.1 := ⟨g_memT (g_t1 214 rfl) rfl, g_memT (g_t1 28 rfl) rfl, g_memT (g_t1 29 rfl) rfl⟩
theorem oi_Ru : Cond.methodLink "TurnRing$RuleReader" 3 Lib.objectInit ∈ g_G.2.1 ∧ Cond.instanceMethod Lib.objectInit ∈ g_G.2.1 ∧ Cond.code Lib.objectInit ⟨#[0xb1]⟩ 1 none ∈ g_G.2.1 := ⟨g_memT (g_t1 238 rfl) rfl, g_memT (g_t1 28 rfl) rfl, g_memT (g_t1 29 rfl) rfl⟩
theorem oi_Ma : Cond.methodLink "TurnRing$Machine" 3 Lib.objectInit ∈ g_G.2.1 ∧ Cond.instanceMethod Lib.objectInit ∈ g_G.2.1 ∧ Cond.code Lib.objectInit ⟨#[0xb1]⟩ 1 none ∈ g_G.2.1 := ⟨g_memT (g_t2 14 rfl) rfl, g_memT (g_t1 28 rfl) rfl, g_memT (g_t1 29 rfl) rfl⟩
theorem oi_Pl : Cond.methodLink "TurnRing$Planner" 3 Lib.objectInit ∈ g_G.2.1 ∧ Cond.instanceMethod Lib.objectInit ∈ g_G.2.1 ∧ Cond.code Lib.objectInit ⟨#[0xb1]⟩ 1 none ∈ g_G.2.1 := ⟨g_memT (g_t2 27 rfl) rfl, g_memT (g_t1 28 rfl) rfl, g_memT (g_t1 29 rfl) rfl⟩
theorem oi_Tr : Cond.methodLink "TurnRing$Trader" 3 Lib.objectInit ∈ g_G.2.1 ∧ Cond.instanceMethod Lib.objectInit ∈ g_G.2.1 ∧ Cond.code Lib.objectInit ⟨#[0xb1]⟩ 1 none ∈ g_G.2.1 := ⟨g_memT (g_t2 51 rfl) rfl, g_memT (g_t1 28 rfl) rfl, g_memT (g_t1 29 rfl) rfl⟩
theorem oi_Gu : Cond.methodLink "TurnRing$Guesser" 3 Lib.objectInit ∈ g_G.2.1 ∧ Cond.instanceMethod Lib.objectInit ∈ g_G.2.1 ∧ Cond.code Lib.objectInit ⟨#[0xb1]⟩ 1 none ∈ g_G.2.1 := ⟨g_memT (g_t2 75 rfl) rfl, g_memT (g_t1 28 rfl) rfl, g_memT (g_t1 29 rfl) rfl⟩
theorem ck_Ar_150 : ab_ck g_G "java/util/Arrays" 150 := ⟨g_memT (g_t3 115 rfl) rfl, g_memT (g_t3 117 rfl) rfl, g_memT (g_t3 116 rfl) rfl, g_memT (g_t1 20 rfl) rfl⟩
theorem oi_Ro : Cond.methodLink "TurnRing$Rule" 1 Lib.objectInit ∈ g_G.2.1 ∧ Cond.instanceMethod Lib.objectInit ∈ g_G.2.1 ∧ Cond.code Lib.objectInit ⟨#[0xb1]⟩ 1 none ∈ g_G.2.1 := ⟨g_memT (g_t3 121 rfl) rfl, g_memT (g_t1 28 rfl) rfl, g_memT (g_t1 29 rfl) rfl⟩
theorem ck_Ri_85 : ab_ck g_G "TurnRing$Ring" 85 := ⟨g_memT (g_t4 93 rfl) rfl, g_memT (g_t3 117 rfl) rfl, g_memT (g_t3 116 rfl) rfl, g_memT (g_t1 20 rfl) rfl⟩
theorem ck_Di_28 : ab_ck g_G "TurnRing$Diary" 28 := ⟨g_memT (g_t4 98 rfl) rfl, g_memT (g_t3 117 rfl) rfl, g_memT (g_t3 116 rfl) rfl, g_memT (g_t1 20 rfl) rfl⟩
theorem ck_Pl_50 : ab_ck g_G "TurnRing$Planner" 50 := ⟨g_memT (g_t4 178 rfl) rfl, g_memT (g_t3 117 rfl) rfl, g_memT (g_t3 116 rfl) rfl, g_memT (g_t1 20 rfl) rfl⟩
theorem oi_Mo : Cond.methodLink "TurnRingModel" 1 Lib.objectInit ∈ g_G.2.1 ∧ Cond.instanceMethod Lib.objectInit ∈ g_G.2.1 ∧ Cond.code Lib.objectInit ⟨#[0xb1]⟩ 1 none ∈ g_G.2.1 := ⟨g_memT (g_t5 57 rfl) rfl, g_memT (g_t1 28 rfl) rfl, g_memT (g_t1 29 rfl) rfl⟩

section
-- ===== PART A: goes FIRST, ahead of the names: the tables' words, and 'selects' of the private methods out of them =====
/-- a private method of a class that the tables say can be made, by its rows of tables_1 -/
def lw_okq (q : MethodName × Nat) : Prop := (q.1.cls ≠ "java/lang/invoke/MethodHandle" ∧ q.1.cls ≠ "java/lang/invoke/VarHandle") ∧ Cond.instantiable q.1.cls q.2 ∈ tables_1 ∧ Cond.privateMethod q.1 ∈ tables_1 ∧ Cond.instanceMethod q.1 ∈ tables_1
theorem lw_p0 : lw_okq (⟨"TurnRing$Tape", "readNumber", "()V"⟩, 9) := ⟨⟨by decide +kernel, by decide +kernel⟩, List.mem_of_getElem? (i := 31) (by decide +kernel), List.mem_of_getElem? (i := 409) (by decide +kernel), List.mem_of_getElem? (i := 410) (by decide +kernel)⟩
theorem lw_p1 : lw_okq (⟨"TurnRing$Tape", "readWord", "()V"⟩, 9) := ⟨⟨by decide +kernel, by decide +kernel⟩, List.mem_of_getElem? (i := 31) (by decide +kernel), List.mem_of_getElem? (i := 413) (by decide +kernel), List.mem_of_getElem? (i := 414) (by decide +kernel)⟩
theorem lw_p2 : lw_okq (⟨"TurnRing$Tape", "readSign", "()V"⟩, 9) := ⟨⟨by decide +kernel, by decide +kernel⟩, List.mem_of_getElem? (i := 31) (by decide +kernel), List.mem_of_getElem? (i := 465) (by decide +kernel), List.mem_of_getElem? (i := 466) (by decide +kernel)⟩
theorem lw_p3 : lw_okq (⟨"TurnRing$RuleReader", "readSum", "(LTurnRing$Tape;)V"⟩, 3) := ⟨⟨by decide +kernel, by decide +kernel⟩, List.mem_of_getElem? (i := 234) (by decide +kernel), List.mem_of_getElem? (i := 545) (by decide +kernel), List.mem_of_getElem? (i := 546) (by decide +kernel)⟩
theorem lw_p4 : lw_okq (⟨"TurnRing$RuleReader", "checkValue", "(LTurnRing$Tape;)V"⟩, 3) := ⟨⟨by decide +kernel, by decide +kernel⟩, List.mem_of_getElem? (i := 234) (by decide +kernel), List.mem_of_getElem? (i := 549) (by decide +kernel), List.mem_of_getElem? (i := 550) (by decide +kernel)⟩
theorem lw_p5 : lw_okq (⟨"TurnRing$RuleReader", "countToken", "(LTurnRing$Tape;)V"⟩, 3) := ⟨⟨by decide +kernel, by decide +kernel⟩, List.mem_of_getElem? (i := 234) (by decide +kernel), List.mem_of_getElem? (i := 553) (by decide +kernel), List.mem_of_getElem? (i := 554) (by decide +kernel)⟩
theorem lw_p6 : lw_okq (⟨"TurnRing$RuleReader", "emit", "(I)V"⟩, 3) := ⟨⟨by decide +kernel, by decide +kernel⟩, List.mem_of_getElem? (i := 234) (by decide +kernel), List.mem_of_getElem? (i := 557) (by decide +kernel), List.mem_of_getElem? (i := 558) (by decide +kernel)⟩
theorem lw_p7 : lw_okq (⟨"TurnRing$RuleReader", "readTest", "(LTurnRing$Tape;I)V"⟩, 3) := ⟨⟨by decide +kernel, by decide +kernel⟩, List.mem_of_getElem? (i := 234) (by decide +kernel), List.mem_of_getElem? (i := 567) (by decide +kernel), List.mem_of_getElem? (i := 568) (by decide +kernel)⟩
theorem lw_p8 : lw_okq (⟨"TurnRing$RuleReader", "readFact", "(LTurnRing$Tape;I)V"⟩, 3) := ⟨⟨by decide +kernel, by decide +kernel⟩, List.mem_of_getElem? (i := 234) (by decide +kernel), List.mem_of_getElem? (i := 571) (by decide +kernel), List.mem_of_getElem? (i := 572) (by decide +kernel)⟩
theorem lw_p9 : lw_okq (⟨"TurnRing", "hasHouse", "(I)Z"⟩, 13) := ⟨⟨by decide +kernel, by decide +kernel⟩, List.mem_of_getElem? (i := 23) (by decide +kernel), List.mem_of_getElem? (i := 612) (by decide +kernel), List.mem_of_getElem? (i := 613) (by decide +kernel)⟩
theorem lw_p10 : lw_okq (⟨"TurnRing", "hasRule", "(I)Z"⟩, 13) := ⟨⟨by decide +kernel, by decide +kernel⟩, List.mem_of_getElem? (i := 23) (by decide +kernel), List.mem_of_getElem? (i := 744) (by decide +kernel), List.mem_of_getElem? (i := 745) (by decide +kernel)⟩
theorem lw_p11 : lw_okq (⟨"TurnRing$Machine", "push", "(J)V"⟩, 2) := ⟨⟨by decide +kernel, by decide +kernel⟩, List.mem_of_getElem? (i := 250) (by decide +kernel), List.mem_of_getElem? (i := 752) (by decide +kernel), List.mem_of_getElem? (i := 753) (by decide +kernel)⟩
theorem lw_p12 : lw_okq (⟨"TurnRing$Machine", "pop", "()J"⟩, 2) := ⟨⟨by decide +kernel, by decide +kernel⟩, List.mem_of_getElem? (i := 250) (by decide +kernel), List.mem_of_getElem? (i := 781) (by decide +kernel), List.mem_of_getElem? (i := 782) (by decide +kernel)⟩
theorem lw_p13 : lw_okq (⟨"TurnRing$Planner", "weighFrom", "(LTurnRing$Ring;II)V"⟩, 5) := ⟨⟨by decide +kernel, by decide +kernel⟩, List.mem_of_getElem? (i := 263) (by decide +kernel), List.mem_of_getElem? (i := 883) (by decide +kernel), List.mem_of_getElem? (i := 884) (by decide +kernel)⟩
theorem lw_p14 : lw_okq (⟨"TurnRing$Planner", "leastHad", "(LTurnRing$Ring;I)I"⟩, 5) := ⟨⟨by decide +kernel, by decide +kernel⟩, List.mem_of_getElem? (i := 263) (by decide +kernel), List.mem_of_getElem? (i := 890) (by decide +kernel), List.mem_of_getElem? (i := 891) (by decide +kernel)⟩
theorem lw_p15 : lw_okq (⟨"TurnRing$Planner", "allHad", "(LTurnRing$Ring;I)I"⟩, 5) := ⟨⟨by decide +kernel, by decide +kernel⟩, List.mem_of_getElem? (i := 263) (by decide +kernel), List.mem_of_getElem? (i := 895) (by decide +kernel), List.mem_of_getElem? (i := 896) (by decide +kernel)⟩
def lw_privs_1 : List (MethodName × Nat) := [(⟨"TurnRing$Tape", "readNumber", "()V"⟩, 9), (⟨"TurnRing$Tape", "readWord", "()V"⟩, 9), (⟨"TurnRing$Tape", "readSign", "()V"⟩, 9), (⟨"TurnRing$RuleReader", "readSum", "(LTurnRing$Tape;)V"⟩, 3), (⟨"TurnRing$RuleReader", "checkValue", "(LTurnRing$Tape;)V"⟩, 3), (⟨"TurnRing$RuleReader", "countToken", "(LTurnRing$Tape;)V"⟩, 3), (⟨"TurnRing$RuleReader", "emit", "(I)V"⟩, 3), (⟨"TurnRing$RuleReader", "readTest", "(LTurnRing$Tape;I)V"⟩, 3), (⟨"TurnRing$RuleReader", "readFact", "(LTurnRing$Tape;I)V"⟩, 3), (⟨"TurnRing", "hasHouse", "(I)Z"⟩, 13), (⟨"TurnRing", "hasRule", "(I)Z"⟩, 13), (⟨"TurnRing$Machine", "push", "(J)V"⟩, 2), (⟨"TurnRing$Machine", "pop", "()J"⟩, 2), (⟨"TurnRing$Planner", "weighFrom", "(LTurnRing$Ring;II)V"⟩, 5), (⟨"TurnRing$Planner", "leastHad", "(LTurnRing$Ring;I)I"⟩, 5), (⟨"TurnRing$Planner", "allHad", "(LTurnRing$Ring;I)I"⟩, 5)]
theorem lw_r1 : ∀ q ∈ lw_privs_1, lw_okq q := List.forall_mem_cons.mpr ⟨lw_p0, List.forall_mem_cons.mpr ⟨lw_p1, List.forall_mem_cons.mpr ⟨lw_p2, List.forall_mem_cons.mpr ⟨lw_p3, List.forall_mem_cons.mpr ⟨lw_p4, List.forall_mem_cons.mpr ⟨lw_p5, List.forall_mem_cons.mpr ⟨lw_p6, List.forall_mem_cons.mpr ⟨lw_p7, List.forall_mem_cons.mpr ⟨lw_p8, List.forall_mem_cons.mpr ⟨lw_p9, List.forall_mem_cons.mpr ⟨lw_p10, List.forall_mem_cons.mpr ⟨lw_p11, List.forall_mem_cons.mpr ⟨lw_p12, List.forall_mem_cons.mpr ⟨lw_p13, List.forall_mem_cons.mpr ⟨lw_p14, List.forall_mem_cons.mpr ⟨lw_p15, fun _ h => absurd h List.not_mem_nil⟩⟩⟩⟩⟩⟩⟩⟩⟩⟩⟩⟩⟩⟩⟩⟩
theorem lw_p16 : lw_okq (⟨"TurnRing$Planner", "nextRow", "(I)I"⟩, 5) := ⟨⟨by decide +kernel, by decide +kernel⟩, List.mem_of_getElem? (i := 263) (by decide +kernel), List.mem_of_getElem? (i := 900) (by decide +kernel), List.mem_of_getElem? (i := 901) (by decide +kernel)⟩
theorem lw_p17 : lw_okq (⟨"TurnRing$Trader", "sortSlots", "(LTurnRing$Ring;)V"⟩, 5) := ⟨⟨by decide +kernel, by decide +kernel⟩, List.mem_of_getElem? (i := 287) (by decide +kernel), List.mem_of_getElem? (i := 912) (by decide +kernel), List.mem_of_getElem? (i := 913) (by decide +kernel)⟩
theorem lw_p18 : lw_okq (⟨"TurnRing$Trader", "weighSet", "(II)V"⟩, 5) := ⟨⟨by decide +kernel, by decide +kernel⟩, List.mem_of_getElem? (i := 287) (by decide +kernel), List.mem_of_getElem? (i := 918) (by decide +kernel), List.mem_of_getElem? (i := 919) (by decide +kernel)⟩
theorem lw_p19 : lw_okq (⟨"TurnRing$Trader", "mayTake", "(III)Z"⟩, 5) := ⟨⟨by decide +kernel, by decide +kernel⟩, List.mem_of_getElem? (i := 287) (by decide +kernel), List.mem_of_getElem? (i := 928) (by decide +kernel), List.mem_of_getElem? (i := 929) (by decide +kernel)⟩
theorem lw_p20 : lw_okq (⟨"TurnRing$Trader", "sumWith", "(III)I"⟩, 5) := ⟨⟨by decide +kernel, by decide +kernel⟩, List.mem_of_getElem? (i := 287) (by decide +kernel), List.mem_of_getElem? (i := 932) (by decide +kernel), List.mem_of_getElem? (i := 933) (by decide +kernel)⟩
theorem lw_p21 : lw_okq (⟨"TurnRing$Trader", "firstChoice", "(III)I"⟩, 5) := ⟨⟨by decide +kernel, by decide +kernel⟩, List.mem_of_getElem? (i := 287) (by decide +kernel), List.mem_of_getElem? (i := 941) (by decide +kernel), List.mem_of_getElem? (i := 942) (by decide +kernel)⟩
theorem lw_p22 : lw_okq (⟨"TurnRing", "hoursSeen", "(LTurnRing$Rule;III)I"⟩, 13) := ⟨⟨by decide +kernel, by decide +kernel⟩, List.mem_of_getElem? (i := 23) (by decide +kernel), List.mem_of_getElem? (i := 961) (by decide +kernel), List.mem_of_getElem? (i := 962) (by decide +kernel)⟩
theorem lw_p23 : lw_okq (⟨"TurnRingModel", "four", "(I)V"⟩, 37) := ⟨⟨by decide +kernel, by decide +kernel⟩, List.mem_of_getElem? (i := 1013) (by decide +kernel), List.mem_of_getElem? (i := 1135) (by decide +kernel), List.mem_of_getElem? (i := 1136) (by decide +kernel)⟩
theorem lw_p24 : lw_okq (⟨"TurnRingModel", "readsAll", "()Z"⟩, 37) := ⟨⟨by decide +kernel, by decide +kernel⟩, List.mem_of_getElem? (i := 1013) (by decide +kernel), List.mem_of_getElem? (i := 1147) (by decide +kernel), List.mem_of_getElem? (i := 1148) (by decide +kernel)⟩
theorem lw_p25 : lw_okq (⟨"TurnRingModel", "clauseHere", "()Z"⟩, 37) := ⟨⟨by decide +kernel, by decide +kernel⟩, List.mem_of_getElem? (i := 1013) (by decide +kernel), List.mem_of_getElem? (i := 1151) (by decide +kernel), List.mem_of_getElem? (i := 1152) (by decide +kernel)⟩
theorem lw_p26 : lw_okq (⟨"TurnRingModel", "see", "()I"⟩, 37) := ⟨⟨by decide +kernel, by decide +kernel⟩, List.mem_of_getElem? (i := 1013) (by decide +kernel), List.mem_of_getElem? (i := 1155) (by decide +kernel), List.mem_of_getElem? (i := 1156) (by decide +kernel)⟩
theorem lw_p27 : lw_okq (⟨"TurnRingModel", "isRingWord", "()Z"⟩, 37) := ⟨⟨by decide +kernel, by decide +kernel⟩, List.mem_of_getElem? (i := 1013) (by decide +kernel), List.mem_of_getElem? (i := 1159) (by decide +kernel), List.mem_of_getElem? (i := 1160) (by decide +kernel)⟩
theorem lw_p28 : lw_okq (⟨"TurnRingModel", "isWord", "(J)Z"⟩, 37) := ⟨⟨by decide +kernel, by decide +kernel⟩, List.mem_of_getElem? (i := 1013) (by decide +kernel), List.mem_of_getElem? (i := 1164) (by decide +kernel), List.mem_of_getElem? (i := 1165) (by decide +kernel)⟩
theorem lw_p29 : lw_okq (⟨"TurnRingModel", "isLetter", "(I)Z"⟩, 37) := ⟨⟨by decide +kernel, by decide +kernel⟩, List.mem_of_getElem? (i := 1013) (by decide +kernel), List.mem_of_getElem? (i := 1168) (by decide +kernel), List.mem_of_getElem? (i := 1169) (by decide +kernel)⟩
theorem lw_p30 : lw_okq (⟨"TurnRingModel", "fails", "(II)Z"⟩, 37) := ⟨⟨by decide +kernel, by decide +kernel⟩, List.mem_of_getElem? (i := 1013) (by decide +kernel), List.mem_of_getElem? (i := 1179) (by decide +kernel), List.mem_of_getElem? (i := 1180) (by decide +kernel)⟩
theorem lw_p31 : lw_okq (⟨"TurnRingModel", "ringLineHere", "(I)Z"⟩, 37) := ⟨⟨by decide +kernel, by decide +kernel⟩, List.mem_of_getElem? (i := 1013) (by decide +kernel), List.mem_of_getElem? (i := 1183) (by decide +kernel), List.mem_of_getElem? (i := 1184) (by decide +kernel)⟩
def lw_privs_2 : List (MethodName × Nat) := [(⟨"TurnRing$Planner", "nextRow", "(I)I"⟩, 5), (⟨"TurnRing$Trader", "sortSlots", "(LTurnRing$Ring;)V"⟩, 5), (⟨"TurnRing$Trader", "weighSet", "(II)V"⟩, 5), (⟨"TurnRing$Trader", "mayTake", "(III)Z"⟩, 5), (⟨"TurnRing$Trader", "sumWith", "(III)I"⟩, 5), (⟨"TurnRing$Trader", "firstChoice", "(III)I"⟩, 5), (⟨"TurnRing", "hoursSeen", "(LTurnRing$Rule;III)I"⟩, 13), (⟨"TurnRingModel", "four", "(I)V"⟩, 37), (⟨"TurnRingModel", "readsAll", "()Z"⟩, 37), (⟨"TurnRingModel", "clauseHere", "()Z"⟩, 37), (⟨"TurnRingModel", "see", "()I"⟩, 37), (⟨"TurnRingModel", "isRingWord", "()Z"⟩, 37), (⟨"TurnRingModel", "isWord", "(J)Z"⟩, 37), (⟨"TurnRingModel", "isLetter", "(I)Z"⟩, 37), (⟨"TurnRingModel", "fails", "(II)Z"⟩, 37), (⟨"TurnRingModel", "ringLineHere", "(I)Z"⟩, 37)]
theorem lw_r2 : ∀ q ∈ lw_privs_2, lw_okq q := List.forall_mem_cons.mpr ⟨lw_p16, List.forall_mem_cons.mpr ⟨lw_p17, List.forall_mem_cons.mpr ⟨lw_p18, List.forall_mem_cons.mpr ⟨lw_p19, List.forall_mem_cons.mpr ⟨lw_p20, List.forall_mem_cons.mpr ⟨lw_p21, List.forall_mem_cons.mpr ⟨lw_p22, List.forall_mem_cons.mpr ⟨lw_p23, List.forall_mem_cons.mpr ⟨lw_p24, List.forall_mem_cons.mpr ⟨lw_p25, List.forall_mem_cons.mpr ⟨lw_p26, List.forall_mem_cons.mpr ⟨lw_p27, List.forall_mem_cons.mpr ⟨lw_p28, List.forall_mem_cons.mpr ⟨lw_p29, List.forall_mem_cons.mpr ⟨lw_p30, List.forall_mem_cons.mpr ⟨lw_p31, fun _ h => absurd h List.not_mem_nil⟩⟩⟩⟩⟩⟩⟩⟩⟩⟩⟩⟩⟩⟩⟩⟩
theorem lw_p32 : lw_okq (⟨"TurnRingModel", "isRingHere", "(I)Z"⟩, 37) := ⟨⟨by decide +kernel, by decide +kernel⟩, List.mem_of_getElem? (i := 1013) (by decide +kernel), List.mem_of_getElem? (i := 1187) (by decide +kernel), List.mem_of_getElem? (i := 1188) (by decide +kernel)⟩
theorem lw_p33 : lw_okq (⟨"TurnRingModel", "passWord", "()V"⟩, 37) := ⟨⟨by decide +kernel, by decide +kernel⟩, List.mem_of_getElem? (i := 1013) (by decide +kernel), List.mem_of_getElem? (i := 1191) (by decide +kernel), List.mem_of_getElem? (i := 1192) (by decide +kernel)⟩
theorem lw_p34 : lw_okq (⟨"TurnRingModel", "cellHere", "(III)Z"⟩, 37) := ⟨⟨by decide +kernel, by decide +kernel⟩, List.mem_of_getElem? (i := 1013) (by decide +kernel), List.mem_of_getElem? (i := 1195) (by decide +kernel), List.mem_of_getElem? (i := 1196) (by decide +kernel)⟩
theorem lw_p35 : lw_okq (⟨"TurnRingModel", "numberHere", "(II)Z"⟩, 37) := ⟨⟨by decide +kernel, by decide +kernel⟩, List.mem_of_getElem? (i := 1013) (by decide +kernel), List.mem_of_getElem? (i := 1199) (by decide +kernel), List.mem_of_getElem? (i := 1200) (by decide +kernel)⟩
theorem lw_p36 : lw_okq (⟨"TurnRingModel", "isDigit", "(I)Z"⟩, 37) := ⟨⟨by decide +kernel, by decide +kernel⟩, List.mem_of_getElem? (i := 1013) (by decide +kernel), List.mem_of_getElem? (i := 1203) (by decide +kernel), List.mem_of_getElem? (i := 1204) (by decide +kernel)⟩
theorem lw_p37 : lw_okq (⟨"TurnRingModel", "isHouseHere", "(I)Z"⟩, 37) := ⟨⟨by decide +kernel, by decide +kernel⟩, List.mem_of_getElem? (i := 1013) (by decide +kernel), List.mem_of_getElem? (i := 1210) (by decide +kernel), List.mem_of_getElem? (i := 1211) (by decide +kernel)⟩
theorem lw_p38 : lw_okq (⟨"TurnRingModel", "isSightHere", "(I)Z"⟩, 37) := ⟨⟨by decide +kernel, by decide +kernel⟩, List.mem_of_getElem? (i := 1013) (by decide +kernel), List.mem_of_getElem? (i := 1214) (by decide +kernel), List.mem_of_getElem? (i := 1215) (by decide +kernel)⟩
theorem lw_p39 : lw_okq (⟨"TurnRingModel", "isLikeHere", "(I)Z"⟩, 37) := ⟨⟨by decide +kernel, by decide +kernel⟩, List.mem_of_getElem? (i := 1013) (by decide +kernel), List.mem_of_getElem? (i := 1218) (by decide +kernel), List.mem_of_getElem? (i := 1219) (by decide +kernel)⟩
theorem lw_p40 : lw_okq (⟨"TurnRingModel", "isGateHere", "()Z"⟩, 37) := ⟨⟨by decide +kernel, by decide +kernel⟩, List.mem_of_getElem? (i := 1013) (by decide +kernel), List.mem_of_getElem? (i := 1222) (by decide +kernel), List.mem_of_getElem? (i := 1223) (by decide +kernel)⟩
theorem lw_p41 : lw_okq (⟨"TurnRingModel", "isRateHere", "()Z"⟩, 37) := ⟨⟨by decide +kernel, by decide +kernel⟩, List.mem_of_getElem? (i := 1013) (by decide +kernel), List.mem_of_getElem? (i := 1226) (by decide +kernel), List.mem_of_getElem? (i := 1227) (by decide +kernel)⟩
theorem lw_p42 : lw_okq (⟨"TurnRingModel", "isTurnHere", "()Z"⟩, 37) := ⟨⟨by decide +kernel, by decide +kernel⟩, List.mem_of_getElem? (i := 1013) (by decide +kernel), List.mem_of_getElem? (i := 1230) (by decide +kernel), List.mem_of_getElem? (i := 1231) (by decide +kernel)⟩
theorem lw_p43 : lw_okq (⟨"TurnRingModel", "sum", "()Z"⟩, 37) := ⟨⟨by decide +kernel, by decide +kernel⟩, List.mem_of_getElem? (i := 1013) (by decide +kernel), List.mem_of_getElem? (i := 1234) (by decide +kernel), List.mem_of_getElem? (i := 1235) (by decide +kernel)⟩
theorem lw_p44 : lw_okq (⟨"TurnRingModel", "term", "()Z"⟩, 37) := ⟨⟨by decide +kernel, by decide +kernel⟩, List.mem_of_getElem? (i := 1013) (by decide +kernel), List.mem_of_getElem? (i := 1238) (by decide +kernel), List.mem_of_getElem? (i := 1239) (by decide +kernel)⟩
theorem lw_p45 : lw_okq (⟨"TurnRingModel", "value", "()Z"⟩, 37) := ⟨⟨by decide +kernel, by decide +kernel⟩, List.mem_of_getElem? (i := 1013) (by decide +kernel), List.mem_of_getElem? (i := 1242) (by decide +kernel), List.mem_of_getElem? (i := 1243) (by decide +kernel)⟩
theorem lw_p46 : lw_okq (⟨"TurnRingModel", "makes", "(I)Z"⟩, 37) := ⟨⟨by decide +kernel, by decide +kernel⟩, List.mem_of_getElem? (i := 1013) (by decide +kernel), List.mem_of_getElem? (i := 1247) (by decide +kernel), List.mem_of_getElem? (i := 1248) (by decide +kernel)⟩
theorem lw_p47 : lw_okq (⟨"TurnRingModel", "puts", "(II)V"⟩, 37) := ⟨⟨by decide +kernel, by decide +kernel⟩, List.mem_of_getElem? (i := 1013) (by decide +kernel), List.mem_of_getElem? (i := 1251) (by decide +kernel), List.mem_of_getElem? (i := 1252) (by decide +kernel)⟩
def lw_privs_3 : List (MethodName × Nat) := [(⟨"TurnRingModel", "isRingHere", "(I)Z"⟩, 37), (⟨"TurnRingModel", "passWord", "()V"⟩, 37), (⟨"TurnRingModel", "cellHere", "(III)Z"⟩, 37), (⟨"TurnRingModel", "numberHere", "(II)Z"⟩, 37), (⟨"TurnRingModel", "isDigit", "(I)Z"⟩, 37), (⟨"TurnRingModel", "isHouseHere", "(I)Z"⟩, 37), (⟨"TurnRingModel", "isSightHere", "(I)Z"⟩, 37), (⟨"TurnRingModel", "isLikeHere", "(I)Z"⟩, 37), (⟨"TurnRingModel", "isGateHere", "()Z"⟩, 37), (⟨"TurnRingModel", "isRateHere", "()Z"⟩, 37), (⟨"TurnRingModel", "isTurnHere", "()Z"⟩, 37), (⟨"TurnRingModel", "sum", "()Z"⟩, 37), (⟨"TurnRingModel", "term", "()Z"⟩, 37), (⟨"TurnRingModel", "value", "()Z"⟩, 37), (⟨"TurnRingModel", "makes", "(I)Z"⟩, 37), (⟨"TurnRingModel", "puts", "(II)V"⟩, 37)]
theorem lw_r3 : ∀ q ∈ lw_privs_3, lw_okq q := List.forall_mem_cons.mpr ⟨lw_p32, List.forall_mem_cons.mpr ⟨lw_p33, List.forall_mem_cons.mpr ⟨lw_p34, List.forall_mem_cons.mpr ⟨lw_p35, List.forall_mem_cons.mpr ⟨lw_p36, List.forall_mem_cons.mpr ⟨lw_p37, List.forall_mem_cons.mpr ⟨lw_p38, List.forall_mem_cons.mpr ⟨lw_p39, List.forall_mem_cons.mpr ⟨lw_p40, List.forall_mem_cons.mpr ⟨lw_p41, List.forall_mem_cons.mpr ⟨lw_p42, List.forall_mem_cons.mpr ⟨lw_p43, List.forall_mem_cons.mpr ⟨lw_p44, List.forall_mem_cons.mpr ⟨lw_p45, List.forall_mem_cons.mpr ⟨lw_p46, List.forall_mem_cons.mpr ⟨lw_p47, fun _ h => absurd h List.not_mem_nil⟩⟩⟩⟩⟩⟩⟩⟩⟩⟩⟩⟩⟩⟩⟩⟩
theorem lw_p48 : lw_okq (⟨"TurnRingModel", "wordHere", "()I"⟩, 37) := ⟨⟨by decide +kernel, by decide +kernel⟩, List.mem_of_getElem? (i := 1013) (by decide +kernel), List.mem_of_getElem? (i := 1255) (by decide +kernel), List.mem_of_getElem? (i := 1256) (by decide +kernel)⟩
theorem lw_p49 : lw_okq (⟨"TurnRingModel", "takesWord", "(J)Z"⟩, 37) := ⟨⟨by decide +kernel, by decide +kernel⟩, List.mem_of_getElem? (i := 1013) (by decide +kernel), List.mem_of_getElem? (i := 1271) (by decide +kernel), List.mem_of_getElem? (i := 1272) (by decide +kernel)⟩
theorem lw_p50 : lw_okq (⟨"TurnRingModel", "tested", "()Z"⟩, 37) := ⟨⟨by decide +kernel, by decide +kernel⟩, List.mem_of_getElem? (i := 1013) (by decide +kernel), List.mem_of_getElem? (i := 1275) (by decide +kernel), List.mem_of_getElem? (i := 1276) (by decide +kernel)⟩
theorem lw_p51 : lw_okq (⟨"TurnRingModel", "fact", "()Z"⟩, 37) := ⟨⟨by decide +kernel, by decide +kernel⟩, List.mem_of_getElem? (i := 1013) (by decide +kernel), List.mem_of_getElem? (i := 1279) (by decide +kernel), List.mem_of_getElem? (i := 1280) (by decide +kernel)⟩
theorem lw_p52 : lw_okq (⟨"TurnRingModel", "opens", "(I)Z"⟩, 37) := ⟨⟨by decide +kernel, by decide +kernel⟩, List.mem_of_getElem? (i := 1013) (by decide +kernel), List.mem_of_getElem? (i := 1284) (by decide +kernel), List.mem_of_getElem? (i := 1285) (by decide +kernel)⟩
theorem lw_p53 : lw_okq (⟨"TurnRingModel", "compare", "()Z"⟩, 37) := ⟨⟨by decide +kernel, by decide +kernel⟩, List.mem_of_getElem? (i := 1013) (by decide +kernel), List.mem_of_getElem? (i := 1288) (by decide +kernel), List.mem_of_getElem? (i := 1289) (by decide +kernel)⟩
theorem lw_p54 : lw_okq (⟨"TurnRingModel", "closes", "()V"⟩, 37) := ⟨⟨by decide +kernel, by decide +kernel⟩, List.mem_of_getElem? (i := 1013) (by decide +kernel), List.mem_of_getElem? (i := 1292) (by decide +kernel), List.mem_of_getElem? (i := 1293) (by decide +kernel)⟩
theorem lw_p55 : lw_okq (⟨"TurnRingModel", "settles", "(I)V"⟩, 37) := ⟨⟨by decide +kernel, by decide +kernel⟩, List.mem_of_getElem? (i := 1013) (by decide +kernel), List.mem_of_getElem? (i := 1296) (by decide +kernel), List.mem_of_getElem? (i := 1297) (by decide +kernel)⟩
theorem lw_p56 : lw_okq (⟨"TurnRingModel", "isInside", "()Z"⟩, 37) := ⟨⟨by decide +kernel, by decide +kernel⟩, List.mem_of_getElem? (i := 1013) (by decide +kernel), List.mem_of_getElem? (i := 1303) (by decide +kernel), List.mem_of_getElem? (i := 1304) (by decide +kernel)⟩
theorem lw_p57 : lw_okq (⟨"TurnRingModel", "isHouse", "(I)Z"⟩, 37) := ⟨⟨by decide +kernel, by decide +kernel⟩, List.mem_of_getElem? (i := 1013) (by decide +kernel), List.mem_of_getElem? (i := 1317) (by decide +kernel), List.mem_of_getElem? (i := 1318) (by decide +kernel)⟩
theorem lw_p58 : lw_okq (⟨"TurnRingModel", "facesOf", "(I)I"⟩, 37) := ⟨⟨by decide +kernel, by decide +kernel⟩, List.mem_of_getElem? (i := 1013) (by decide +kernel), List.mem_of_getElem? (i := 1321) (by decide +kernel), List.mem_of_getElem? (i := 1322) (by decide +kernel)⟩
theorem lw_p59 : lw_okq (⟨"TurnRingModel", "sortsAt", "(II)I"⟩, 37) := ⟨⟨by decide +kernel, by decide +kernel⟩, List.mem_of_getElem? (i := 1013) (by decide +kernel), List.mem_of_getElem? (i := 1328) (by decide +kernel), List.mem_of_getElem? (i := 1329) (by decide +kernel)⟩
theorem lw_p60 : lw_okq (⟨"TurnRingModel", "likesOf", "(I)I"⟩, 37) := ⟨⟨by decide +kernel, by decide +kernel⟩, List.mem_of_getElem? (i := 1013) (by decide +kernel), List.mem_of_getElem? (i := 1332) (by decide +kernel), List.mem_of_getElem? (i := 1333) (by decide +kernel)⟩
theorem lw_p61 : lw_okq (⟨"TurnRingModel", "likesAt", "(III)I"⟩, 37) := ⟨⟨by decide +kernel, by decide +kernel⟩, List.mem_of_getElem? (i := 1013) (by decide +kernel), List.mem_of_getElem? (i := 1336) (by decide +kernel), List.mem_of_getElem? (i := 1337) (by decide +kernel)⟩
theorem lw_p62 : lw_okq (⟨"TurnRingModel", "wantsStay", "(I)Z"⟩, 37) := ⟨⟨by decide +kernel, by decide +kernel⟩, List.mem_of_getElem? (i := 1013) (by decide +kernel), List.mem_of_getElem? (i := 1343) (by decide +kernel), List.mem_of_getElem? (i := 1344) (by decide +kernel)⟩
theorem lw_p63 : lw_okq (⟨"TurnRingModel", "rateNow", "()I"⟩, 37) := ⟨⟨by decide +kernel, by decide +kernel⟩, List.mem_of_getElem? (i := 1013) (by decide +kernel), List.mem_of_getElem? (i := 1347) (by decide +kernel), List.mem_of_getElem? (i := 1348) (by decide +kernel)⟩
def lw_privs_4 : List (MethodName × Nat) := [(⟨"TurnRingModel", "wordHere", "()I"⟩, 37), (⟨"TurnRingModel", "takesWord", "(J)Z"⟩, 37), (⟨"TurnRingModel", "tested", "()Z"⟩, 37), (⟨"TurnRingModel", "fact", "()Z"⟩, 37), (⟨"TurnRingModel", "opens", "(I)Z"⟩, 37), (⟨"TurnRingModel", "compare", "()Z"⟩, 37), (⟨"TurnRingModel", "closes", "()V"⟩, 37), (⟨"TurnRingModel", "settles", "(I)V"⟩, 37), (⟨"TurnRingModel", "isInside", "()Z"⟩, 37), (⟨"TurnRingModel", "isHouse", "(I)Z"⟩, 37), (⟨"TurnRingModel", "facesOf", "(I)I"⟩, 37), (⟨"TurnRingModel", "sortsAt", "(II)I"⟩, 37), (⟨"TurnRingModel", "likesOf", "(I)I"⟩, 37), (⟨"TurnRingModel", "likesAt", "(III)I"⟩, 37), (⟨"TurnRingModel", "wantsStay", "(I)Z"⟩, 37), (⟨"TurnRingModel", "rateNow", "()I"⟩, 37)]
theorem lw_r4 : ∀ q ∈ lw_privs_4, lw_okq q := List.forall_mem_cons.mpr ⟨lw_p48, List.forall_mem_cons.mpr ⟨lw_p49, List.forall_mem_cons.mpr ⟨lw_p50, List.forall_mem_cons.mpr ⟨lw_p51, List.forall_mem_cons.mpr ⟨lw_p52, List.forall_mem_cons.mpr ⟨lw_p53, List.forall_mem_cons.mpr ⟨lw_p54, List.forall_mem_cons.mpr ⟨lw_p55, List.forall_mem_cons.mpr ⟨lw_p56, List.forall_mem_cons.mpr ⟨lw_p57, List.forall_mem_cons.mpr ⟨lw_p58, List.forall_mem_cons.mpr ⟨lw_p59, List.forall_mem_cons.mpr ⟨lw_p60, List.forall_mem_cons.mpr ⟨lw_p61, List.forall_mem_cons.mpr ⟨lw_p62, List.forall_mem_cons.mpr ⟨lw_p63, fun _ h => absurd h List.not_mem_nil⟩⟩⟩⟩⟩⟩⟩⟩⟩⟩⟩⟩⟩⟩⟩⟩
theorem lw_p64 : lw_okq (⟨"TurnRingModel", "isRing", "()Z"⟩, 37) := ⟨⟨by decide +kernel, by decide +kernel⟩, List.mem_of_getElem? (i := 1013) (by decide +kernel), List.mem_of_getElem? (i := 1357) (by decide +kernel), List.mem_of_getElem? (i := 1358) (by decide +kernel)⟩
theorem lw_p65 : lw_okq (⟨"TurnRingModel", "canGo", "(I)Z"⟩, 37) := ⟨⟨by decide +kernel, by decide +kernel⟩, List.mem_of_getElem? (i := 1013) (by decide +kernel), List.mem_of_getElem? (i := 1380) (by decide +kernel), List.mem_of_getElem? (i := 1381) (by decide +kernel)⟩
theorem lw_p66 : lw_okq (⟨"TurnRingModel", "keepsAct", "()V"⟩, 37) := ⟨⟨by decide +kernel, by decide +kernel⟩, List.mem_of_getElem? (i := 1013) (by decide +kernel), List.mem_of_getElem? (i := 1384) (by decide +kernel), List.mem_of_getElem? (i := 1385) (by decide +kernel)⟩
theorem lw_p67 : lw_okq (⟨"TurnRingModel", "passes", "()I"⟩, 37) := ⟨⟨by decide +kernel, by decide +kernel⟩, List.mem_of_getElem? (i := 1013) (by decide +kernel), List.mem_of_getElem? (i := 1388) (by decide +kernel), List.mem_of_getElem? (i := 1389) (by decide +kernel)⟩
theorem lw_p68 : lw_okq (⟨"TurnRingModel", "passesAt", "(I)I"⟩, 37) := ⟨⟨by decide +kernel, by decide +kernel⟩, List.mem_of_getElem? (i := 1013) (by decide +kernel), List.mem_of_getElem? (i := 1392) (by decide +kernel), List.mem_of_getElem? (i := 1393) (by decide +kernel)⟩
theorem lw_p69 : lw_okq (⟨"TurnRingModel", "turns", "(I)V"⟩, 37) := ⟨⟨by decide +kernel, by decide +kernel⟩, List.mem_of_getElem? (i := 1013) (by decide +kernel), List.mem_of_getElem? (i := 1396) (by decide +kernel), List.mem_of_getElem? (i := 1397) (by decide +kernel)⟩
theorem lw_p70 : lw_okq (⟨"TurnRingModel", "goesOn", "()V"⟩, 37) := ⟨⟨by decide +kernel, by decide +kernel⟩, List.mem_of_getElem? (i := 1013) (by decide +kernel), List.mem_of_getElem? (i := 1400) (by decide +kernel), List.mem_of_getElem? (i := 1401) (by decide +kernel)⟩
theorem lw_p71 : lw_okq (⟨"TurnRingModel", "isRule", "(I)Z"⟩, 37) := ⟨⟨by decide +kernel, by decide +kernel⟩, List.mem_of_getElem? (i := 1013) (by decide +kernel), List.mem_of_getElem? (i := 1422) (by decide +kernel), List.mem_of_getElem? (i := 1423) (by decide +kernel)⟩
theorem lw_p72 : lw_okq (⟨"TurnRingModel", "passesBy", "(I)V"⟩, 37) := ⟨⟨by decide +kernel, by decide +kernel⟩, List.mem_of_getElem? (i := 1013) (by decide +kernel), List.mem_of_getElem? (i := 1427) (by decide +kernel), List.mem_of_getElem? (i := 1428) (by decide +kernel)⟩
theorem lw_p73 : lw_okq (⟨"TurnRingModel", "words", "()V"⟩, 37) := ⟨⟨by decide +kernel, by decide +kernel⟩, List.mem_of_getElem? (i := 1013) (by decide +kernel), List.mem_of_getElem? (i := 1431) (by decide +kernel), List.mem_of_getElem? (i := 1432) (by decide +kernel)⟩
theorem lw_p74 : lw_okq (⟨"TurnRingModel", "allLike", "()I"⟩, 37) := ⟨⟨by decide +kernel, by decide +kernel⟩, List.mem_of_getElem? (i := 1013) (by decide +kernel), List.mem_of_getElem? (i := 1435) (by decide +kernel), List.mem_of_getElem? (i := 1436) (by decide +kernel)⟩
theorem lw_p75 : lw_okq (⟨"TurnRingModel", "whoStay", "()I"⟩, 37) := ⟨⟨by decide +kernel, by decide +kernel⟩, List.mem_of_getElem? (i := 1013) (by decide +kernel), List.mem_of_getElem? (i := 1439) (by decide +kernel), List.mem_of_getElem? (i := 1440) (by decide +kernel)⟩
theorem lw_p76 : lw_okq (⟨"TurnRingModel", "votesOf", "(I)I"⟩, 37) := ⟨⟨by decide +kernel, by decide +kernel⟩, List.mem_of_getElem? (i := 1013) (by decide +kernel), List.mem_of_getElem? (i := 1443) (by decide +kernel), List.mem_of_getElem? (i := 1444) (by decide +kernel)⟩
theorem lw_p77 : lw_okq (⟨"TurnRingModel", "everyHouse", "()I"⟩, 37) := ⟨⟨by decide +kernel, by decide +kernel⟩, List.mem_of_getElem? (i := 1013) (by decide +kernel), List.mem_of_getElem? (i := 1447) (by decide +kernel), List.mem_of_getElem? (i := 1448) (by decide +kernel)⟩
theorem lw_p78 : lw_okq (⟨"TurnRingModel", "atGates", "()I"⟩, 37) := ⟨⟨by decide +kernel, by decide +kernel⟩, List.mem_of_getElem? (i := 1013) (by decide +kernel), List.mem_of_getElem? (i := 1451) (by decide +kernel), List.mem_of_getElem? (i := 1452) (by decide +kernel)⟩
theorem lw_p79 : lw_okq (⟨"TurnRingModel", "summedBy", "(I)J"⟩, 37) := ⟨⟨by decide +kernel, by decide +kernel⟩, List.mem_of_getElem? (i := 1013) (by decide +kernel), List.mem_of_getElem? (i := 1455) (by decide +kernel), List.mem_of_getElem? (i := 1456) (by decide +kernel)⟩
def lw_privs_5 : List (MethodName × Nat) := [(⟨"TurnRingModel", "isRing", "()Z"⟩, 37), (⟨"TurnRingModel", "canGo", "(I)Z"⟩, 37), (⟨"TurnRingModel", "keepsAct", "()V"⟩, 37), (⟨"TurnRingModel", "passes", "()I"⟩, 37), (⟨"TurnRingModel", "passesAt", "(I)I"⟩, 37), (⟨"TurnRingModel", "turns", "(I)V"⟩, 37), (⟨"TurnRingModel", "goesOn", "()V"⟩, 37), (⟨"TurnRingModel", "isRule", "(I)Z"⟩, 37), (⟨"TurnRingModel", "passesBy", "(I)V"⟩, 37), (⟨"TurnRingModel", "words", "()V"⟩, 37), (⟨"TurnRingModel", "allLike", "()I"⟩, 37), (⟨"TurnRingModel", "whoStay", "()I"⟩, 37), (⟨"TurnRingModel", "votesOf", "(I)I"⟩, 37), (⟨"TurnRingModel", "everyHouse", "()I"⟩, 37), (⟨"TurnRingModel", "atGates", "()I"⟩, 37), (⟨"TurnRingModel", "summedBy", "(I)J"⟩, 37)]
theorem lw_r5 : ∀ q ∈ lw_privs_5, lw_okq q := List.forall_mem_cons.mpr ⟨lw_p64, List.forall_mem_cons.mpr ⟨lw_p65, List.forall_mem_cons.mpr ⟨lw_p66, List.forall_mem_cons.mpr ⟨lw_p67, List.forall_mem_cons.mpr ⟨lw_p68, List.forall_mem_cons.mpr ⟨lw_p69, List.forall_mem_cons.mpr ⟨lw_p70, List.forall_mem_cons.mpr ⟨lw_p71, List.forall_mem_cons.mpr ⟨lw_p72, List.forall_mem_cons.mpr ⟨lw_p73, List.forall_mem_cons.mpr ⟨lw_p74, List.forall_mem_cons.mpr ⟨lw_p75, List.forall_mem_cons.mpr ⟨lw_p76, List.forall_mem_cons.mpr ⟨lw_p77, List.forall_mem_cons.mpr ⟨lw_p78, List.forall_mem_cons.mpr ⟨lw_p79, fun _ h => absurd h List.not_mem_nil⟩⟩⟩⟩⟩⟩⟩⟩⟩⟩⟩⟩⟩⟩⟩⟩
theorem lw_p80 : lw_okq (⟨"TurnRingModel", "reckons", "(III)J"⟩, 37) := ⟨⟨by decide +kernel, by decide +kernel⟩, List.mem_of_getElem? (i := 1013) (by decide +kernel), List.mem_of_getElem? (i := 1459) (by decide +kernel), List.mem_of_getElem? (i := 1460) (by decide +kernel)⟩
theorem lw_p81 : lw_okq (⟨"TurnRingModel", "push", "(J)V"⟩, 37) := ⟨⟨by decide +kernel, by decide +kernel⟩, List.mem_of_getElem? (i := 1013) (by decide +kernel), List.mem_of_getElem? (i := 1463) (by decide +kernel), List.mem_of_getElem? (i := 1464) (by decide +kernel)⟩
theorem lw_p82 : lw_okq (⟨"TurnRingModel", "pop", "()J"⟩, 37) := ⟨⟨by decide +kernel, by decide +kernel⟩, List.mem_of_getElem? (i := 1013) (by decide +kernel), List.mem_of_getElem? (i := 1467) (by decide +kernel), List.mem_of_getElem? (i := 1468) (by decide +kernel)⟩
theorem lw_p83 : lw_okq (⟨"TurnRingModel", "keeps", "()V"⟩, 37) := ⟨⟨by decide +kernel, by decide +kernel⟩, List.mem_of_getElem? (i := 1013) (by decide +kernel), List.mem_of_getElem? (i := 1479) (by decide +kernel), List.mem_of_getElem? (i := 1480) (by decide +kernel)⟩
theorem lw_p84 : lw_okq (⟨"TurnRingModel", "laysBack", "()V"⟩, 37) := ⟨⟨by decide +kernel, by decide +kernel⟩, List.mem_of_getElem? (i := 1013) (by decide +kernel), List.mem_of_getElem? (i := 1483) (by decide +kernel), List.mem_of_getElem? (i := 1484) (by decide +kernel)⟩
theorem lw_p85 : lw_okq (⟨"TurnRingModel", "dayIn", "(II)I"⟩, 37) := ⟨⟨by decide +kernel, by decide +kernel⟩, List.mem_of_getElem? (i := 1013) (by decide +kernel), List.mem_of_getElem? (i := 1495) (by decide +kernel), List.mem_of_getElem? (i := 1496) (by decide +kernel)⟩
theorem lw_p86 : lw_okq (⟨"TurnRingModel", "worthOf", "(IIZ)I"⟩, 37) := ⟨⟨by decide +kernel, by decide +kernel⟩, List.mem_of_getElem? (i := 1013) (by decide +kernel), List.mem_of_getElem? (i := 1508) (by decide +kernel), List.mem_of_getElem? (i := 1509) (by decide +kernel)⟩
theorem lw_p87 : lw_okq (⟨"TurnRingModel", "backFrom", "(III)I"⟩, 37) := ⟨⟨by decide +kernel, by decide +kernel⟩, List.mem_of_getElem? (i := 1013) (by decide +kernel), List.mem_of_getElem? (i := 1520) (by decide +kernel), List.mem_of_getElem? (i := 1521) (by decide +kernel)⟩
theorem lw_p88 : lw_okq (⟨"TurnRingModel", "fillsDays", "()V"⟩, 37) := ⟨⟨by decide +kernel, by decide +kernel⟩, List.mem_of_getElem? (i := 1013) (by decide +kernel), List.mem_of_getElem? (i := 1540) (by decide +kernel), List.mem_of_getElem? (i := 1541) (by decide +kernel)⟩
theorem lw_p89 : lw_okq (⟨"TurnRingModel", "gathersTrades", "()V"⟩, 37) := ⟨⟨by decide +kernel, by decide +kernel⟩, List.mem_of_getElem? (i := 1013) (by decide +kernel), List.mem_of_getElem? (i := 1544) (by decide +kernel), List.mem_of_getElem? (i := 1545) (by decide +kernel)⟩
theorem lw_p90 : lw_okq (⟨"TurnRingModel", "countsRow", "()V"⟩, 37) := ⟨⟨by decide +kernel, by decide +kernel⟩, List.mem_of_getElem? (i := 1013) (by decide +kernel), List.mem_of_getElem? (i := 1548) (by decide +kernel), List.mem_of_getElem? (i := 1549) (by decide +kernel)⟩
theorem lw_p91 : lw_okq (⟨"TurnRingModel", "dayNow", "(I)I"⟩, 37) := ⟨⟨by decide +kernel, by decide +kernel⟩, List.mem_of_getElem? (i := 1013) (by decide +kernel), List.mem_of_getElem? (i := 1552) (by decide +kernel), List.mem_of_getElem? (i := 1553) (by decide +kernel)⟩
theorem lw_p92 : lw_okq (⟨"TurnRingModel", "mostWorn", "(II)I"⟩, 37) := ⟨⟨by decide +kernel, by decide +kernel⟩, List.mem_of_getElem? (i := 1013) (by decide +kernel), List.mem_of_getElem? (i := 1564) (by decide +kernel), List.mem_of_getElem? (i := 1565) (by decide +kernel)⟩
theorem lw_p93 : lw_okq (⟨"TurnRingModel", "seenBy", "(IIII)I"⟩, 37) := ⟨⟨by decide +kernel, by decide +kernel⟩, List.mem_of_getElem? (i := 1013) (by decide +kernel), List.mem_of_getElem? (i := 1574) (by decide +kernel), List.mem_of_getElem? (i := 1575) (by decide +kernel)⟩
theorem lw_p94 : lw_okq (⟨"TurnRingModel", "fitsDiary", "(I)Z"⟩, 37) := ⟨⟨by decide +kernel, by decide +kernel⟩, List.mem_of_getElem? (i := 1013) (by decide +kernel), List.mem_of_getElem? (i := 1587) (by decide +kernel), List.mem_of_getElem? (i := 1588) (by decide +kernel)⟩
theorem lw_p95 : lw_okq (⟨"TurnRingModel", "sawBy", "(IIII)Z"⟩, 37) := ⟨⟨by decide +kernel, by decide +kernel⟩, List.mem_of_getElem? (i := 1013) (by decide +kernel), List.mem_of_getElem? (i := 1591) (by decide +kernel), List.mem_of_getElem? (i := 1592) (by decide +kernel)⟩
def lw_privs_6 : List (MethodName × Nat) := [(⟨"TurnRingModel", "reckons", "(III)J"⟩, 37), (⟨"TurnRingModel", "push", "(J)V"⟩, 37), (⟨"TurnRingModel", "pop", "()J"⟩, 37), (⟨"TurnRingModel", "keeps", "()V"⟩, 37), (⟨"TurnRingModel", "laysBack", "()V"⟩, 37), (⟨"TurnRingModel", "dayIn", "(II)I"⟩, 37), (⟨"TurnRingModel", "worthOf", "(IIZ)I"⟩, 37), (⟨"TurnRingModel", "backFrom", "(III)I"⟩, 37), (⟨"TurnRingModel", "fillsDays", "()V"⟩, 37), (⟨"TurnRingModel", "gathersTrades", "()V"⟩, 37), (⟨"TurnRingModel", "countsRow", "()V"⟩, 37), (⟨"TurnRingModel", "dayNow", "(I)I"⟩, 37), (⟨"TurnRingModel", "mostWorn", "(II)I"⟩, 37), (⟨"TurnRingModel", "seenBy", "(IIII)I"⟩, 37), (⟨"TurnRingModel", "fitsDiary", "(I)Z"⟩, 37), (⟨"TurnRingModel", "sawBy", "(IIII)Z"⟩, 37)]
theorem lw_r6 : ∀ q ∈ lw_privs_6, lw_okq q := List.forall_mem_cons.mpr ⟨lw_p80, List.forall_mem_cons.mpr ⟨lw_p81, List.forall_mem_cons.mpr ⟨lw_p82, List.forall_mem_cons.mpr ⟨lw_p83, List.forall_mem_cons.mpr ⟨lw_p84, List.forall_mem_cons.mpr ⟨lw_p85, List.forall_mem_cons.mpr ⟨lw_p86, List.forall_mem_cons.mpr ⟨lw_p87, List.forall_mem_cons.mpr ⟨lw_p88, List.forall_mem_cons.mpr ⟨lw_p89, List.forall_mem_cons.mpr ⟨lw_p90, List.forall_mem_cons.mpr ⟨lw_p91, List.forall_mem_cons.mpr ⟨lw_p92, List.forall_mem_cons.mpr ⟨lw_p93, List.forall_mem_cons.mpr ⟨lw_p94, List.forall_mem_cons.mpr ⟨lw_p95, fun _ h => absurd h List.not_mem_nil⟩⟩⟩⟩⟩⟩⟩⟩⟩⟩⟩⟩⟩⟩⟩⟩
theorem lw_p96 : lw_okq (⟨"TurnRingModel", "draw", "(I)I"⟩, 37) := ⟨⟨by decide +kernel, by decide +kernel⟩, List.mem_of_getElem? (i := 1013) (by decide +kernel), List.mem_of_getElem? (i := 1608) (by decide +kernel), List.mem_of_getElem? (i := 1609) (by decide +kernel)⟩
def lw_privs_7 : List (MethodName × Nat) := [(⟨"TurnRingModel", "draw", "(I)I"⟩, 37)]
theorem lw_r7 : ∀ q ∈ lw_privs_7, lw_okq q := List.forall_mem_cons.mpr ⟨lw_p96, fun _ h => absurd h List.not_mem_nil⟩
def lw_privs : List (MethodName × Nat) := lw_privs_1 ++ (lw_privs_2 ++ (lw_privs_3 ++ (lw_privs_4 ++ (lw_privs_5 ++ (lw_privs_6 ++ (lw_privs_7))))))
def lw_tbl : List Cond := k2_sels lw_privs ++ tables_1
theorem lw_privs_ok : ∀ q ∈ lw_privs, lw_okq q := by
  show ∀ q ∈ lw_privs_1 ++ (lw_privs_2 ++ (lw_privs_3 ++ (lw_privs_4 ++ (lw_privs_5 ++ (lw_privs_6 ++ (lw_privs_7)))))), lw_okq q
  exact List.forall_mem_append.mpr ⟨lw_r1, List.forall_mem_append.mpr ⟨lw_r2, List.forall_mem_append.mpr ⟨lw_r3, List.forall_mem_append.mpr ⟨lw_r4, List.forall_mem_append.mpr ⟨lw_r5, List.forall_mem_append.mpr ⟨lw_r6, lw_r7⟩⟩⟩⟩⟩⟩
end
section
/-! an abstract machine: ints as whole numbers, cells by their places in a list -/
abbrev ab_V : Type := Int ⊕ (Int64 ⊕ Option Nat)
abbrev ab_E : Type := (Nat × Nat × (Int → Int)) ⊕ ((Nat × (Int → Int64)) ⊕ ((Nat × Nat × (Int → Option Nat)) ⊕ (Nat × List ab_V)))
abbrev ab_W : Type := List ab_E
abbrev ab_L : Type := List (Option ab_V)
abbrev ab_in (a : Int) : Prop := -2147483648 ≤ a ∧ a ≤ 2147483647
abbrev ab_I (a : Int) : ab_V := .inl a
abbrev ab_J (a : Int64) : ab_V := .inr (.inl a)
abbrev ab_R (i : Nat) : ab_V := .inr (.inr (some i))
abbrev ab_N : ab_V := .inr (.inr none)
abbrev ab_ai (t n : Nat) (f : Int → Int) : ab_E := .inl (t, n, f)
abbrev ab_al (n : Nat) (f : Int → Int64) : ab_E := .inr (.inl (n, f))
abbrev ab_ar (t n : Nat) (f : Int → Option Nat) : ab_E := .inr (.inr (.inl (t, n, f)))
abbrev ab_ob (c : Nat) (fs : List ab_V) : ab_E := .inr (.inr (.inr (c, fs)))
def ab_up {α : Type} (f : Int → α) (k : Int) (v : α) : Int → α := fun j => if j = k then v else f j
def ab_cp {α : Type} (f g : Int → α) (sp dp n : Int) : Int → α := fun k => if dp ≤ k ∧ k < dp + n then f (sp + (k - dp)) else g k
def ab_sz : ab_E → Nat
  | .inl (_, n, _) => n
  | .inr (.inl (n, _)) => n
  | .inr (.inr (.inl (_, n, _))) => n
  | .inr (.inr (.inr (_, fs))) => fs.length
def ab_sl (w : ab_W) : Nat := (w.map ab_sz).sum
/-- what the machine holds for an abstract value, cell, world -/
def ab_cv (as : Nat → Nat) : ab_V → Value
  | .inl a => .int (Int32.ofInt a)
  | .inr (.inl x) => .long x
  | .inr (.inr none) => .null
  | .inr (.inr (some i)) => .ref (as i)
def ab_ce (dA : Nat → ClassId) (as : Nat → Nat) : ab_E → va_E
  | .inl (t, n, f) => .inl (dA t, n, .inl (fun k => Int32.ofInt (f (k : Int))))
  | .inr (.inl (n, f)) => .inl (dA 3, n, .inr (.inl (fun k => f (k : Int))))
  | .inr (.inr (.inl (t, n, f))) => .inl (dA t, n, .inr (.inr (.inr (.inr (fun k => (f (k : Int)).map as)))))
  | .inr (.inr (.inr (ci, fs))) => .inr (ci, fs.map (ab_cv as))
def ab_cw (dA : Nat → ClassId) (as : Nat → Nat) (w : ab_W) : va_W := w.mapIdx (fun i e => (as i, ab_ce dA as e))
/-- locals -/
def ab_l2 : Option (Option ab_V) → Bool
  | some (some (.inr (.inl _))) => true
  | _ => false
def ab_cl (l : ab_L) : Nat → ab_L
  | 0 => l
  | j + 1 => if ab_l2 l[j]? then l.set j none else l
def ab_s1 (l : ab_L) (i : Nat) (v : ab_V) : ab_L := (ab_cl l i).set i (some v)
def ab_s2 (l : ab_L) (i : Nat) (v : ab_V) : ab_L := ((ab_cl l i).set i (some v)).set (i + 1) none
def ab_en : List ab_V → ab_L
  | [] => []
  | .inr (.inl x) :: vs => some (.inr (.inl x)) :: none :: ab_en vs
  | v :: vs => some v :: ab_en vs
def ab_pd (l : ab_L) (n : Nat) : ab_L := l ++ List.replicate (n - l.length) none
def ab_wd : List ab_V → Nat
  | [] => 0
  | .inr (.inl _) :: vs => 2 + ab_wd vs
  | _ :: vs => 1 + ab_wd vs
/-- numbers -/
theorem ab_lt {a b : Int} (ha : ab_in a) (hb : ab_in b) : Int32.ofInt a < Int32.ofInt b ↔ a < b := by
  rw [Int32.lt_iff_toInt_lt, Int32.toInt_ofInt_of_le (by omega) (by omega), Int32.toInt_ofInt_of_le (by omega) (by omega)]
theorem ab_le {a b : Int} (ha : ab_in a) (hb : ab_in b) : Int32.ofInt a ≤ Int32.ofInt b ↔ a ≤ b := by
  rw [Int32.le_iff_toInt_le, Int32.toInt_ofInt_of_le (by omega) (by omega), Int32.toInt_ofInt_of_le (by omega) (by omega)]
theorem ab_eq {a b : Int} (ha : ab_in a) (hb : ab_in b) : Int32.ofInt a = Int32.ofInt b ↔ a = b := by
  constructor
  · intro h
    have h2 := congrArg Int32.toInt h
    rwa [Int32.toInt_ofInt_of_le (by omega) (by omega), Int32.toInt_ofInt_of_le (by omega) (by omega)] at h2
  · intro h; rw [h]
theorem ab_ti {a : Int} (ha : ab_in a) : (Int32.ofInt a).toInt = a := Int32.toInt_ofInt_of_le (by omega) (by omega)
theorem ab_tn {a : Int} (ha : ab_in a) : (Int32.ofInt a).toNatClampNeg = a.toNat := by
  show (Int32.ofInt a).toInt.toNat = _
  rw [ab_ti ha]
theorem ab_ix {a : Int} {n : Nat} (h0 : 0 ≤ a) (h1 : a < n) (hi : ab_in a) : vp_in (Int32.ofInt a) n := by
  intro h
  rcases h with h | h
  · have h2 : Int32.ofInt a < Int32.ofInt 0 := h
    rw [ab_lt hi (by omega)] at h2
    omega
  · rw [ab_tn hi] at h
    omega
theorem ab_of (x : Int32) : Int32.ofInt x.toInt = x := Int32.ofInt_toInt x
theorem ab_toin (x : Int32) : ab_in x.toInt := by
  have h1 : -2147483648 ≤ x.toInt := Int32.le_toInt x
  have h2 : x.toInt ≤ 2147483647 := Int32.toInt_le x
  exact ⟨h1, h2⟩
end
section
/-! what is fixed for a claim: the classes, the words, the words of nest mates, the string constants (own class, entry, text, number; lengths, bytes) -/
abbrev ab_M : Type := MethodName × ByteArray × Nat × Option FieldType
abbrev ab_T : Type := List (String × Nat × String × Nat)
abbrev ab_G : Type := List vw_C × List Cond × List Cond × ab_T × List Nat × List (List Int32)
/-- array classes by their numbers: int, byte, boolean, long, then those of references -/
def ab_ty (G : ab_G) (rs : List String) (dA : Nat → ClassId) : List (ClassId × FieldType) := [(dA 0, .int), (dA 1, .byte), (dA 2, .boolean), (dA 3, .long)] ++ rs.mapIdx (fun i C => (dA (4 + i), .object C))
def ab_sb : Nat := 1000000
/-- what holds of a state: the tables, the words of nest mates, the string constants -/
def ab_Cx (G : ab_G) (rs : List String) (D : va_G) (dA : Nat → ClassId) (aK aV : Nat → Nat) (A : Nat → Prop) (U : State) (H : Heap) : Prop :=
  va_K D G.1 (ab_ty G rs dA) U ∧ (∀ c ∈ G.2.2.1, (∃ a i x h, c = Cond.methodLinkNest a i x h) ∨ ∃ a i b n d h, c = Cond.fieldLinkNest a i b n d h) ∧ (∀ c ∈ G.2.2.1, va_Nw c U) ∧ vk_S G.2.2.2.2.1.length G.2.2.2.2.1 G.2.2.2.2.2 aK aV A U H ∧ (∀ q ∈ G.2.2.2.1, vk_R q.1 q.2.1 q.2.2.1 (aK q.2.2.2) U) ∧ va_Z "java/lang/String" "COMPACT_STRINGS" "Z" (.int 1) A U H ∧ ∀ C ∈ rs, va_AO C U
theorem ab_Cx.warm {G : ab_G} {rs : List String} {D : va_G} {dA : Nat → ClassId} {aK aV : Nat → Nat} {A B : Nat → Prop} {s U : State} {H H1 : Heap} (h : ab_Cx G rs D dA aK aV A s H) (hW : s.WarmedH U.vm) (hq : ∀ a : Nat, a < H.size → ¬ A a → H1[a]? = H[a]?) (hAB : ∀ q, B q → A q) : ab_Cx G rs D dA aK aV B U H1 := by
  obtain ⟨h1, h2, h3, h4, h5, h6, h7⟩ := h
  refine ⟨h1.moved hW.alike, h2, fun c hc => ?_, ((h4.moved hW.alike).kept hq).narrow hAB, fun q hq => (h5 q hq).warm hW, ?_, fun C hc => (h7 C hc).moved hW.alike⟩
  · rcases h2 c hc with ⟨a, i, x, h, rfl⟩ | ⟨a, i, b, n, d, h, rfl⟩
    · exact va_Nw.warmM hW (h3 _ hc)
    · exact va_Nw.warmF hW (h3 _ hc)
  · exact ((h6.moved hW.alike).kept hq).narrow hAB
theorem ab_Cx.same {G : ab_G} {rs : List String} {D : va_G} {dA : Nat → ClassId} {aK aV : Nat → Nat} {A : Nat → Prop} {u U : State} {H : Heap} (hv : U.vm = u.vm) (h : ab_Cx G rs D dA aK aV A u H) : ab_Cx G rs D dA aK aV A U H := by
  obtain ⟨h1, h2, h3, h4, h5, h6, h7⟩ := h
  have hl : u.vm.Alike U.vm := by rw [hv]; exact Vm.Alike.refl _
  refine ⟨h1.moved hl, h2, fun c hc => ?_, h4.moved hl, fun q hq => (h5 q hq).same hv, h6.moved hl, fun C hc => (h7 C hc).moved hl⟩
  rcases h2 c hc with ⟨a, i, x, h, rfl⟩ | ⟨a, i, b, n, d, h, rfl⟩
  · exact va_Nw.same rfl hv.symm (h3 _ hc)
  · exact va_Nw.same rfl hv.symm (h3 _ hc)
/-- locals -/
def ab_lo (as : Nat → Nat) (ls : Array Slot) (nL : Nat) (l : ab_L) : Prop := l.length = nL ∧ ∃ lv, lv_has ls nL lv ∧ ∀ (i : Nat) (v : ab_V), l[i]? = some (some v) → (i, ab_cv as v) ∈ lv
theorem ab_lo.at {as : Nat → Nat} {ls : Array Slot} {nL : Nat} {l : ab_L} (h : ab_lo as ls nL l) {i : Nat} {v : ab_V} (hi : l[i]? = some (some v)) : ls[i]? = some (.val (ab_cv as v)) := by
  obtain ⟨-, lv, h1, h2⟩ := h
  exact h1.2.2 _ (h2 i v hi)
def ab_rm (d mc ms : Nat) : Room := { frames := d, cells := mc, slots := ms, locals := 60 * d }
def ab_ws (G : ab_G) (M : ab_M) : List Cond := Cond.code M.1 M.2.1 M.2.2.1 M.2.2.2 :: G.2.1
/-- a method's contract, at any place -/
def ab_Mt (G : ab_G) (rs : List String) (M : ab_M) (d mc ms : Nat) (av : List ab_V) (w : ab_W) (Q : Option ab_V → ab_W → Prop) : Prop :=
  ∀ (l : Launch) (D : va_G) (dA : Nat → ClassId) (aK aV as : Nat → Nat) (sz : Nat), (∀ i, i < G.2.2.2.2.1.length → as (ab_sb + i) = aK i) →
    Met l M.1 (ab_ws G M) (ab_rm d mc ms) (va_Pc (av.map (ab_cv as)) (fun U => U.heap.size = sz ∧ va_P D G.1 (ab_cw dA as w) U.heap ∧ va_D (fun _ => True) (ab_cw dA as w) ∧ ab_Cx G rs D dA aK aV (va_A (ab_cw dA as w) sz) U U.heap))
      (fun _ st oc t => (∃ (r : Option ab_V) (w' : ab_W) (as' : Nat → Nat), Q r w' ∧ w.length ≤ w'.length ∧ (∀ i, (i < w.length ∨ ab_sb ≤ i) → as' i = as i) ∧ (w'.length = w.length → as' = as) ∧ oc = .returned (r.map (ab_cv as')) ∧ va_P D G.1 (ab_cw dA as' w') t.heap ∧ va_D (va_A (ab_cw dA as w) sz) (ab_cw dA as' w')) ∧ va_F (va_A (ab_cw dA as w) sz) st t)
      mc ms (va_A (ab_cw dA as w) sz)
/-- what stays through a method's body -/
def ab_Fx (G : ab_G) (rs : List String) (M : ab_M) (d : Nat) (p : Program) (R : Room) (s : State) (m : MethodId) (args : Array Value) (meth : Method) (c : Code) (D : va_G) (dA : Nat → ClassId) (aK aV : Nat → Nat) (A : Nat → Prop) : Prop :=
  p.tables.exec = Jvm.exec ∧ c.code = M.2.1 ∧ c.maxLocals = M.2.2.1 ∧ meth.sig.returnType = M.2.2.2 ∧ meth.locks = false ∧ s.vm.findClass M.1.cls = some m.cls ∧ meth.name = M.1.name ∧ (∀ x ∈ ab_ws G M, x.before args s = true) ∧ R.frames = d ∧ R.locals = 60 * d ∧ ab_Cx G rs D dA aK aV A s s.heap ∧ ∀ q, s.heap.size ≤ q → A q
/-- what a return owes -/
def ab_Rt (G : ab_G) (s : State) (args : Array Value) (D : va_G) (dA : Nat → ClassId) (as : Nat → Nat) (A : Nat → Prop) (w : ab_W) (Q : Option ab_V → ab_W → Prop) (Qc : Array Value → State → Outcome → State → Prop) (free : Addr → Prop) : Prop :=
  ∀ (r : Option ab_V) (w' : ab_W) (as' : Nat → Nat) (H' : Heap) (locs' : List Loc), Q r w' → w.length ≤ w'.length → (∀ i, (i < w.length ∨ ab_sb ≤ i) → as' i = as i) → (w'.length = w.length → as' = as) → va_P D G.1 (ab_cw dA as' w') H' → va_D A (ab_cw dA as' w') → va_S A s.heap H' locs' → (∀ t : State, t.heap = H' → s.WarmedH t.vm → Qc args s (.returned (r.map (ab_cv as'))) t) ∧ ∀ q ∈ locs', free q.base
def ab_Ev (G : ab_G) (rs : List String) (M : ab_M) (d bc bs : Nat) (pc : Nat) (l : ab_L) (st : List ab_V) (w : ab_W) (Q : Option ab_V → ab_W → Prop) : Prop :=
  ∀ (p : Program) (la : Launch) (e : Env) (R : Room) (s : State) (m : MethodId) (args : Array Value) (below : List Frame) (meth : Method) (c : Code) (H : Heap) (locs : List Loc) (cells slots : Nat) (D : va_G) (dA : Nat → ClassId) (aK aV as : Nat → Nat) (A : Nat → Prop) (ls : Array Slot) (Qc : Array Value → State → Outcome → State → Prop) (free : Addr → Prop),
    ab_Fx G rs M d p R s m args meth c D dA aK aV A → (∀ i, i < G.2.2.2.2.1.length → as (ab_sb + i) = aK i) → va_P D G.1 (ab_cw dA as w) H → va_D A (ab_cw dA as w) → va_S A s.heap H locs → ab_lo as ls M.2.2.1 l → cells + bc ≤ R.cells → slots + bs ≤ R.slots → ab_Rt G s args D dA as A w Q Qc free →
    W p la e R s m args below meth c H locs cells slots (MQ below Qc args s R.cells R.slots free) (F0 m pc ls (st.map (ab_cv as)))
theorem ab_lg (as : Nat → Nat) : ∀ (av : List ab_V) (k : Nat), (ab_en av).length = (lg_sl (av.map (ab_cv as))).length ∧ ∀ (i : Nat) (v : ab_V), (ab_en av)[i]? = some (some v) → (k + i, ab_cv as v) ∈ lv_args k (av.map (ab_cv as))
  | [], k => ⟨rfl, fun i v h => by simp [ab_en] at h⟩
  | .inl a :: vs, k => by
    obtain ⟨h1, h2⟩ := ab_lg as vs (k + 1)
    refine ⟨by simp [ab_en, lg_sl, ab_cv, Value.category] at h1 ⊢; omega, fun i v h => ?_⟩
    cases i with
    | zero => simp [ab_en] at h; subst h; simp [lv_args]
    | succ i =>
      have h3 := h2 i v (by simpa [ab_en] using h)
      rw [show k + (i + 1) = k + 1 + i by omega]
      exact List.mem_cons_of_mem _ h3
  | .inr (.inl a) :: vs, k => by
    obtain ⟨h1, h2⟩ := ab_lg as vs (k + 2)
    refine ⟨by simp [ab_en, lg_sl, ab_cv, Value.category] at h1 ⊢; omega, fun i v h => ?_⟩
    rcases i with _ | _ | i
    · simp [ab_en] at h; subst h; simp [lv_args]
    · simp [ab_en] at h
    · have h3 := h2 i v (by simpa [ab_en] using h)
      rw [show k + (i + 1 + 1) = k + 2 + i by omega]
      exact List.mem_cons_of_mem _ h3
  | .inr (.inr none) :: vs, k => by
    obtain ⟨h1, h2⟩ := ab_lg as vs (k + 1)
    refine ⟨by simp [ab_en, lg_sl, ab_cv, Value.category] at h1 ⊢; omega, fun i v h => ?_⟩
    cases i with
    | zero => simp [ab_en] at h; subst h; simp [lv_args]
    | succ i =>
      have h3 := h2 i v (by simpa [ab_en] using h)
      rw [show k + (i + 1) = k + 1 + i by omega]
      exact List.mem_cons_of_mem _ h3
  | .inr (.inr (some a)) :: vs, k => by
    obtain ⟨h1, h2⟩ := ab_lg as vs (k + 1)
    refine ⟨by simp [ab_en, lg_sl, ab_cv, Value.category] at h1 ⊢; omega, fun i v h => ?_⟩
    cases i with
    | zero => simp [ab_en] at h; subst h; simp [lv_args]
    | succ i =>
      have h3 := h2 i v (by simpa [ab_en] using h)
      rw [show k + (i + 1) = k + 1 + i by omega]
      exact List.mem_cons_of_mem _ h3
/-- a contract out of the walk of the body -/
theorem ab_Mt.of {G : ab_G} {rs : List String} {M : ab_M} {d mc ms : Nat} {av : List ab_V} {w : ab_W} {Q : Option ab_V → ab_W → Prop} (hy : plainName M.1.cls = true) (hl : (ab_en av).length ≤ M.2.2.1) (h : ab_Ev G rs M d mc ms 0 (ab_pd (ab_en av) M.2.2.1) [] w Q) : ab_Mt G rs M d mc ms av w Q := by
  intro l D dA aK aV as sz hsK
  refine Met.ofW (cc := M.2.1) (maxL := M.2.2.1) (ret := M.2.2.2) hy rfl ?_
  intro p e s m args below meth c s₁ B hml hv
  obtain ⟨rfl, hsz, hP, hD0, hC⟩ := hv
  subst hsz
  have hg := ab_lg as av 0
  have hle := lv_entry (av.map (ab_cv as)) (n := M.2.2.1) (by rw [← hg.1]; exact hl)
  rw [lg_entry_eq]
  generalize (lg_sl (av.map (ab_cv as)) ++ List.replicate (M.2.2.1 - (lg_sl (av.map (ab_cv as))).length) Slot.unset).toArray = ls at hle ⊢
  have hD := hD0.self (sz := s.heap.size)
  refine h p l e _ s m _ below meth c s.heap [] 0 0 D dA aK aV as (va_A (ab_cw dA as w) s.heap.size) ls _ _ ⟨B.exec, B.bytes, hml, B.returns, B.notSynchronized, findClass_of_methodNamed B.named, (name_of_methodNamed B.named B.method).1, atoms_spec (ws := ab_ws G M) B.pre, rfl, rfl, hC, fun q hq => Or.inr hq⟩ hsK hP hD va_S.rf ⟨?_, _, hle, ?_⟩ ?_ ?_ ?_
  · simp only [ab_pd, List.length_append, List.length_replicate]; omega
  · intro i v hi
    rw [← Nat.zero_add i]
    refine hg.2 i v ?_
    unfold ab_pd at hi
    by_cases hlt : i < (ab_en av).length
    · rwa [List.getElem?_append_left hlt] at hi
    · rw [List.getElem?_append_right (by omega)] at hi
      have := List.eq_of_mem_replicate (List.mem_of_getElem? hi)
      cases this
  · exact Nat.le_of_eq (Nat.zero_add _)
  · exact Nat.le_of_eq (Nat.zero_add _)
  · intro r w' as' H' locs' h1 h2 h3 h4 h5 h6 h7
    refine ⟨fun t ht hW => ⟨⟨r, w', as', h1, h2, h3, h4, rfl, by rw [ht]; exact h5, h6⟩, h7.F ht⟩, fun q hq => h7.2.2 q hq⟩
end
section
/-! rules, an instruction each: numbers, locals, stack -/
theorem ab_sh : ∀ n : Nat, n < 32 → ((nI n &&& 31).toBitVec.smod 32).toNat = n := by decide +kernel
theorem ab_shu : ∀ n : Nat, n < 32 → (((nI n).toUInt32 &&& Int32.toUInt32 31).toBitVec % 32).toNat = n := by decide +kernel
theorem ab_nI {k : Int} (h : 0 ≤ k) : Int32.ofInt k = nI k.toNat := by
  obtain ⟨n, rfl⟩ := Int.eq_ofNat_of_zero_le h
  rfl
theorem ab_shl {a k : Int} (h0 : 0 ≤ k) (h1 : k < 32) : Int32.ofInt a <<< (Int32.ofInt k &&& 31) = Int32.ofInt (a * 2 ^ k.toNat) := by
  rw [ab_nI h0]
  apply Int32.toBitVec_inj.mp
  apply BitVec.eq_of_toNat_eq
  rw [pk_shl _ _ k.toNat (ab_sh _ (by omega))]
  show (BitVec.ofInt 32 a).toNat * 2 ^ k.toNat % 2 ^ 32 = (BitVec.ofInt 32 (a * 2 ^ k.toNat)).toNat
  rw [BitVec.toNat_ofInt, BitVec.toNat_ofInt]
  have h2 : ((a * 2 ^ k.toNat) % ((2 ^ 32 : Nat) : Int)) = ((a % ((2 ^ 32 : Nat) : Int)) * 2 ^ k.toNat) % ((2 ^ 32 : Nat) : Int) := by rw [Int.mul_emod, Int.mul_emod (a % ((2 ^ 32 : Nat) : Int)) (2 ^ k.toNat), Int.emod_emod_of_dvd a (Int.dvd_refl _)]
  rw [h2]
  have h3 : 0 ≤ a % ((2 ^ 32 : Nat) : Int) := Int.emod_nonneg _ (by decide)
  generalize a % ((2 ^ 32 : Nat) : Int) = z at h3 ⊢
  obtain ⟨n, rfl⟩ := Int.eq_ofNat_of_zero_le h3
  generalize k.toNat = m
  have h4 : ((n : Int) * 2 ^ m) % ((2 ^ 32 : Nat) : Int) = ((n * 2 ^ m % 2 ^ 32 : Nat) : Int) := by rw [Int.natCast_emod, Int.natCast_mul, Int.natCast_pow]; rfl
  rw [h4]
  exact (Int.toNat_natCast _).symm
theorem ab_shr {a k : Int} (ha : ab_in a) (h0 : 0 ≤ k) (h1 : k < 32) : Int32.ofInt a >>> (Int32.ofInt k &&& 31) = Int32.ofInt (a / 2 ^ k.toNat) := by
  rw [ab_nI h0]
  have h := pk_shr (Int32.ofInt a) (nI k.toNat &&& 31) k.toNat (ab_sh _ (by omega))
  rw [ab_ti ha, Int.shiftRight_eq_div_pow] at h
  rw [← ab_of (Int32.ofInt a >>> (nI k.toNat &&& 31)), h]
  congr 1
theorem ab_ushr {a k : Int} (ha : ab_in a) (h0 : 0 ≤ k) (h1 : k < 32) : ((Int32.ofInt a).toUInt32 >>> ((Int32.ofInt k).toUInt32 &&& Int32.toUInt32 31)).toInt32 = Int32.ofInt ((a % 4294967296) / 2 ^ k.toNat) := by
  rw [ab_nI h0]
  apply Int32.toBitVec_inj.mp
  apply BitVec.eq_of_toNat_eq
  rw [pk_ushr _ _ k.toNat (ab_shu _ (by omega))]
  show (BitVec.ofInt 32 a).toNat / 2 ^ k.toNat = (BitVec.ofInt 32 ((a % 4294967296) / 2 ^ k.toNat)).toNat
  rw [BitVec.toNat_ofInt, BitVec.toNat_ofInt]
  have h3 : 0 ≤ a % 4294967296 := Int.emod_nonneg _ (by decide)
  have h4 : a % 4294967296 < 4294967296 := Int.emod_lt_of_pos _ (by decide)
  show (a % 4294967296).toNat / 2 ^ k.toNat = ((a % 4294967296 / 2 ^ k.toNat) % 4294967296).toNat
  generalize a % 4294967296 = z at h3 h4 ⊢
  obtain ⟨n, rfl⟩ := Int.eq_ofNat_of_zero_le h3
  generalize k.toNat = m
  have h5 : ((n : Int) / 2 ^ m) = ((n / 2 ^ m : Nat) : Int) := by push_cast; rfl
  rw [h5]
  have h6 : n / 2 ^ m ≤ n := Nat.div_le_self _ _
  rw [Int.toNat_natCast]
  generalize n / 2 ^ m = q at h6 ⊢
  rw [Int.emod_eq_of_lt (by omega) (by omega)]
  rfl
theorem ab_i2b (a : Int) : (Int32.ofInt a).toInt8.toInt32 = Int32.ofInt (a.bmod 256) := by
  rw [Int32.toInt8_ofInt]
  rw [← ab_of (Int8.ofInt a).toInt32, Int8.toInt_toInt32, Int8.toInt_ofInt]
theorem ab_i2l {a : Int} (ha : ab_in a) : (Int32.ofInt a).toInt64 = Int64.ofInt a := by
  rw [← Int64.ofInt_toInt (Int32.ofInt a).toInt64, Int32.toInt_toInt64, ab_ti ha]
theorem ab_tdiv {a b : Int} (ha : ab_in a) (hb : ab_in b) : Int32.ofInt (a.tdiv b) = Int32.ofInt a / Int32.ofInt b := by
  apply Int32.ofInt_tdiv
  all_goals first | exact ha.1 | exact hb.1 | exact ha.2 | exact hb.2 | (have h1 := ha.2; have h2 := hb.2; first | exact Int.lt_of_le_of_lt ha.2 (by decide) | exact Int.lt_of_le_of_lt hb.2 (by decide))
theorem ab_tmod {a b : Int} (ha : ab_in a) (hb : ab_in b) : Int32.ofInt (a.tmod b) = Int32.ofInt a - Int32.ofInt a / Int32.ofInt b * Int32.ofInt b := by
  rw [← ab_tdiv ha hb, ← Int32.ofInt_mul, ← Int32.ofInt_sub, Int.tmod_def, Int.mul_comm]
def ab_cmp (x y : Int64) : Int := if x > y then 1 else if x = y then 0 else -1
theorem ab_cmp_ok (x y : Int64) : lg_cmp x y = Int32.ofInt (ab_cmp x y) := by
  unfold lg_cmp ab_cmp
  split
  · rfl
  · split <;> rfl
section EVA
variable {G : ab_G} {rs : List String} {M : ab_M} {d bc bs pc : Nat} {l : ab_L} {st : List ab_V} {w : ab_W} {Q : Option ab_V → ab_W → Prop}
theorem ab_go {pc' : Nat} {st st' : List ab_V}
    (h : ∀ {p : Program} {la : Launch} {e : Env} {R : Room} {s : State} {m : MethodId} {args : Array Value} {below : List Frame} {meth : Method} {c : Code} {H : Heap} {locs : List Loc} {cells slots : Nat} {Qz : State → Prop} {ls : Array Slot} (as : Nat → Nat), p.tables.exec = Jvm.exec → c.code = M.2.1 → s.vm.findClass M.1.cls = some m.cls → (∀ x ∈ ab_ws G M, x.before args s = true) → ab_lo as ls M.2.2.1 l →
      W p la e R s m args below meth c H locs cells slots Qz (F0 m pc' ls (st'.map (ab_cv as))) → W p la e R s m args below meth c H locs cells slots Qz (F0 m pc ls (st.map (ab_cv as))))
    (k : ab_Ev G rs M d bc bs pc' l st' w Q) : ab_Ev G rs M d bc bs pc l st w Q := by
  intro p la e R s m args below meth c H locs cells slots D dA aK aV as A ls Qc free hF hs hP hD hS hl h1 h2 hR
  exact h as hF.1 hF.2.1 hF.2.2.2.2.2.1 hF.2.2.2.2.2.2.2.1 hl (k p la e R s m args below meth c H locs cells slots D dA aK aV as A ls Qc free hF hs hP hD hS hl h1 h2 hR)
theorem ev_top {a b : ab_V} (h : a = b) (k : ab_Ev G rs M d bc bs pc l (b :: st) w Q) : ab_Ev G rs M d bc bs pc l (a :: st) w Q := by rw [h]; exact k
theorem ev_world {w' : ab_W} (h : w = w') (k : ab_Ev G rs M d bc bs pc l st w' Q) : ab_Ev G rs M d bc bs pc l st w Q := by rw [h]; exact k
theorem ev_iconst {n : Int} (hd : decode M.2.1 pc = .ok (.iconst n, 1)) (k : ab_Ev G rs M d bc bs (pc + 1) l (.inl n :: st) w Q) : ab_Ev G rs M d bc bs pc l st w Q := ab_go (fun _ hx hb _ _ _ kk => lv_iconst hx hb hd rfl kk) k
theorem ev_bipush {n : Int} (hd : decode M.2.1 pc = .ok (.bipush n, 2)) (hn : (Int8.ofInt n).toInt32 = Int32.ofInt n) (k : ab_Ev G rs M d bc bs (pc + 2) l (.inl n :: st) w Q) : ab_Ev G rs M d bc bs pc l st w Q := ab_go (fun _ hx hb _ _ _ kk => lv_bipush hx hb hd hn kk) k
theorem ev_sipush {n : Int} (hd : decode M.2.1 pc = .ok (.sipush n, 3)) (hn : (Int16.ofInt n).toInt32 = Int32.ofInt n) (k : ab_Ev G rs M d bc bs (pc + 3) l (.inl n :: st) w Q) : ab_Ev G rs M d bc bs pc l st w Q := ab_go (fun _ hx hb _ _ _ kk => lv_sipush hx hb hd hn kk) k
theorem ev_ldc {n : Int} {v : Int32} {idx : Nat} (hd : decode M.2.1 pc = .ok (.ldc idx, 2)) (hc : Cond.constant M.1.cls idx v ∈ G.2.1) (hn : v = Int32.ofInt n) (k : ab_Ev G rs M d bc bs (pc + 2) l (.inl n :: st) w Q) : ab_Ev G rs M d bc bs pc l st w Q := ab_go (fun _ hx hb ho ht _ kk => lv_ldc hx hb ho (ht _ (List.mem_cons_of_mem _ hc)) hd (by rw [hn]; exact kk)) k
theorem ev_ldcw {n : Int} {v : Int32} {idx : Nat} (hd : decode M.2.1 pc = .ok (.ldc_w idx, 3)) (hc : Cond.constant M.1.cls idx v ∈ G.2.1) (hn : v = Int32.ofInt n) (k : ab_Ev G rs M d bc bs (pc + 3) l (.inl n :: st) w Q) : ab_Ev G rs M d bc bs pc l st w Q := ab_go (fun _ hx hb ho ht _ kk => lv_ldcw hx hb ho (ht _ (List.mem_cons_of_mem _ hc)) hd (by rw [hn]; exact kk)) k
theorem ev_ldc2 {v : Int64} {idx : Nat} (hd : decode M.2.1 pc = .ok (.ldc2_w idx, 3)) (hc : Cond.constantLong M.1.cls idx v ∈ G.2.1) (k : ab_Ev G rs M d bc bs (pc + 3) l (.inr (.inl v) :: st) w Q) : ab_Ev G rs M d bc bs pc l st w Q := ab_go (fun _ hx hb ho ht _ kk => lv_ldc2 hx hb ho (ht _ (List.mem_cons_of_mem _ hc)) hd kk) k
theorem ev_lconst {n : Fin 2} (hd : decode M.2.1 pc = .ok (.lconst n, 1)) (k : ab_Ev G rs M d bc bs (pc + 1) l (.inr (.inl (Int64.ofNat (n : Nat))) :: st) w Q) : ab_Ev G rs M d bc bs pc l st w Q := ab_go (fun _ hx hb _ _ _ kk => lv_lconst hx hb hd rfl kk) k
theorem ev_iload_n {k : Fin 4} {i : Nat} {a : Int} (hd : decode M.2.1 pc = .ok (.iload_n k, 1)) (hi : (k : Nat) = i) (hl : l[i]? = some (some (.inl a))) (kk : ab_Ev G rs M d bc bs (pc + 1) l (.inl a :: st) w Q) : ab_Ev G rs M d bc bs pc l st w Q := ab_go (fun _ hx hb _ _ hL kk => lv_iload_n hx hb hd hi (hL.at hl) kk) kk
theorem ev_iload {i : Nat} {a : Int} (hd : decode M.2.1 pc = .ok (.iload i, 2)) (hl : l[i]? = some (some (.inl a))) (kk : ab_Ev G rs M d bc bs (pc + 2) l (.inl a :: st) w Q) : ab_Ev G rs M d bc bs pc l st w Q := ab_go (fun _ hx hb _ _ hL kk => lv_iload hx hb hd (hL.at hl) kk) kk
theorem ev_lload_n {k : Fin 4} {i : Nat} {a : Int64} (hd : decode M.2.1 pc = .ok (.lload_n k, 1)) (hi : (k : Nat) = i) (hl : l[i]? = some (some (.inr (.inl a)))) (kk : ab_Ev G rs M d bc bs (pc + 1) l (.inr (.inl a) :: st) w Q) : ab_Ev G rs M d bc bs pc l st w Q := ab_go (fun _ hx hb _ _ hL kk => lv_lload_n hx hb hd hi (hL.at hl) kk) kk
theorem ev_lload {i : Nat} {a : Int64} (hd : decode M.2.1 pc = .ok (.lload i, 2)) (hl : l[i]? = some (some (.inr (.inl a)))) (kk : ab_Ev G rs M d bc bs (pc + 2) l (.inr (.inl a) :: st) w Q) : ab_Ev G rs M d bc bs pc l st w Q := ab_go (fun _ hx hb _ _ hL kk => lv_lload hx hb hd (hL.at hl) kk) kk
theorem ev_aload_n {k : Fin 4} {i : Nat} {a : Nat} (hd : decode M.2.1 pc = .ok (.aload_n k, 1)) (hi : (k : Nat) = i) (hl : l[i]? = some (some (.inr (.inr (some a))))) (kk : ab_Ev G rs M d bc bs (pc + 1) l (.inr (.inr (some a)) :: st) w Q) : ab_Ev G rs M d bc bs pc l st w Q := ab_go (fun _ hx hb _ _ hL kk => lv_aload_n hx hb hd hi (hL.at hl) kk) kk
theorem ev_aload {i : Nat} {a : Nat} (hd : decode M.2.1 pc = .ok (.aload i, 2)) (hl : l[i]? = some (some (.inr (.inr (some a))))) (kk : ab_Ev G rs M d bc bs (pc + 2) l (.inr (.inr (some a)) :: st) w Q) : ab_Ev G rs M d bc bs pc l st w Q := ab_go (fun _ hx hb _ _ hL kk => lv_aload hx hb hd (hL.at hl) kk) kk
theorem ev_iadd {a b : Int} (hd : decode M.2.1 pc = .ok (.iadd, 1)) (k : ab_Ev G rs M d bc bs (pc + 1) l (.inl (a + b) :: st) w Q) : ab_Ev G rs M d bc bs pc l (.inl b :: .inl a :: st) w Q := ab_go (fun _ hx hb _ _ _ kk => lv_iadd hx hb hd (by rw [← Int32.ofInt_add]; exact kk)) k
theorem ev_isub {a b : Int} (hd : decode M.2.1 pc = .ok (.isub, 1)) (k : ab_Ev G rs M d bc bs (pc + 1) l (.inl (a - b) :: st) w Q) : ab_Ev G rs M d bc bs pc l (.inl b :: .inl a :: st) w Q := ab_go (fun _ hx hb _ _ _ kk => lv_isub hx hb hd (by rw [← Int32.ofInt_sub]; exact kk)) k
theorem ev_imul {a b : Int} (hd : decode M.2.1 pc = .ok (.imul, 1)) (k : ab_Ev G rs M d bc bs (pc + 1) l (.inl (a * b) :: st) w Q) : ab_Ev G rs M d bc bs pc l (.inl b :: .inl a :: st) w Q := ab_go (fun _ hx hb _ _ _ kk => lv_imul hx hb hd (by rw [← Int32.ofInt_mul]; exact kk)) k
theorem ev_ineg {a : Int} (hd : decode M.2.1 pc = .ok (.ineg, 1)) (k : ab_Ev G rs M d bc bs (pc + 1) l (.inl (-a) :: st) w Q) : ab_Ev G rs M d bc bs pc l (.inl a :: st) w Q := ab_go (fun _ hx hb _ _ _ kk => lv_ineg hx hb hd (by rw [← Int32.ofInt_neg]; exact kk)) k
theorem ev_idiv {a b : Int} (hd : decode M.2.1 pc = .ok (.idiv, 1)) (ha : ab_in a) (hb' : ab_in b) (h0 : b ≠ 0) (k : ab_Ev G rs M d bc bs (pc + 1) l (.inl (a.tdiv b) :: st) w Q) : ab_Ev G rs M d bc bs pc l (.inl b :: .inl a :: st) w Q := ab_go (fun _ hx hb _ _ _ kk => lv_idiv hx hb hd (fun h => h0 ((ab_eq hb' (by omega)).mp h)) (by rw [← ab_tdiv ha hb']; exact kk)) k
theorem ev_irem {a b : Int} (hd : decode M.2.1 pc = .ok (.irem, 1)) (ha : ab_in a) (hb' : ab_in b) (h0 : b ≠ 0) (k : ab_Ev G rs M d bc bs (pc + 1) l (.inl (a.tmod b) :: st) w Q) : ab_Ev G rs M d bc bs pc l (.inl b :: .inl a :: st) w Q := ab_go (fun _ hx hb _ _ _ kk => lv_irem hx hb hd (fun h => h0 ((ab_eq hb' (by omega)).mp h)) (by rw [← ab_tmod ha hb']; exact kk)) k
theorem ev_ishl {a b : Int} (hd : decode M.2.1 pc = .ok (.ishl, 1)) (h0 : 0 ≤ b) (h1 : b < 32) (k : ab_Ev G rs M d bc bs (pc + 1) l (.inl (a * 2 ^ b.toNat) :: st) w Q) : ab_Ev G rs M d bc bs pc l (.inl b :: .inl a :: st) w Q := ab_go (fun _ hx hb _ _ _ kk => lv_ishl hx hb hd (by rw [ab_shl h0 h1]; exact kk)) k
theorem ev_ishr {a b : Int} (hd : decode M.2.1 pc = .ok (.ishr, 1)) (ha : ab_in a) (h0 : 0 ≤ b) (h1 : b < 32) (k : ab_Ev G rs M d bc bs (pc + 1) l (.inl (a / 2 ^ b.toNat) :: st) w Q) : ab_Ev G rs M d bc bs pc l (.inl b :: .inl a :: st) w Q := ab_go (fun _ hx hb _ _ _ kk => lv_ishr hx hb hd (by rw [ab_shr ha h0 h1]; exact kk)) k
theorem ev_iushr {a b : Int} (hd : decode M.2.1 pc = .ok (.iushr, 1)) (ha : ab_in a) (h0 : 0 ≤ b) (h1 : b < 32) (k : ab_Ev G rs M d bc bs (pc + 1) l (.inl (a % 4294967296 / 2 ^ b.toNat) :: st) w Q) : ab_Ev G rs M d bc bs pc l (.inl b :: .inl a :: st) w Q := ab_go (fun _ hx hb _ _ _ kk => lv_iushr hx hb hd (ab_ushr ha h0 h1) kk) k
def ab_iand (a b : Int) : Int := (Int32.ofInt a &&& Int32.ofInt b).toInt
theorem ev_iand {a b : Int} (hd : decode M.2.1 pc = .ok (.iand, 1)) (k : ab_Ev G rs M d bc bs (pc + 1) l (.inl (ab_iand a b) :: st) w Q) : ab_Ev G rs M d bc bs pc l (.inl b :: .inl a :: st) w Q := ab_go (fun _ hx hb _ _ _ kk => lv_iand hx hb hd (by rw [← ab_of (Int32.ofInt a &&& Int32.ofInt b)]; exact kk)) k
def ab_ior (a b : Int) : Int := (Int32.ofInt a ||| Int32.ofInt b).toInt
theorem ev_ior {a b : Int} (hd : decode M.2.1 pc = .ok (.ior, 1)) (k : ab_Ev G rs M d bc bs (pc + 1) l (.inl (ab_ior a b) :: st) w Q) : ab_Ev G rs M d bc bs pc l (.inl b :: .inl a :: st) w Q := ab_go (fun _ hx hb _ _ _ kk => lv_ior hx hb hd (by rw [← ab_of (Int32.ofInt a ||| Int32.ofInt b)]; exact kk)) k
def ab_ixor (a b : Int) : Int := (Int32.ofInt a ^^^ Int32.ofInt b).toInt
theorem ev_ixor {a b : Int} (hd : decode M.2.1 pc = .ok (.ixor, 1)) (k : ab_Ev G rs M d bc bs (pc + 1) l (.inl (ab_ixor a b) :: st) w Q) : ab_Ev G rs M d bc bs pc l (.inl b :: .inl a :: st) w Q := ab_go (fun _ hx hb _ _ _ kk => lv_ixor hx hb hd (by rw [← ab_of (Int32.ofInt a ^^^ Int32.ofInt b)]; exact kk)) k
theorem ev_i2b {a : Int} (hd : decode M.2.1 pc = .ok (.i2b, 1)) (k : ab_Ev G rs M d bc bs (pc + 1) l (.inl (a.bmod 256) :: st) w Q) : ab_Ev G rs M d bc bs pc l (.inl a :: st) w Q := ab_go (fun _ hx hb _ _ _ kk => lv_i2b hx hb hd (ab_i2b a) kk) k
theorem ev_i2l {a : Int} (hd : decode M.2.1 pc = .ok (.i2l, 1)) (ha : ab_in a) (k : ab_Ev G rs M d bc bs (pc + 1) l (.inr (.inl (Int64.ofInt a)) :: st) w Q) : ab_Ev G rs M d bc bs pc l (.inl a :: st) w Q := ab_go (fun _ hx hb _ _ _ kk => lv_i2l hx hb hd (ab_i2l ha) kk) k
theorem ev_l2i {a : Int64} (hd : decode M.2.1 pc = .ok (.l2i, 1)) (k : ab_Ev G rs M d bc bs (pc + 1) l (.inl a.toInt32.toInt :: st) w Q) : ab_Ev G rs M d bc bs pc l (.inr (.inl a) :: st) w Q := ab_go (fun _ hx hb _ _ _ kk => lv_l2i hx hb hd (ab_of _).symm kk) k
theorem ev_lcmp {a b : Int64} (hd : decode M.2.1 pc = .ok (.lcmp, 1)) (k : ab_Ev G rs M d bc bs (pc + 1) l (.inl (ab_cmp a b) :: st) w Q) : ab_Ev G rs M d bc bs pc l (.inr (.inl b) :: .inr (.inl a) :: st) w Q := ab_go (fun _ hx hb _ _ _ kk => W.lcmp hx hb hd (by rw [ab_cmp_ok]; exact kk)) k
theorem ev_ladd {a b : Int64} (hd : decode M.2.1 pc = .ok (.ladd, 1)) (k : ab_Ev G rs M d bc bs (pc + 1) l (.inr (.inl (a + b)) :: st) w Q) : ab_Ev G rs M d bc bs pc l (.inr (.inl b) :: .inr (.inl a) :: st) w Q := ab_go (fun _ hx hb _ _ _ kk => lv_ladd hx hb hd kk) k
theorem ev_lsub {a b : Int64} (hd : decode M.2.1 pc = .ok (.lsub, 1)) (k : ab_Ev G rs M d bc bs (pc + 1) l (.inr (.inl (a - b)) :: st) w Q) : ab_Ev G rs M d bc bs pc l (.inr (.inl b) :: .inr (.inl a) :: st) w Q := ab_go (fun _ hx hb _ _ _ kk => lv_lsub hx hb hd kk) k
theorem ev_lmul {a b : Int64} (hd : decode M.2.1 pc = .ok (.lmul, 1)) (k : ab_Ev G rs M d bc bs (pc + 1) l (.inr (.inl (a * b)) :: st) w Q) : ab_Ev G rs M d bc bs pc l (.inr (.inl b) :: .inr (.inl a) :: st) w Q := ab_go (fun _ hx hb _ _ _ kk => lv_lmul hx hb hd kk) k
theorem ev_land {a b : Int64} (hd : decode M.2.1 pc = .ok (.land, 1)) (k : ab_Ev G rs M d bc bs (pc + 1) l (.inr (.inl (a &&& b)) :: st) w Q) : ab_Ev G rs M d bc bs pc l (.inr (.inl b) :: .inr (.inl a) :: st) w Q := ab_go (fun _ hx hb _ _ _ kk => lv_land hx hb hd kk) k
theorem ev_lor {a b : Int64} (hd : decode M.2.1 pc = .ok (.lor, 1)) (k : ab_Ev G rs M d bc bs (pc + 1) l (.inr (.inl (a ||| b)) :: st) w Q) : ab_Ev G rs M d bc bs pc l (.inr (.inl b) :: .inr (.inl a) :: st) w Q := ab_go (fun _ hx hb _ _ _ kk => lv_lor hx hb hd kk) k
theorem ev_ldiv {a b : Int64} (hd : decode M.2.1 pc = .ok (.ldiv, 1)) (h0 : ¬ b = 0) (k : ab_Ev G rs M d bc bs (pc + 1) l (.inr (.inl (a / b)) :: st) w Q) : ab_Ev G rs M d bc bs pc l (.inr (.inl b) :: .inr (.inl a) :: st) w Q := ab_go (fun _ hx hb _ _ _ kk => lv_ldiv hx hb hd h0 kk) k
theorem ev_lrem {a b : Int64} (hd : decode M.2.1 pc = .ok (.lrem, 1)) (h0 : ¬ b = 0) (k : ab_Ev G rs M d bc bs (pc + 1) l (.inr (.inl (a - a / b * b)) :: st) w Q) : ab_Ev G rs M d bc bs pc l (.inr (.inl b) :: .inr (.inl a) :: st) w Q := ab_go (fun _ hx hb _ _ _ kk => lv_lrem hx hb hd h0 kk) k
theorem ev_lshl {a : Int64} {b : Int} (hd : decode M.2.1 pc = .ok (.lshl, 1)) (k : ab_Ev G rs M d bc bs (pc + 1) l (.inr (.inl (a <<< ((Int32.ofInt b).toInt64 &&& 63))) :: st) w Q) : ab_Ev G rs M d bc bs pc l (.inl b :: .inr (.inl a) :: st) w Q := ab_go (fun _ hx hb _ _ _ kk => lv_lshl hx hb hd rfl kk) k
theorem ev_lushr {a : Int64} {b : Int} (hd : decode M.2.1 pc = .ok (.lushr, 1)) (k : ab_Ev G rs M d bc bs (pc + 1) l (.inr (.inl (a.toUInt64 >>> ((Int32.ofInt b).toInt64.toUInt64 &&& Int64.toUInt64 63)).toInt64) :: st) w Q) : ab_Ev G rs M d bc bs pc l (.inl b :: .inr (.inl a) :: st) w Q := ab_go (fun _ hx hb _ _ _ kk => lv_lushr hx hb hd rfl kk) k
def ab_c1 : ab_V → Bool
  | .inr (.inl _) => false
  | _ => true
theorem ab_cat {as : Nat → Nat} {v : ab_V} (h : ab_c1 v = true) : (ab_cv as v).category = 1 := by
  rcases v with a | a | _ | a <;> first | rfl | cases h
theorem ev_dup {v : ab_V} (hd : decode M.2.1 pc = .ok (.dup, 1)) (hv : ab_c1 v = true) (k : ab_Ev G rs M d bc bs (pc + 1) l (v :: v :: st) w Q) : ab_Ev G rs M d bc bs pc l (v :: st) w Q := ab_go (fun _ hx hb _ _ _ kk => lv_dup hx hb hd (ab_cat hv) kk) k
theorem ev_pop {v : ab_V} (hd : decode M.2.1 pc = .ok (.pop, 1)) (hv : ab_c1 v = true) (k : ab_Ev G rs M d bc bs (pc + 1) l st w Q) : ab_Ev G rs M d bc bs pc l (v :: st) w Q := ab_go (fun _ hx hb _ _ _ kk => lv_pop hx hb hd (ab_cat hv) kk) k
theorem ev_dup2 {u v : ab_V} (hd : decode M.2.1 pc = .ok (.dup2, 1)) (hv : ab_c1 v = true) (hu : ab_c1 u = true) (k : ab_Ev G rs M d bc bs (pc + 1) l (u :: v :: u :: v :: st) w Q) : ab_Ev G rs M d bc bs pc l (u :: v :: st) w Q := ab_go (fun _ hx hb _ _ _ kk => lv_dup2_11 hx hb hd (ab_cat hu) (ab_cat hv) kk) k
theorem ev_goto {off : Int} {tgt : Nat} (hd : decode M.2.1 pc = .ok (.goto off, 3)) (ht : (pc : Int) + off = (tgt : Int)) (k : ab_Ev G rs M d bc bs tgt l st w Q) : ab_Ev G rs M d bc bs pc l st w Q := ab_go (fun _ hx hb _ _ _ kk => lv_goto hx hb hd ht kk) k
theorem ab_go2 {pc1 pc2 : Nat} {st st' : List ab_V} {C : Prop}
    (h : ∀ {p : Program} {la : Launch} {e : Env} {R : Room} {s : State} {m : MethodId} {args : Array Value} {below : List Frame} {meth : Method} {c : Code} {H : Heap} {locs : List Loc} {cells slots : Nat} {Qz : State → Prop} {ls : Array Slot} (as : Nat → Nat), p.tables.exec = Jvm.exec → c.code = M.2.1 →
      (C → W p la e R s m args below meth c H locs cells slots Qz (F0 m pc1 ls (st'.map (ab_cv as)))) → (¬ C → W p la e R s m args below meth c H locs cells slots Qz (F0 m pc2 ls (st'.map (ab_cv as)))) → W p la e R s m args below meth c H locs cells slots Qz (F0 m pc ls (st.map (ab_cv as))))
    (k1 : C → ab_Ev G rs M d bc bs pc1 l st' w Q) (k2 : ¬ C → ab_Ev G rs M d bc bs pc2 l st' w Q) : ab_Ev G rs M d bc bs pc l st w Q := by
  intro p la e R s m args below meth c H locs cells slots D dA aK aV as A ls Qc free hF hs hP hD hS hl h1 h2 hR
  exact h as hF.1 hF.2.1 (fun q => k1 q p la e R s m args below meth c H locs cells slots D dA aK aV as A ls Qc free hF hs hP hD hS hl h1 h2 hR) (fun q => k2 q p la e R s m args below meth c H locs cells slots D dA aK aV as A ls Qc free hF hs hP hD hS hl h1 h2 hR)
theorem ab_in0 : ab_in 0 := by decide
theorem ev_icmp_ne {a b : Int} {off : Int} {tgt : Nat} (hd : decode M.2.1 pc = .ok (.if_icmp .ne off, 3)) (ht : (pc : Int) + off = (tgt : Int)) (ha : ab_in a) (hb : ab_in b) (k1 : ¬ a = b → ab_Ev G rs M d bc bs tgt l st w Q) (k2 : a = b → ab_Ev G rs M d bc bs (pc + 3) l st w Q) : ab_Ev G rs M d bc bs pc l (.inl b :: .inl a :: st) w Q := ab_go2 (C := ¬ a = b) (fun _ hx hc q1 q2 => lv_icmp_ne hx hc hd ht (fun h => q1 (fun z => h ((ab_eq ha hb).mpr z))) (fun h => q2 (fun z => z ((ab_eq ha hb).mp h)))) k1 (fun z => k2 (Decidable.of_not_not z))
theorem ev_if_ne {a : Int} {off : Int} {tgt : Nat} (hd : decode M.2.1 pc = .ok (.ifCond .ne off, 3)) (ht : (pc : Int) + off = (tgt : Int)) (ha : ab_in a) (k1 : ¬ a = 0 → ab_Ev G rs M d bc bs tgt l st w Q) (k2 : a = 0 → ab_Ev G rs M d bc bs (pc + 3) l st w Q) : ab_Ev G rs M d bc bs pc l (.inl a :: st) w Q := ab_go2 (C := ¬ a = 0) (fun _ hx hc q1 q2 => lv_if_ne hx hc hd ht (fun h => q1 (fun z => h ((ab_eq ha ab_in0).mpr z))) (fun h => q2 (fun z => z ((ab_eq ha ab_in0).mp h)))) k1 (fun z => k2 (Decidable.of_not_not z))
theorem ev_icmp_eq {a b : Int} {off : Int} {tgt : Nat} (hd : decode M.2.1 pc = .ok (.if_icmp .eq off, 3)) (ht : (pc : Int) + off = (tgt : Int)) (ha : ab_in a) (hb : ab_in b) (k1 : a = b → ab_Ev G rs M d bc bs tgt l st w Q) (k2 : ¬ (a = b) → ab_Ev G rs M d bc bs (pc + 3) l st w Q) : ab_Ev G rs M d bc bs pc l (.inl b :: .inl a :: st) w Q := ab_go2 (fun _ hx hc q1 q2 => lv_icmp_eq hx hc hd ht (fun h => q1 ((ab_eq ha hb).mp h)) (fun h => q2 (fun z => h ((ab_eq ha hb).mpr z)))) k1 k2
theorem ev_if_eq {a : Int} {off : Int} {tgt : Nat} (hd : decode M.2.1 pc = .ok (.ifCond .eq off, 3)) (ht : (pc : Int) + off = (tgt : Int)) (ha : ab_in a) (k1 : a = 0 → ab_Ev G rs M d bc bs tgt l st w Q) (k2 : ¬ (a = 0) → ab_Ev G rs M d bc bs (pc + 3) l st w Q) : ab_Ev G rs M d bc bs pc l (.inl a :: st) w Q := ab_go2 (fun _ hx hc q1 q2 => lv_if_eq hx hc hd ht (fun h => q1 ((ab_eq ha ab_in0).mp h)) (fun h => q2 (fun z => h ((ab_eq ha ab_in0).mpr z)))) k1 k2
theorem ev_icmp_lt {a b : Int} {off : Int} {tgt : Nat} (hd : decode M.2.1 pc = .ok (.if_icmp .lt off, 3)) (ht : (pc : Int) + off = (tgt : Int)) (ha : ab_in a) (hb : ab_in b) (k1 : a < b → ab_Ev G rs M d bc bs tgt l st w Q) (k2 : ¬ (a < b) → ab_Ev G rs M d bc bs (pc + 3) l st w Q) : ab_Ev G rs M d bc bs pc l (.inl b :: .inl a :: st) w Q := ab_go2 (fun _ hx hc q1 q2 => lv_icmp_lt hx hc hd ht (fun h => q1 ((ab_lt ha hb).mp h)) (fun h => q2 (fun z => h ((ab_lt ha hb).mpr z)))) k1 k2
theorem ev_if_lt {a : Int} {off : Int} {tgt : Nat} (hd : decode M.2.1 pc = .ok (.ifCond .lt off, 3)) (ht : (pc : Int) + off = (tgt : Int)) (ha : ab_in a) (k1 : a < 0 → ab_Ev G rs M d bc bs tgt l st w Q) (k2 : ¬ (a < 0) → ab_Ev G rs M d bc bs (pc + 3) l st w Q) : ab_Ev G rs M d bc bs pc l (.inl a :: st) w Q := ab_go2 (fun _ hx hc q1 q2 => lv_if_lt hx hc hd ht (fun h => q1 ((ab_lt ha ab_in0).mp h)) (fun h => q2 (fun z => h ((ab_lt ha ab_in0).mpr z)))) k1 k2
theorem ev_icmp_ge {a b : Int} {off : Int} {tgt : Nat} (hd : decode M.2.1 pc = .ok (.if_icmp .ge off, 3)) (ht : (pc : Int) + off = (tgt : Int)) (ha : ab_in a) (hb : ab_in b) (k1 : b ≤ a → ab_Ev G rs M d bc bs tgt l st w Q) (k2 : ¬ (b ≤ a) → ab_Ev G rs M d bc bs (pc + 3) l st w Q) : ab_Ev G rs M d bc bs pc l (.inl b :: .inl a :: st) w Q := ab_go2 (fun _ hx hc q1 q2 => lv_icmp_ge hx hc hd ht (fun h => q1 ((ab_le hb ha).mp h)) (fun h => q2 (fun z => h ((ab_le hb ha).mpr z)))) k1 k2
theorem ev_if_ge {a : Int} {off : Int} {tgt : Nat} (hd : decode M.2.1 pc = .ok (.ifCond .ge off, 3)) (ht : (pc : Int) + off = (tgt : Int)) (ha : ab_in a) (k1 : 0 ≤ a → ab_Ev G rs M d bc bs tgt l st w Q) (k2 : ¬ (0 ≤ a) → ab_Ev G rs M d bc bs (pc + 3) l st w Q) : ab_Ev G rs M d bc bs pc l (.inl a :: st) w Q := ab_go2 (fun _ hx hc q1 q2 => lv_if_ge hx hc hd ht (fun h => q1 ((ab_le ab_in0 ha).mp h)) (fun h => q2 (fun z => h ((ab_le ab_in0 ha).mpr z)))) k1 k2
theorem ev_icmp_gt {a b : Int} {off : Int} {tgt : Nat} (hd : decode M.2.1 pc = .ok (.if_icmp .gt off, 3)) (ht : (pc : Int) + off = (tgt : Int)) (ha : ab_in a) (hb : ab_in b) (k1 : b < a → ab_Ev G rs M d bc bs tgt l st w Q) (k2 : ¬ (b < a) → ab_Ev G rs M d bc bs (pc + 3) l st w Q) : ab_Ev G rs M d bc bs pc l (.inl b :: .inl a :: st) w Q := ab_go2 (fun _ hx hc q1 q2 => lv_icmp_gt hx hc hd ht (fun h => q1 ((ab_lt hb ha).mp h)) (fun h => q2 (fun z => h ((ab_lt hb ha).mpr z)))) k1 k2
theorem ev_if_gt {a : Int} {off : Int} {tgt : Nat} (hd : decode M.2.1 pc = .ok (.ifCond .gt off, 3)) (ht : (pc : Int) + off = (tgt : Int)) (ha : ab_in a) (k1 : 0 < a → ab_Ev G rs M d bc bs tgt l st w Q) (k2 : ¬ (0 < a) → ab_Ev G rs M d bc bs (pc + 3) l st w Q) : ab_Ev G rs M d bc bs pc l (.inl a :: st) w Q := ab_go2 (fun _ hx hc q1 q2 => lv_if_gt hx hc hd ht (fun h => q1 ((ab_lt ab_in0 ha).mp h)) (fun h => q2 (fun z => h ((ab_lt ab_in0 ha).mpr z)))) k1 k2
theorem ev_icmp_le {a b : Int} {off : Int} {tgt : Nat} (hd : decode M.2.1 pc = .ok (.if_icmp .le off, 3)) (ht : (pc : Int) + off = (tgt : Int)) (ha : ab_in a) (hb : ab_in b) (k1 : a ≤ b → ab_Ev G rs M d bc bs tgt l st w Q) (k2 : ¬ (a ≤ b) → ab_Ev G rs M d bc bs (pc + 3) l st w Q) : ab_Ev G rs M d bc bs pc l (.inl b :: .inl a :: st) w Q := ab_go2 (fun _ hx hc q1 q2 => lv_icmp_le hx hc hd ht (fun h => q1 ((ab_le ha hb).mp h)) (fun h => q2 (fun z => h ((ab_le ha hb).mpr z)))) k1 k2
theorem ev_if_le {a : Int} {off : Int} {tgt : Nat} (hd : decode M.2.1 pc = .ok (.ifCond .le off, 3)) (ht : (pc : Int) + off = (tgt : Int)) (ha : ab_in a) (k1 : a ≤ 0 → ab_Ev G rs M d bc bs tgt l st w Q) (k2 : ¬ (a ≤ 0) → ab_Ev G rs M d bc bs (pc + 3) l st w Q) : ab_Ev G rs M d bc bs pc l (.inl a :: st) w Q := ab_go2 (fun _ hx hc q1 q2 => lv_if_le hx hc hd ht (fun h => q1 ((ab_le ha ab_in0).mp h)) (fun h => q2 (fun z => h ((ab_le ha ab_in0).mpr z)))) k1 k2
theorem ev_tableOut {dflt lo hi : Int} {offs : Array Int} {len : Nat} {a : Int} {tgt : Nat} (hd : decode M.2.1 pc = .ok (.tableswitch dflt lo hi offs, len)) (ha : ab_in a) (h : a < lo ∨ hi < a) (ht : (pc : Int) + dflt = (tgt : Int)) (k : ab_Ev G rs M d bc bs tgt l st w Q) : ab_Ev G rs M d bc bs pc l (.inl a :: st) w Q := ab_go (fun _ hx hb _ _ _ kk => lv_tableOut hx hb hd (by rw [ab_ti ha]; exact h) ht kk) k
theorem ev_tableIn {dflt lo hi : Int} {offs : Array Int} {len : Nat} {a off : Int} {tgt : Nat} (hd : decode M.2.1 pc = .ok (.tableswitch dflt lo hi offs, len)) (ha : ab_in a) (h1 : ¬ a < lo) (h2 : ¬ hi < a) (ho : offs[(a - lo).toNat]? = some off) (ht : (pc : Int) + off = (tgt : Int)) (k : ab_Ev G rs M d bc bs tgt l st w Q) : ab_Ev G rs M d bc bs pc l (.inl a :: st) w Q := ab_go (fun _ hx hb _ _ _ kk => lv_tableIn hx hb hd (by rw [ab_ti ha]; exact h1) (by rw [ab_ti ha]; exact h2) (by rw [ab_ti ha]; exact ho) ht kk) k
theorem ev_lookup {dflt : Int} {ps : Array (Int × Int)} {len : Nat} {a off : Int} {tgt : Nat} (hd : decode M.2.1 pc = .ok (.lookupswitch dflt ps, len)) (hp : (ps.toList.zip (ps.toList.drop 1)).all (fun (a, next) => a.1 < next.1) = true) (ha : ab_in a) (ho : Op.lookupswitch.offset ps.toList dflt a = off) (ht : (pc : Int) + off = (tgt : Int)) (k : ab_Ev G rs M d bc bs tgt l st w Q) : ab_Ev G rs M d bc bs pc l (.inl a :: st) w Q := ab_go (fun _ hx hb _ _ _ kk => lv_lookup hx hb hd hp (by rw [ab_ti ha]; exact ho) ht kk) k
end EVA
end
section
/-! rules: stores into locals -/
theorem ab_cl_len (l : ab_L) (i : Nat) : (ab_cl l i).length = l.length := by
  cases i with
  | zero => rfl
  | succ j => simp only [ab_cl]; split <;> simp
theorem ab_cl_get {l : ab_L} {i j : Nat} {u : ab_V} (h : (ab_cl l i)[j]? = some (some u)) : l[j]? = some (some u) ∧ (j + 1 = i → ab_c1 u = true) := by
  cases i with
  | zero => exact ⟨h, fun q => by omega⟩
  | succ k =>
    simp only [ab_cl] at h
    split at h
    · rename_i hk
      by_cases hjk : k = j
      · subst hjk
        rw [List.getElem?_set] at h
        split at h
        · split at h <;> simp at h
        · rename_i q; exact absurd rfl q
      · rw [List.getElem?_set_ne hjk] at h
        exact ⟨h, fun q => by omega⟩
    · rename_i hk
      refine ⟨h, fun q => ?_⟩
      have e : j = k := by omega
      subst e
      rw [h] at hk
      rcases u with a | a | _ | a <;> first | rfl | exact absurd rfl hk
theorem ab_c1_cat {as : Nat → Nat} {v : ab_V} (h : ab_c1 v = true) : ((ab_cv as v).category == 2) = false := by rw [ab_cat h]; rfl
theorem ab_lo_s1 {as : Nat → Nat} {ls' : Array Slot} {nL i : Nat} {l : ab_L} {lv : List (Nat × Value)} {v : ab_V} (hlen : l.length = nL) (hm : ∀ (j : Nat) (u : ab_V), l[j]? = some (some u) → (j, ab_cv as u) ∈ lv) (h' : lv_has ls' nL ((i, ab_cv as v) :: lv.filter (fun q => !(q.1 == i) && !(q.1 + 1 == i && q.2.category == 2)))) : ab_lo as ls' nL (ab_s1 l i v) := by
  refine ⟨by unfold ab_s1; rw [List.length_set, ab_cl_len, hlen], _, h', fun j u hj => ?_⟩
  unfold ab_s1 at hj
  rw [List.getElem?_set] at hj
  split at hj
  · rename_i e
    subst e
    split at hj
    · cases hj
      exact List.mem_cons_self
    · simp at hj
  · rename_i e
    obtain ⟨h1, h2⟩ := ab_cl_get hj
    refine List.mem_cons_of_mem _ (List.mem_filter.mpr ⟨hm j u h1, ?_⟩)
    have e1 : (j == i) = false := by simp; omega
    by_cases e2 : j + 1 = i
    · simp only [e1, ab_c1_cat (h2 e2)]; simp
    · have e3 : (j + 1 == i) = false := by simp; omega
      simp only [e1, e3]; simp
theorem ab_lo_s2 {as : Nat → Nat} {ls' : Array Slot} {nL i : Nat} {l : ab_L} {lv : List (Nat × Value)} {v : ab_V} (hlen : l.length = nL) (hm : ∀ (j : Nat) (u : ab_V), l[j]? = some (some u) → (j, ab_cv as u) ∈ lv) (h' : lv_has ls' nL ((i, ab_cv as v) :: lv.filter (fun q => !(q.1 == i) && (!(q.1 == i + 1) && !(q.1 + 1 == i && q.2.category == 2))))) : ab_lo as ls' nL (ab_s2 l i v) := by
  refine ⟨by unfold ab_s2; rw [List.length_set, List.length_set, ab_cl_len, hlen], _, h', fun j u hj => ?_⟩
  unfold ab_s2 at hj
  rw [List.getElem?_set] at hj
  split at hj
  · split at hj <;> simp at hj
  · rename_i e0
    rw [List.getElem?_set] at hj
    split at hj
    · rename_i e
      subst e
      split at hj
      · cases hj
        exact List.mem_cons_self
      · simp at hj
    · rename_i e
      obtain ⟨h1, h2⟩ := ab_cl_get hj
      refine List.mem_cons_of_mem _ (List.mem_filter.mpr ⟨hm j u h1, ?_⟩)
      have e1 : (j == i) = false := by simp; omega
      have e4 : (j == i + 1) = false := by simp; omega
      by_cases e2 : j + 1 = i
      · simp only [e1, e4, ab_c1_cat (h2 e2)]; simp
      · have e3 : (j + 1 == i) = false := by simp; omega
        simp only [e1, e3, e4]; simp
section EVB
variable {G : ab_G} {rs : List String} {M : ab_M} {d bc bs pc : Nat} {l l' : ab_L} {st : List ab_V} {w : ab_W} {Q : Option ab_V → ab_W → Prop}
theorem ab_gol {pc' : Nat} {st st' : List ab_V}
    (h : ∀ {p : Program} {la : Launch} {e : Env} {R : Room} {s : State} {m : MethodId} {args : Array Value} {below : List Frame} {meth : Method} {c : Code} {H : Heap} {locs : List Loc} {cells slots : Nat} {Qz : State → Prop} {ls : Array Slot} (as : Nat → Nat), p.tables.exec = Jvm.exec → c.code = M.2.1 → ab_lo as ls M.2.2.1 l →
      (∀ ls' : Array Slot, ab_lo as ls' M.2.2.1 l' → W p la e R s m args below meth c H locs cells slots Qz (F0 m pc' ls' (st'.map (ab_cv as)))) → W p la e R s m args below meth c H locs cells slots Qz (F0 m pc ls (st.map (ab_cv as))))
    (k : ab_Ev G rs M d bc bs pc' l' st' w Q) : ab_Ev G rs M d bc bs pc l st w Q := by
  intro p la e R s m args below meth c H locs cells slots D dA aK aV as A ls Qc free hF hs hP hD hS hl h1 h2 hR
  exact h as hF.1 hF.2.1 hl (fun ls' hl' => k p la e R s m args below meth c H locs cells slots D dA aK aV as A ls' Qc free hF hs hP hD hS hl' h1 h2 hR)
theorem ev_istore_n {k : Fin 4} {i : Nat} {a : Int} (hd : decode M.2.1 pc = .ok (.istore_n k, 1)) (hi : (k : Nat) = i) (hn : i < l.length) (hl : ab_s1 l i (.inl a) = l') (kk : ab_Ev G rs M d bc bs (pc + 1) l' st w Q) : ab_Ev G rs M d bc bs pc l (.inl a :: st) w Q := ab_gol (fun _ hx hb hL kk => by
  obtain ⟨h1, lv, h2, h3⟩ := hL
  subst hl
  exact lv_istore_n hx hb hd hi h2 (by omega) rfl (fun ls' h' => kk ls' (ab_lo_s1 h1 h3 h'))) kk
theorem ev_istore {i : Nat} {a : Int} (hd : decode M.2.1 pc = .ok (.istore i, 2)) (hn : i < l.length) (hl : ab_s1 l i (.inl a) = l') (kk : ab_Ev G rs M d bc bs (pc + 2) l' st w Q) : ab_Ev G rs M d bc bs pc l (.inl a :: st) w Q := ab_gol (fun _ hx hb hL kk => by
  obtain ⟨h1, lv, h2, h3⟩ := hL
  subst hl
  exact lv_istore hx hb hd h2 (by omega) rfl (fun ls' h' => kk ls' (ab_lo_s1 h1 h3 h'))) kk
theorem ev_astore_n {k : Fin 4} {i : Nat} {a : Nat} (hd : decode M.2.1 pc = .ok (.astore_n k, 1)) (hi : (k : Nat) = i) (hn : i < l.length) (hl : ab_s1 l i (.inr (.inr (some a))) = l') (kk : ab_Ev G rs M d bc bs (pc + 1) l' st w Q) : ab_Ev G rs M d bc bs pc l (.inr (.inr (some a)) :: st) w Q := ab_gol (fun _ hx hb hL kk => by
  obtain ⟨h1, lv, h2, h3⟩ := hL
  subst hl
  exact lv_astore_n hx hb hd hi h2 (by omega) rfl (fun ls' h' => kk ls' (ab_lo_s1 h1 h3 h'))) kk
theorem ev_astore {i : Nat} {a : Nat} (hd : decode M.2.1 pc = .ok (.astore i, 2)) (hn : i < l.length) (hl : ab_s1 l i (.inr (.inr (some a))) = l') (kk : ab_Ev G rs M d bc bs (pc + 2) l' st w Q) : ab_Ev G rs M d bc bs pc l (.inr (.inr (some a)) :: st) w Q := ab_gol (fun _ hx hb hL kk => by
  obtain ⟨h1, lv, h2, h3⟩ := hL
  subst hl
  exact lv_astore hx hb hd h2 (by omega) rfl (fun ls' h' => kk ls' (ab_lo_s1 h1 h3 h'))) kk
theorem ev_lstore_n {k : Fin 4} {i : Nat} {a : Int64} (hd : decode M.2.1 pc = .ok (.lstore_n k, 1)) (hi : (k : Nat) = i) (hn : i + 1 < l.length) (hl : ab_s2 l i (.inr (.inl a)) = l') (kk : ab_Ev G rs M d bc bs (pc + 1) l' st w Q) : ab_Ev G rs M d bc bs pc l (.inr (.inl a) :: st) w Q := ab_gol (fun _ hx hb hL kk => by
  obtain ⟨h1, lv, h2, h3⟩ := hL
  subst hl
  exact lv_lstore_n hx hb hd hi h2 (by omega) rfl (fun ls' h' => kk ls' (ab_lo_s2 h1 h3 h'))) kk
theorem ev_lstore {i : Nat} {a : Int64} (hd : decode M.2.1 pc = .ok (.lstore i, 2)) (hn : i + 1 < l.length) (hl : ab_s2 l i (.inr (.inl a)) = l') (kk : ab_Ev G rs M d bc bs (pc + 2) l' st w Q) : ab_Ev G rs M d bc bs pc l (.inr (.inl a) :: st) w Q := ab_gol (fun _ hx hb hL kk => by
  obtain ⟨h1, lv, h2, h3⟩ := hL
  subst hl
  exact lv_lstore hx hb hd h2 (by omega) rfl (fun ls' h' => kk ls' (ab_lo_s2 h1 h3 h'))) kk
theorem ev_iinc {i : Nat} {n a : Int} (hd : decode M.2.1 pc = .ok (.iinc i n, 3)) (hi : l[i]? = some (some (.inl a))) (hl : ab_s1 l i (.inl (a + n)) = l') (kk : ab_Ev G rs M d bc bs (pc + 3) l' st w Q) : ab_Ev G rs M d bc bs pc l st w Q := ab_gol (fun as hx hb hL kk => by
  obtain ⟨h1, lv, h2, h3⟩ := hL
  subst hl
  have hm := h3 i _ hi
  obtain ⟨k, hk⟩ := List.getElem?_of_mem hm
  have hlt : i < l.length := (List.getElem?_eq_some_iff.mp hi).1
  exact lv_iinc hx hb hd h2 hk (Int32.ofInt_add a n).symm (by omega) rfl (fun ls' h' => kk ls' (ab_lo_s1 h1 h3 h'))) kk
end EVB
/-! worlds -/
theorem ab_cw_get {dA : Nat → ClassId} {as : Nat → Nat} {w : ab_W} {o : Nat} {e : ab_E} (h : w[o]? = some e) : (ab_cw dA as w)[o]? = some (as o, ab_ce dA as e) := by
  unfold ab_cw
  rw [List.getElem?_mapIdx, h]
  rfl
theorem ab_cw_of {dA : Nat → ClassId} {as : Nat → Nat} {w : ab_W} {o : Nat} {q : Nat × va_E} (h : (ab_cw dA as w)[o]? = some q) : ∃ e, w[o]? = some e ∧ q = (as o, ab_ce dA as e) := by
  unfold ab_cw at h
  rw [List.getElem?_mapIdx] at h
  cases hw : w[o]? with
  | none => rw [hw] at h; simp at h
  | some e => rw [hw] at h; exact ⟨e, rfl, (Option.some.inj h).symm⟩
theorem ab_cw_set (dA : Nat → ClassId) (as : Nat → Nat) (w : ab_W) (o : Nat) (e : ab_E) : (ab_cw dA as w).set o (as o, ab_ce dA as e) = ab_cw dA as (w.set o e) := by
  apply List.ext_getElem?
  intro i
  unfold ab_cw
  rw [List.getElem?_mapIdx, List.getElem?_set, List.getElem?_set, List.length_mapIdx, List.getElem?_mapIdx]
  split
  · rename_i e1
    subst e1
    split <;> rfl
  · rfl
theorem ab_Rt.len {G : ab_G} {s : State} {args : Array Value} {D : va_G} {dA : Nat → ClassId} {as : Nat → Nat} {A : Nat → Prop} {w w1 : ab_W} {Q : Option ab_V → ab_W → Prop} {Qc : Array Value → State → Outcome → State → Prop} {free : Addr → Prop} (h : ab_Rt G s args D dA as A w Q Qc free) (e : w1.length = w.length) : ab_Rt G s args D dA as A w1 Q Qc free := by
  intro r w' as' H' locs' h1 h2 h3 h4 h5 h6 h7
  exact h r w' as' H' locs' h1 (by omega) (fun i hi => h3 i (by omega)) (fun q => h4 (by omega)) h5 h6 h7
def ab_ft : FieldType → ab_V → Prop
  | .int, .inl _ => True
  | .boolean, .inl a => a = 0 ∨ a = 1
  | .long, .inr (.inl _) => True
  | .object _, .inr (.inr _) => True
  | .array _, .inr (.inr _) => True
  | _, _ => False
theorem ab_ft_ok {ty : FieldType} {v : ab_V} {as : Nat → Nat} (h : ab_ft ty v) : narrow ty (ab_cv as v) = ab_cv as v ∧ fits ty (ab_cv as v) = true := by
  cases ty <;> rcases v with a | a | _ | a <;> first | exact absurd h id | exact ⟨rfl, rfl⟩ | skip
  rcases h with rfl | rfl <;> exact ⟨rfl, rfl⟩
/-- a field's word: by the class's own link, or a nest mate's -/
def ab_lk (G : ab_G) (own : String) (idx : Nat) (q : String × String × String × Bool) : Prop := Cond.fieldLink own idx q.1 q.2.1 q.2.2.1 ∈ G.2.1 ∨ ∃ h, Cond.fieldLinkNest own idx q.1 q.2.1 q.2.2.1 h ∈ G.2.2.1
def ab_fl (G : ab_G) (own : String) (idx ci k : Nat) : Prop := ∃ (C : String) (T : u_T) (N : Nat), G.1[ci]? = some (C, T, N) ∧ k < N ∧ (∀ x ∈ u_ws C T N, x ∈ G.2.1) ∧ ab_lk G own idx (T k)
def ab_fp (G : ab_G) (own nm : String) (idx ci k : Nat) (ty : FieldType) : Prop := ∃ (C : String) (T : u_T) (N : Nat) (ty0 : Nat → FieldType), G.1[ci]? = some (C, T, N) ∧ k < N ∧ (∀ x ∈ u_ws C T N, x ∈ G.2.1) ∧ (∀ j, j < N → parseFieldDescriptor (T j).2.2.1 = some (ty0 j)) ∧ (∀ a, a < N → ∀ b, b < N → a ≠ b → (T a).2.1 ≠ (T b).2.1) ∧ ty0 k = ty ∧
  ((ab_lk G own idx (T k) ∧ (T k).2.2.2 = false) ∨ (Cond.fieldLink own idx (T k).1 (T k).2.1 (T k).2.2.1 ∈ G.2.1 ∧ (T k).2.2.2 = true ∧ nm = "<init>" ∧ (T k).1 = own))
section EVC
variable {G : ab_G} {rs : List String} {M : ab_M} {d bc bs pc : Nat} {l : ab_L} {st : List ab_V} {w : ab_W} {Q : Option ab_V → ab_W → Prop}
theorem ev_getfield {o ci k idx : Nat} {fs : List ab_V} {v : ab_V} (hd : decode M.2.1 pc = .ok (.getfield idx, 3)) (hw : w[o]? = some (ab_ob ci fs)) (hf : ab_fl G M.1.cls idx ci k) (hv : fs[k]? = some v) (kk : ab_Ev G rs M d bc bs (pc + 3) l (v :: st) w Q) : ab_Ev G rs M d bc bs pc l (.inr (.inr (some o)) :: st) w Q := by
  intro p la e R s m args below meth c H locs cells slots D dA aK aV as A ls Qc free hF hs hP hD hS hl h1 h2 hR
  have kk := kk p la e R s m args below meth c H locs cells slots D dA aK aV as A ls Qc free hF hs hP hD hS hl h1 h2 hR
  obtain ⟨hx, hb, -, -, -, ho, -, ht, -, -, hC, -⟩ := hF
  obtain ⟨C, T, N, g1, g2, g3, g4⟩ := hf
  have hv' : (fs.map (ab_cv as))[k]? = some (ab_cv as v) := by rw [List.getElem?_map, hv]; rfl
  rcases g4 with g4 | ⟨h, g4⟩
  · exact va_get hx hb ht (fun x hx => List.mem_cons_of_mem _ (g3 x hx)) ho hC.1 hP o (ab_cw_get hw) g1 k g2 (ht _ (List.mem_cons_of_mem _ g4)) (fun _ h => h) hv' hd kk
  · exact va_getN hx hb ht (fun x hx => List.mem_cons_of_mem _ (g3 x hx)) ho hC.1 hP o (ab_cw_get hw) g1 k g2 (va_Nw.use rfl (hC.2.2.1 _ g4)) (fun _ h => h) hv' hd kk
theorem ev_putfield {o ci k idx : Nat} {fs : List ab_V} {v : ab_V} {ty : FieldType} (hd : decode M.2.1 pc = .ok (.putfield idx, 3)) (hw : w[o]? = some (ab_ob ci fs)) (hf : ab_fp G M.1.cls M.1.name idx ci k ty) (hk : k < fs.length) (hv : ab_ft ty v) (kk : ab_Ev G rs M d bc bs (pc + 3) l st (w.set o (ab_ob ci (fs.set k v))) Q) : ab_Ev G rs M d bc bs pc l (v :: .inr (.inr (some o)) :: st) w Q := by
  intro p la e R s m args below meth c H locs cells slots D dA aK aV as A ls Qc free hF hs hP hD hS hl h1 h2 hR
  have kk := fun H1 locs1 hP1 hD1 hS1 => kk p la e R s m args below meth c H1 locs1 cells slots D dA aK aV as A ls Qc free hF hs hP1 hD1 hS1 hl h1 h2 (hR.len (List.length_set ..))
  obtain ⟨hx, hb, -, -, -, ho, hn, ht, -, -, hC, -⟩ := hF
  obtain ⟨C, T, N, ty0, g1, g2, g3, g5, g6, g7, g4⟩ := hf
  subst g7
  have e1 : ab_cw dA as (w.set o (ab_ob ci (fs.set k v))) = (ab_cw dA as w).set o (as o, .inr (ci, (fs.map (ab_cv as)).set k (ab_cv as v))) := by
    rw [← ab_cw_set]
    show _ = _
    rw [← List.map_set]
    rfl
  rw [e1] at kk
  have hv' := ab_ft_ok (as := as) hv
  rcases g4 with ⟨g4 | ⟨h, g4⟩, gf⟩ | ⟨g4, gf, gi, gc⟩
  · exact va_put hx hb ht (fun x hx => List.mem_cons_of_mem _ (g3 x hx)) ty0 g5 g6 ho hC.1 hP hD hS o (ab_cw_get hw) g1 k g2 (ht _ (List.mem_cons_of_mem _ g4)) (fun _ h => h) gf (g5 k g2) hv'.1 hv'.2 (by simpa using hk) hd kk
  · exact va_putN hx hb ht (fun x hx => List.mem_cons_of_mem _ (g3 x hx)) ty0 g5 g6 ho hC.1 hP hD hS o (ab_cw_get hw) g1 k g2 (va_Nw.use rfl (hC.2.2.1 _ g4)) (fun _ h => h) gf (g5 k g2) hv'.1 hv'.2 (by simpa using hk) hd kk
  · exact va_putF hx hb ht (fun x hx => List.mem_cons_of_mem _ (g3 x hx)) ty0 g5 g6 ho hC.1 hP hD hS o (ab_cw_get hw) g1 k g2 (ht _ (List.mem_cons_of_mem _ g4)) (fun _ h => h) gf (hn.trans gi) gc (g5 k g2) hv'.1 hv'.2 (by simpa using hk) hd kk

theorem ev_iaload {o n : Nat} {f : Int → Int} {j : Int} (hd : decode M.2.1 pc = .ok (.iaload, 1)) (hw : w[o]? = some (ab_ai 0 n f)) (h0 : 0 ≤ j) (hn : j < n) (hj : ab_in j) (kk : ab_Ev G rs M d bc bs (pc + 1) l (.inl (f j) :: st) w Q) : ab_Ev G rs M d bc bs pc l (.inl j :: .inr (.inr (some o)) :: st) w Q := by
  intro p la e R s m args below meth c H locs cells slots D dA aK aV as A ls Qc free hF hs hP hD hS hl h1 h2 hR
  have kk := kk p la e R s m args below meth c H locs cells slots D dA aK aV as A ls Qc free hF hs hP hD hS hl h1 h2 hR
  obtain ⟨hx, hb, -, -, -, ho, -, ht, -, -, hC, -⟩ := hF
  refine va_iald hx hb hC.1 hP o 0 (ab_cw_get hw) rfl (ab_ix h0 hn hj) hd ?_
  rw [ab_tn hj]
  have e1 : ((j.toNat : Nat) : Int) = j := Int.toNat_of_nonneg h0
  show W p la e R s m args below meth c H locs cells slots _ (F0 m (pc + 1) ls (.int (Int32.ofInt (f ((j.toNat : Nat) : Int))) :: _))
  rw [e1]
  exact kk
theorem ev_baload {o n : Nat} {f : Int → Int} {j : Int} (hd : decode M.2.1 pc = .ok (.baload, 1)) (hw : w[o]? = some (ab_ai 1 n f)) (h0 : 0 ≤ j) (hn : j < n) (hj : ab_in j) (kk : ab_Ev G rs M d bc bs (pc + 1) l (.inl (f j) :: st) w Q) : ab_Ev G rs M d bc bs pc l (.inl j :: .inr (.inr (some o)) :: st) w Q := by
  intro p la e R s m args below meth c H locs cells slots D dA aK aV as A ls Qc free hF hs hP hD hS hl h1 h2 hR
  have kk := kk p la e R s m args below meth c H locs cells slots D dA aK aV as A ls Qc free hF hs hP hD hS hl h1 h2 hR
  obtain ⟨hx, hb, -, -, -, ho, -, ht, -, -, hC, -⟩ := hF
  refine va_bald hx hb hC.1 hP o 1 (ab_cw_get hw) rfl (ab_ix h0 hn hj) hd ?_
  rw [ab_tn hj]
  have e1 : ((j.toNat : Nat) : Int) = j := Int.toNat_of_nonneg h0
  show W p la e R s m args below meth c H locs cells slots _ (F0 m (pc + 1) ls (.int (Int32.ofInt (f ((j.toNat : Nat) : Int))) :: _))
  rw [e1]
  exact kk
theorem ev_zaload {o n : Nat} {f : Int → Int} {j : Int} (hd : decode M.2.1 pc = .ok (.baload, 1)) (hw : w[o]? = some (ab_ai 2 n f)) (h0 : 0 ≤ j) (hn : j < n) (hj : ab_in j) (kk : ab_Ev G rs M d bc bs (pc + 1) l (.inl (f j) :: st) w Q) : ab_Ev G rs M d bc bs pc l (.inl j :: .inr (.inr (some o)) :: st) w Q := by
  intro p la e R s m args below meth c H locs cells slots D dA aK aV as A ls Qc free hF hs hP hD hS hl h1 h2 hR
  have kk := kk p la e R s m args below meth c H locs cells slots D dA aK aV as A ls Qc free hF hs hP hD hS hl h1 h2 hR
  obtain ⟨hx, hb, -, -, -, ho, -, ht, -, -, hC, -⟩ := hF
  refine va_zald hx hb hC.1 hP o 2 (ab_cw_get hw) rfl (ab_ix h0 hn hj) hd ?_
  rw [ab_tn hj]
  have e1 : ((j.toNat : Nat) : Int) = j := Int.toNat_of_nonneg h0
  show W p la e R s m args below meth c H locs cells slots _ (F0 m (pc + 1) ls (.int (Int32.ofInt (f ((j.toNat : Nat) : Int))) :: _))
  rw [e1]
  exact kk
theorem ev_laload {o n : Nat} {f : Int → Int64} {j : Int} (hd : decode M.2.1 pc = .ok (.laload, 1)) (hw : w[o]? = some (ab_al n f)) (h0 : 0 ≤ j) (hn : j < n) (hj : ab_in j) (kk : ab_Ev G rs M d bc bs (pc + 1) l (.inr (.inl (f j)) :: st) w Q) : ab_Ev G rs M d bc bs pc l (.inl j :: .inr (.inr (some o)) :: st) w Q := by
  intro p la e R s m args below meth c H locs cells slots D dA aK aV as A ls Qc free hF hs hP hD hS hl h1 h2 hR
  have kk := kk p la e R s m args below meth c H locs cells slots D dA aK aV as A ls Qc free hF hs hP hD hS hl h1 h2 hR
  obtain ⟨hx, hb, -, -, -, ho, -, ht, -, -, hC, -⟩ := hF
  refine va_lald hx hb hC.1 hP o 3 (ab_cw_get hw) rfl (ab_ix h0 hn hj) hd ?_
  rw [ab_tn hj]
  have e1 : ((j.toNat : Nat) : Int) = j := Int.toNat_of_nonneg h0
  show W p la e R s m args below meth c H locs cells slots _ (F0 m (pc + 1) ls (.long (f ((j.toNat : Nat) : Int)) :: _))
  rw [e1]
  exact kk
theorem ab_upok {n : Nat} {f : Int → Int} {j : Int} {x : Int} (h0 : 0 ≤ j) : upd (fun k : Nat => Int32.ofInt (f (k : Int))) j.toNat (Int32.ofInt x) = fun k : Nat => Int32.ofInt (ab_up f j x (k : Int)) := by
  funext k
  unfold upd ab_up
  by_cases h : k = j.toNat
  · rw [if_pos h, if_pos (by omega)]
  · rw [if_neg h, if_neg (by omega)]
theorem ab_upokL {f : Int → Int64} {j : Int} {x : Int64} (h0 : 0 ≤ j) : vp_updL (fun k : Nat => f (k : Int)) j.toNat x = fun k : Nat => ab_up f j x (k : Int) := by
  funext k
  unfold vp_updL ab_up
  by_cases h : k = j.toNat
  · rw [if_pos h, if_pos (by omega)]
  · rw [if_neg h, if_neg (by omega)]
theorem ab_upokR {f : Int → Option Nat} {as : Nat → Nat} {j : Int} {x : Nat} (h0 : 0 ≤ j) : va_up (fun k : Nat => (f (k : Int)).map as) j.toNat (some (as x)) = fun k : Nat => (ab_up f j (some x) (k : Int)).map as := by
  funext k
  unfold va_up ab_up
  by_cases h : k = j.toNat
  · rw [if_pos h, if_pos (by omega)]; rfl
  · rw [if_neg h, if_neg (by omega)]
theorem ev_iastore {o n : Nat} {f : Int → Int} {j x : Int} (hd : decode M.2.1 pc = .ok (.iastore, 1)) (hw : w[o]? = some (ab_ai 0 n f)) (h0 : 0 ≤ j) (hn : j < n) (hj : ab_in j) (kk : ab_Ev G rs M d bc bs (pc + 1) l st (w.set o (ab_ai 0 n (ab_up f j x))) Q) : ab_Ev G rs M d bc bs pc l (.inl x :: .inl j :: .inr (.inr (some o)) :: st) w Q := by
  intro p la e R s m args below meth c H locs cells slots D dA aK aV as A ls Qc free hF hs hP hD hS hl h1 h2 hR
  have kk := fun H1 locs1 hP1 hD1 hS1 => kk p la e R s m args below meth c H1 locs1 cells slots D dA aK aV as A ls Qc free hF hs hP1 hD1 hS1 hl h1 h2 (hR.len (List.length_set ..))
  obtain ⟨hx, hb, -, -, -, ho, hn, ht, -, -, hC, -⟩ := hF
  rw [← ab_cw_set] at kk
  refine va_iast hx hb hC.1 hP hD hS o 0 (ab_cw_get hw) rfl (ab_ix h0 ‹_› hj) hd ?_
  rw [ab_tn hj, ab_upok (n := n) h0]
  exact kk
theorem ev_bastore {o n : Nat} {f : Int → Int} {j x : Int} (hd : decode M.2.1 pc = .ok (.bastore, 1)) (hw : w[o]? = some (ab_ai 1 n f)) (h0 : 0 ≤ j) (hn : j < n) (hj : ab_in j) (kk : ab_Ev G rs M d bc bs (pc + 1) l st (w.set o (ab_ai 1 n (ab_up f j (x.bmod 256)))) Q) : ab_Ev G rs M d bc bs pc l (.inl x :: .inl j :: .inr (.inr (some o)) :: st) w Q := by
  intro p la e R s m args below meth c H locs cells slots D dA aK aV as A ls Qc free hF hs hP hD hS hl h1 h2 hR
  have kk := fun H1 locs1 hP1 hD1 hS1 => kk p la e R s m args below meth c H1 locs1 cells slots D dA aK aV as A ls Qc free hF hs hP1 hD1 hS1 hl h1 h2 (hR.len (List.length_set ..))
  obtain ⟨hx, hb, -, -, -, ho, hn, ht, -, -, hC, -⟩ := hF
  rw [← ab_cw_set] at kk
  refine va_bast hx hb hC.1 hP hD hS o 1 (ab_cw_get hw) rfl (ab_ix h0 ‹_› hj) hd ?_
  rw [ab_tn hj, vp_nar_byte, ab_i2b, ab_upok (n := n) h0]
  exact kk
theorem ev_zastore {o n : Nat} {f : Int → Int} {j x : Int} (hd : decode M.2.1 pc = .ok (.bastore, 1)) (hw : w[o]? = some (ab_ai 2 n f)) (h0 : 0 ≤ j) (hn : j < n) (hj : ab_in j) (hx : x = 0 ∨ x = 1) (kk : ab_Ev G rs M d bc bs (pc + 1) l st (w.set o (ab_ai 2 n (ab_up f j x))) Q) : ab_Ev G rs M d bc bs pc l (.inl x :: .inl j :: .inr (.inr (some o)) :: st) w Q := by
  intro p la e R s m args below meth c H locs cells slots D dA aK aV as A ls Qc free hF hs hP hD hS hl h1 h2 hR
  have kk := fun H1 locs1 hP1 hD1 hS1 => kk p la e R s m args below meth c H1 locs1 cells slots D dA aK aV as A ls Qc free hF hs hP1 hD1 hS1 hl h1 h2 (hR.len (List.length_set ..))
  obtain ⟨hx', hb, -, -, -, ho, hn, ht, -, -, hC, -⟩ := hF
  rw [← ab_cw_set] at kk
  refine va_zast hx' hb hC.1 hP hD hS o 2 (ab_cw_get hw) rfl (ab_ix h0 ‹_› hj) hd ?_
  have e : vp_nar .boolean (Int32.ofInt x) = Int32.ofInt x := by rcases hx with rfl | rfl <;> decide
  rw [ab_tn hj, e, ab_upok (n := n) h0]
  exact kk
theorem ev_lastore {o n : Nat} {f : Int → Int64} {j : Int} {x : Int64} (hd : decode M.2.1 pc = .ok (.lastore, 1)) (hw : w[o]? = some (ab_al n f)) (h0 : 0 ≤ j) (hn : j < n) (hj : ab_in j) (kk : ab_Ev G rs M d bc bs (pc + 1) l st (w.set o (ab_al n (ab_up f j x))) Q) : ab_Ev G rs M d bc bs pc l (.inr (.inl x) :: .inl j :: .inr (.inr (some o)) :: st) w Q := by
  intro p la e R s m args below meth c H locs cells slots D dA aK aV as A ls Qc free hF hs hP hD hS hl h1 h2 hR
  have kk := fun H1 locs1 hP1 hD1 hS1 => kk p la e R s m args below meth c H1 locs1 cells slots D dA aK aV as A ls Qc free hF hs hP1 hD1 hS1 hl h1 h2 (hR.len (List.length_set ..))
  obtain ⟨hx, hb, -, -, -, ho, hn, ht, -, -, hC, -⟩ := hF
  rw [← ab_cw_set] at kk
  refine va_last hx hb hC.1 hP hD hS o 3 (ab_cw_get hw) rfl (ab_ix h0 ‹_› hj) hd ?_
  rw [ab_tn hj, ab_upokL h0]
  exact kk
theorem ab_tyR {G : ab_G} {rs : List String} {dA : Nat → ClassId} {t : Nat} {C : String} (h : rs[t]? = some C) : (ab_ty G rs dA)[4 + t]? = some (dA (4 + t), .object C) := by
  unfold ab_ty
  rw [List.getElem?_append_right (by simp)]
  simp only [List.length_cons, List.length_nil]
  rw [List.getElem?_mapIdx, show 4 + t - (0 + 1 + 1 + 1 + 1) = t by omega, h]
  rfl
theorem ev_aaload {o n t x : Nat} {C : String} {f : Int → Option Nat} {j : Int} (hd : decode M.2.1 pc = .ok (.aaload, 1)) (hw : w[o]? = some (ab_ar (4 + t) n f)) (ht : rs[t]? = some C) (h0 : 0 ≤ j) (hn : j < n) (hj : ab_in j) (hx : f j = some x) (kk : ab_Ev G rs M d bc bs (pc + 1) l (.inr (.inr (some x)) :: st) w Q) : ab_Ev G rs M d bc bs pc l (.inl j :: .inr (.inr (some o)) :: st) w Q := by
  intro p la e R s m args below meth c H locs cells slots D dA aK aV as A ls Qc free hF hs hP hD hS hl h1 h2 hR
  have kk := kk p la e R s m args below meth c H locs cells slots D dA aK aV as A ls Qc free hF hs hP hD hS hl h1 h2 hR
  obtain ⟨hx', hb, -, -, -, ho, -, -, -, -, hC, -⟩ := hF
  refine va_aldq hx' hb hC.1 hP o (4 + t) (ab_cw_get hw) (ab_tyR ht) (ab_ix h0 hn hj) hd ?_
  rw [ab_tn hj]
  have e1 : ((j.toNat : Nat) : Int) = j := Int.toNat_of_nonneg h0
  show W p la e R s m args below meth c H locs cells slots _ (F0 m (pc + 1) ls (va_rf ((f ((j.toNat : Nat) : Int)).map as) :: _))
  rw [e1, hx]
  exact kk
theorem ev_aastore {o n t x ci : Nat} {r : vw_C} {fs : List ab_V} {f : Int → Option Nat} {j : Int} (hd : decode M.2.1 pc = .ok (.aastore, 1)) (hw : w[o]? = some (ab_ar (4 + t) n f)) (ht : rs[t]? = some r.1) (hc : G.1[ci]? = some r) (hv : w[x]? = some (ab_ob ci fs)) (h0 : 0 ≤ j) (hn : j < n) (hj : ab_in j) (kk : ab_Ev G rs M d bc bs (pc + 1) l st (w.set o (ab_ar (4 + t) n (ab_up f j (some x)))) Q) : ab_Ev G rs M d bc bs pc l (.inr (.inr (some x)) :: .inl j :: .inr (.inr (some o)) :: st) w Q := by
  intro p la e R s m args below meth c H locs cells slots D dA aK aV as A ls Qc free hF hs hP hD hS hl h1 h2 hR
  have kk := fun H1 locs1 hP1 hD1 hS1 => kk p la e R s m args below meth c H1 locs1 cells slots D dA aK aV as A ls Qc free hF hs hP1 hD1 hS1 hl h1 h2 (hR.len (List.length_set ..))
  obtain ⟨hx', hb, -, -, -, ho, -, -, -, -, hC, -⟩ := hF
  rw [← ab_cw_set] at kk
  refine va_astq hx' hb hC.1 hP hD hS o (4 + t) x ci (ab_cw_get hw) (ab_tyR ht) (ab_cw_get hv) hc (ab_ix h0 ‹_› hj) hd ?_
  rw [ab_tn hj, ab_upokR h0]
  exact kk
theorem ev_alen {o : Nat} {E : ab_E} {n : Nat} {t : Nat} (hd : decode M.2.1 pc = .ok (.arraylength, 1)) (hw : w[o]? = some E) (hE : (∃ t f, t < 3 ∧ E = ab_ai t n f) ∨ (∃ f, E = ab_al n f) ∨ ∃ t f C, rs[t]? = some C ∧ E = ab_ar (4 + t) n f) (kk : ab_Ev G rs M d bc bs (pc + 1) l (.inl (n : Int) :: st) w Q) : ab_Ev G rs M d bc bs pc l (.inr (.inr (some o)) :: st) w Q := by
  intro p la e R s m args below meth c H locs cells slots D dA aK aV as A ls Qc free hF hs hP hD hS hl h1 h2 hR
  have kk := kk p la e R s m args below meth c H locs cells slots D dA aK aV as A ls Qc free hF hs hP hD hS hl h1 h2 hR
  obtain ⟨hx', hb, -, -, -, ho, -, -, -, -, hC, -⟩ := hF
  rcases hE with ⟨t, f, h3, rfl⟩ | ⟨f, rfl⟩ | ⟨t, f, C, h3, rfl⟩
  · have ht : ∃ ty, (ab_ty G rs dA)[t]? = some (dA t, ty) := by
      rcases (by omega : t = 0 ∨ t = 1 ∨ t = 2) with rfl | rfl | rfl <;> exact ⟨_, rfl⟩
    obtain ⟨ty, ht⟩ := ht
    exact va_alen hx' hb hC.1 hP o t (ab_cw_get hw) ht rfl hd kk
  · exact va_alen hx' hb hC.1 hP o 3 (ab_cw_get hw) (ty := .long) rfl rfl hd kk
  · exact va_alen hx' hb hC.1 hP o (4 + t) (ab_cw_get hw) (ab_tyR h3) rfl hd kk
/-! returns -/
theorem ab_ret {r : Option ab_V} {s : State} {args : Array Value} {D : va_G} {dA : Nat → ClassId} {as : Nat → Nat} {A : Nat → Prop} {Qc : Array Value → State → Outcome → State → Prop} {free : Addr → Prop} {H : Heap} {locs : List Loc} (hR : ab_Rt G s args D dA as A w Q Qc free) (hq : Q r w) (hP : va_P D G.1 (ab_cw dA as w) H) (hD : va_D A (ab_cw dA as w)) (hS : va_S A s.heap H locs) : (∀ t : State, t.heap = H → s.WarmedH t.vm → Qc args s (.returned (r.map (ab_cv as))) t) ∧ ∀ q ∈ locs, free q.base := hR r w as H locs hq (Nat.le_refl _) (fun _ _ => rfl) (fun _ => rfl) hP hD hS
theorem ev_return (hd : decode M.2.1 pc = .ok (.return_, 1)) (hr : M.2.2.2 = none) (hq : Q none w) : ab_Ev G rs M d bc bs pc l [] w Q := by
  intro p la e R s m args below meth c H locs cells slots D dA aK aV as A ls Qc free hF hs hP hD hS hl h1 h2 hR
  obtain ⟨hx, hb, -, hr', hlk, -⟩ := hF
  have h := ab_ret hR hq hP hD hS
  exact W.widen (k := R.cells) (n := R.slots) (by omega) (by omega) (W.vret hx hb (hr'.trans hr) h.1 h.2 hd)
theorem ev_ireturn {a : Int} (hd : decode M.2.1 pc = .ok (.ireturn, 1)) (hr : M.2.2.2 = some .int) (hq : Q (some (.inl a)) w) : ab_Ev G rs M d bc bs pc l [.inl a] w Q := by
  intro p la e R s m args below meth c H locs cells slots D dA aK aV as A ls Qc free hF hs hP hD hS hl h1 h2 hR
  obtain ⟨hx, hb, -, hr', hlk, -⟩ := hF
  have h := ab_ret hR hq hP hD hS
  exact W.widen (k := R.cells) (n := R.slots) (by omega) (by omega) (W.iret hx hb (hr'.trans hr) h.1 h.2 hd)
theorem ev_zreturn {a : Int} (hd : decode M.2.1 pc = .ok (.ireturn, 1)) (hr : M.2.2.2 = some .boolean) (ha : a = 0 ∨ a = 1) (hq : Q (some (.inl a)) w) : ab_Ev G rs M d bc bs pc l [.inl a] w Q := by
  intro p la e R s m args below meth c H locs cells slots D dA aK aV as A ls Qc free hF hs hP hD hS hl h1 h2 hR
  obtain ⟨hx, hb, -, hr', hlk, -⟩ := hF
  have h := ab_ret hR hq hP hD hS
  exact W.widen (k := R.cells) (n := R.slots) (by omega) (by omega) (W.zret hx hb (hr'.trans hr) (by rcases ha with rfl | rfl <;> decide) h.1 h.2 hd)
theorem ev_lreturn {a : Int64} (hd : decode M.2.1 pc = .ok (.lreturn, 1)) (hr : M.2.2.2 = some .long) (hq : Q (some (.inr (.inl a))) w) : ab_Ev G rs M d bc bs pc l [.inr (.inl a)] w Q := by
  intro p la e R s m args below meth c H locs cells slots D dA aK aV as A ls Qc free hF hs hP hD hS hl h1 h2 hR
  obtain ⟨hx, hb, -, hr', hlk, -⟩ := hF
  have h := ab_ret hR hq hP hD hS
  exact W.widen (k := R.cells) (n := R.slots) (by omega) (by omega) (W.lret hx hb (hr'.trans hr) h.1 h.2 hd)
theorem ev_areturn {a : Nat} {rt : FieldType} (hd : decode M.2.1 pc = .ok (.areturn, 1)) (hr : M.2.2.2 = some rt) (hrt : (∃ n, rt = .object n) ∨ ∃ t, rt = .array t) (hq : Q (some (.inr (.inr (some a)))) w) : ab_Ev G rs M d bc bs pc l [.inr (.inr (some a))] w Q := by
  intro p la e R s m args below meth c H locs cells slots D dA aK aV as A ls Qc free hF hs hP hD hS hl h1 h2 hR
  obtain ⟨hx, hb, -, hr', hlk, -⟩ := hF
  have h := ab_ret hR hq hP hD hS
  exact W.widen (k := R.cells) (n := R.slots) (by omega) (by omega) (W.aret hx hb (hr'.trans hr) hrt (Or.inr ⟨_, rfl⟩) h.1 h.2 hd)
end EVC
end
section
/-! rules: calls, what is made, copies -/
def ab_ok (n : Nat) : ab_V → Prop
  | .inr (.inr (some i)) => i < n ∨ ab_sb ≤ i
  | _ => True
def ab_okL (n : Nat) (l : ab_L) : Prop := ∀ (i : Nat) (v : ab_V), l[i]? = some (some v) → ab_ok n v
def ab_okS (n : Nat) (st : List ab_V) : Prop := ∀ v ∈ st, ab_ok n v
def ab_okE (n : Nat) : ab_E → Prop
  | .inr (.inr (.inl (_, _, f))) => ∀ (k : Int) (i : Nat), f k = some i → i < n ∨ ab_sb ≤ i
  | .inr (.inr (.inr (_, fs))) => ab_okS n fs
  | _ => True
def ab_okW (w : ab_W) : Prop := ∀ e ∈ w, ab_okE w.length e
theorem ab_ok_cv {n : Nat} {v : ab_V} {as as1 : Nat → Nat} (h : ab_ok n v) (ha : ∀ i, (i < n ∨ ab_sb ≤ i) → as1 i = as i) : ab_cv as1 v = ab_cv as v := by
  rcases v with a | a | _ | i <;> first | rfl | (show Value.ref (as1 i) = Value.ref (as i); rw [ha i h])
theorem ab_ok_map {n : Nat} {st : List ab_V} {as as1 : Nat → Nat} (h : ab_okS n st) (ha : ∀ i, (i < n ∨ ab_sb ≤ i) → as1 i = as i) : st.map (ab_cv as1) = st.map (ab_cv as) := List.map_congr_left (fun v hv => ab_ok_cv (h v hv) ha)
theorem ab_ok_lo {n nL : Nat} {l : ab_L} {ls : Array Slot} {as as1 : Nat → Nat} (h : ab_okL n l) (ha : ∀ i, (i < n ∨ ab_sb ≤ i) → as1 i = as i) (hl : ab_lo as ls nL l) : ab_lo as1 ls nL l := by
  obtain ⟨h1, lv, h2, h3⟩ := hl
  exact ⟨h1, lv, h2, fun i v hi => by rw [ab_ok_cv (h i v hi) ha]; exact h3 i v hi⟩
theorem ab_ok_ce {n : Nat} {E : ab_E} {dA : Nat → ClassId} {as as1 : Nat → Nat} (h : ab_okE n E) (ha : ∀ i, (i < n ∨ ab_sb ≤ i) → as1 i = as i) : ab_ce dA as1 E = ab_ce dA as E := by
  rcases E with ⟨t, m, f⟩ | ⟨m, f⟩ | ⟨t, m, f⟩ | ⟨ci, fs⟩
  · rfl
  · rfl
  · have e : (fun k : Nat => (f (k : Int)).map as1) = fun k : Nat => (f (k : Int)).map as := by
      funext k
      cases hf : f (k : Int) with
      | none => rfl
      | some i => exact congrArg some (ha i (h k i hf))
    show Sum.inl _ = Sum.inl _
    rw [e]
  · show Sum.inr _ = Sum.inr _
    rw [ab_ok_map h ha]
theorem ab_cw_push {w : ab_W} {E : ab_E} {dA : Nat → ClassId} {as as1 : Nat → Nat} (h : ab_okW w) (ha : ∀ i, (i < w.length ∨ ab_sb ≤ i) → as1 i = as i) : ab_cw dA as1 (w ++ [E]) = ab_cw dA as w ++ [(as1 w.length, ab_ce dA as1 E)] := by
  apply List.ext_getElem?
  intro i
  unfold ab_cw
  rw [List.getElem?_mapIdx]
  by_cases hi : i < w.length
  · rw [List.getElem?_append_left hi, List.getElem?_append_left (by rw [List.length_mapIdx]; exact hi), List.getElem?_mapIdx, List.getElem?_eq_getElem hi]
    show some (as1 i, ab_ce dA as1 w[i]) = some (as i, ab_ce dA as w[i])
    rw [ha i (Or.inl hi), ab_ok_ce (h _ (List.getElem_mem hi)) ha]
  · rw [List.getElem?_append_right (by omega), List.getElem?_append_right (by rw [List.length_mapIdx]; omega), List.length_mapIdx]
    by_cases he : i = w.length
    · subst he
      simp
    · rw [List.getElem?_eq_none (by simp; omega), List.getElem?_eq_none (by simp; omega)]
      rfl
theorem ab_sub {dA : Nat → ClassId} {as : Nat → Nat} {w : ab_W} {A : Nat → Prop} {H0 H : Heap} {locs : List Loc} (hD : va_D A (ab_cw dA as w)) (hS : va_S A H0 H locs) (hA : ∀ q, H0.size ≤ q → A q) : ∀ q, va_A (ab_cw dA as w) H.size q → A q := by
  intro q h
  rcases h with ⟨k, e, h⟩ | h
  · exact hD.2 k (q, e) h
  · exact hA q (Nat.le_trans hS.1 h)
/-- what a contract says at its end -/
def ab_Qc (G : ab_G) (D : va_G) (dA : Nat → ClassId) (as : Nat → Nat) (w : ab_W) (sz : Nat) (Q : Option ab_V → ab_W → Prop) : Array Value → State → Outcome → State → Prop := fun _ st oc t => (∃ (r : Option ab_V) (w' : ab_W) (as' : Nat → Nat), Q r w' ∧ w.length ≤ w'.length ∧ (∀ i, (i < w.length ∨ ab_sb ≤ i) → as' i = as i) ∧ (w'.length = w.length → as' = as) ∧ oc = .returned (r.map (ab_cv as')) ∧ va_P D G.1 (ab_cw dA as' w') t.heap ∧ va_D (va_A (ab_cw dA as w) sz) (ab_cw dA as' w')) ∧ va_F (va_A (ab_cw dA as w) sz) st t
def ab_Pc (G : ab_G) (rs : List String) (D : va_G) (dA : Nat → ClassId) (aK aV as : Nat → Nat) (w : ab_W) (sz : Nat) : State → Prop := fun U => U.heap.size = sz ∧ va_P D G.1 (ab_cw dA as w) U.heap ∧ va_D (fun _ => True) (ab_cw dA as w) ∧ ab_Cx G rs D dA aK aV (va_A (ab_cw dA as w) sz) U U.heap
theorem ab_Pc_blind {G : ab_G} {rs : List String} {D : va_G} {dA : Nat → ClassId} {aK aV as : Nat → Nat} {w : ab_W} {sz : Nat} {av : List Value} : FrameBlind (va_Pc av (ab_Pc G rs D dA aK aV as w sz)) := fun a U g mk q => ⟨q.1, q.2.1, q.2.2.1, q.2.2.2.1, ab_Cx.same (u := U) (U := U.calling g mk a) rfl q.2.2.2.2⟩
theorem ab_Pc_at {G : ab_G} {rs : List String} {M : ab_M} {d : Nat} {p : Program} {R : Room} {s : State} {m : MethodId} {args : Array Value} {meth : Method} {c : Code} {D : va_G} {dA : Nat → ClassId} {aK aV as : Nat → Nat} {A : Nat → Prop} {w : ab_W} {H : Heap} {locs : List Loc} {av : List Value} (hF : ab_Fx G rs M d p R s m args meth c D dA aK aV A) (hP : va_P D G.1 (ab_cw dA as w) H) (hD : va_D A (ab_cw dA as w)) (hS : va_S A s.heap H locs) : ∀ U : State, U.heap = H → s.WarmedH U.vm → va_Pc av (ab_Pc G rs D dA aK aV as w H.size) av.toArray U := by
  intro U hU hW
  obtain ⟨-, -, -, -, -, -, -, -, -, -, hC, hA⟩ := hF
  refine ⟨rfl, by rw [hU], by rw [hU]; exact hP, hD.weaken (fun _ _ _ _ => trivial), ?_⟩
  rw [hU]
  exact hC.warm hW hS.2.1 (ab_sub hD hS hA)
section EVD
variable {G : ab_G} {rs : List String} {M : ab_M} {d bc bs pc : Nat} {l : ab_L} {st : List ab_V} {w : ab_W} {Q : Option ab_V → ab_W → Prop}
theorem ab_after {Q1 : Option ab_V → ab_W → Prop} {mc ms : Nat} {p : Program} {la : Launch} {e : Env} {R : Room} {s : State} {m : MethodId} {args : Array Value} {below : List Frame} {meth : Method} {c : Code} {H : Heap} {locs : List Loc} {cells slots : Nat} {D : va_G} {dA : Nat → ClassId} {aK aV as : Nat → Nat} {A : Nat → Prop} {ls : Array Slot} {Qc : Array Value → State → Outcome → State → Prop} {free : Addr → Prop} {st0 : List Value} {a : Array Value}
    (hF : ab_Fx G rs M d p R s m args meth c D dA aK aV A) (hs : ∀ i, i < G.2.2.2.2.1.length → as (ab_sb + i) = aK i) (hP : va_P D G.1 (ab_cw dA as w) H) (hD : va_D A (ab_cw dA as w)) (hS : va_S A s.heap H locs) (hl : ab_lo as ls M.2.2.1 l) (h1 : cells + (bc + mc) ≤ R.cells) (h2 : slots + (bs + ms) ≤ R.slots) (hR : ab_Rt G s args D dA as A w Q Qc free)
    (hrun : va_Run p la e R s m args below meth c H locs cells slots mc ms (F0 m pc ls st0) (st.map (ab_cv as)) (ab_Qc G D dA as w H.size Q1 a) (va_A (ab_cw dA as w) H.size))
    (hok : (∀ r w1, Q1 r w1 → w1.length = w.length) ∨ (ab_okL w.length l ∧ ab_okS w.length st))
    (kk : ∀ r w1, Q1 r w1 → ab_Ev G rs M d bc bs (pc + 3) l (r.toList ++ st) w1 Q) : W p la e R s m args below meth c H locs cells slots (MQ below Qc args s R.cells R.slots free) (F0 m pc ls st0) := by
  have hA := hF.2.2.2.2.2.2.2.2.2.2.2
  have hsub := ab_sub hD hS hA
  intro T hT X
  obtain ⟨v, st₀, t, T', L, h0, X', hL, e1, e2, ⟨⟨r, w1, as1, q1, q2, q3, q4, q5, q6, q7⟩, hz, hk⟩, stp⟩ := hrun T hT X
  cases q5
  rw [h0] at hz hk
  have hlo : ab_lo as1 ls M.2.2.1 l ∧ st.map (ab_cv as1) = st.map (ab_cv as) := by
    rcases hok with h | h
    · rw [q4 (h r w1 q1)]
      exact ⟨hl, rfl⟩
    · exact ⟨ab_ok_lo h.1 q3 hl, ab_ok_map h.2 q3⟩
  have hS1 : va_S A s.heap T'.heap (locs ++ L) := ⟨Nat.le_trans hS.1 (by rw [e1]; exact hz), fun q g1 g2 => by rw [e1, hk q (Nat.lt_of_lt_of_le g1 hS.1) (fun z => g2 (hsub q z))]; exact hS.2.1 q g1 g2, fun q hq => by
      rcases List.mem_append.mp hq with h | h
      · exact hS.2.2 q h
      · exact hsub _ (hL q h)⟩
  have hR1 : ab_Rt G s args D dA as1 A w1 Q Qc free := by
    intro r' w' as' H' locs' g1 g2 g3 g4 g5 g6 g7
    refine hR r' w' as' H' locs' g1 (by omega) (fun i hi => ?_) (fun z => ?_) g5 g6 g7
    · rw [g3 i (by omega), q3 i hi]
    · rw [g4 (by omega), q4 (by omega)]
  obtain ⟨t2, a1, b1⟩ := kk r w1 q1 p la e R s m args below meth c T'.heap (locs ++ L) (cells + mc) (slots + ms) D dA aK aV as1 A ls Qc free hF (fun i hi => by rw [q3 _ (Or.inr (Nat.le_add_right _ _))]; exact hs i hi) (by rw [e1]; exact q6) (q7.weaken (fun k q _ h => hsub q.1 h)) hS1 hlo.1 (by omega) (by omega) hR1 T' rfl X'
  refine ⟨t2, stp t2 ?_, b1⟩
  have e3 : (r.map (ab_cv as1)).toList ++ st.map (ab_cv as) = (r.toList ++ st).map (ab_cv as1) := by
    rw [← hlo.2]
    cases r <;> simp
  show Steps p.tables e below (T'.setTop (F0 m (pc + 3) ls ((r.map (ab_cv as1)).toList ++ st.map (ab_cv as)))) t2
  rw [e3]
  exact a1
/-- the words of a call -/
def ab_kb (G : ab_G) (own : String) (idx : Nat) (cm : ab_M) (n : Nat) : Prop := (∀ x ∈ G.2.1, goodWord x = true) ∧ Cond.code cm.1 cm.2.1 cm.2.2.1 cm.2.2.2 ∈ G.2.1 ∧ Cond.initialized cm.1.cls ∈ G.2.1 ∧ (Cond.methodLink own idx cm.1 ∈ G.2.1 ∨ ∃ h, Cond.methodLinkNest own idx cm.1 h ∈ G.2.2.1) ∧ (cm.1.cls ≠ "java/lang/invoke/MethodHandle" ∧ cm.1.cls ≠ "java/lang/invoke/VarHandle" ∧ (parseMethodDescriptor cm.1.desc).map (fun q => q.parameters.length) = some n) ∧ cm.2.2.1 ≤ 40
theorem ab_kgood {own : String} {idx n : Nat} {cm : ab_M} (h : ab_kb G own idx cm n) : GoodIn (ab_ws G M) (ab_ws G cm) := by
  intro x hx
  rcases List.mem_cons.mp hx with rfl | hx
  · exact ⟨List.mem_cons_of_mem _ h.2.1, good_of_word (h.1 _ h.2.1)⟩
  · exact ⟨List.mem_cons_of_mem _ hx, good_of_word (h.1 _ hx)⟩
theorem ab_wsum (as : Nat → Nat) : ∀ st : List ab_V, ((st.map (ab_cv as)).map fun v => v.category).sum = ab_wd st
  | [] => rfl
  | .inl a :: vs => by rw [List.map_cons, List.map_cons, List.sum_cons, ab_wsum as vs]; rfl
  | .inr (.inl a) :: vs => by rw [List.map_cons, List.map_cons, List.sum_cons, ab_wsum as vs]; rfl
  | .inr (.inr none) :: vs => by rw [List.map_cons, List.map_cons, List.sum_cons, ab_wsum as vs]; rfl
  | .inr (.inr (some a)) :: vs => by rw [List.map_cons, List.map_cons, List.sum_cons, ab_wsum as vs]; rfl
theorem ev_static {cm : ab_M} {idx d' mc ms : Nat} {av st0 : List ab_V} {Q1 : Option ab_V → ab_W → Prop} (hd : decode M.2.1 pc = .ok (.invokestatic idx, 3)) (hm : ab_Mt G rs cm d' mc ms av w Q1) (hk : ab_kb G M.1.cls idx cm av.length) (hst : Cond.static cm.1 ∈ G.2.1) (h0 : st0 = av.reverse ++ st) (hw : ab_wd st ≤ 8) (hdd : d' + 1 ≤ d) (hok : (∀ r w1, Q1 r w1 → w1.length = w.length) ∨ (ab_okL w.length l ∧ ab_okS w.length st))
    (kk : ∀ r w1, Q1 r w1 → ab_Ev G rs M d bc bs (pc + 3) l (r.toList ++ st) w1 Q) : ab_Ev G rs M d (bc + mc) (bs + ms) pc l st0 w Q := by
  intro p la e R s m args below meth c H locs cells slots D dA aK aV as A ls Qc free hF hs hP hD hS hl h1 h2 hR
  refine ab_after (a := (av.map (ab_cv as)).toArray) hF hs hP hD hS hl h1 h2 hR ?_ hok kk
  have hF' := hF
  obtain ⟨hx, hb, hml, -, -, ho, -, ht, hfr, hlc, hC, hA⟩ := hF'
  have hM := hm la D dA aK aV as H.size hs
  have hpre : PreS s H (va_Pc (av.map (ab_cv as)) (ab_Pc G rs D dA aK aV as w H.size)) (av.map (ab_cv as)) := ⟨ab_Pc_blind, ab_Pc_at hF hP hD hS⟩
  have hrm : (ab_rm d' mc ms).frames + 1 ≤ R.frames ∧ 8 + (cm.2.2.1 + 11) + (ab_rm d' mc ms).locals ≤ R.locals := by
    have := hk.2.2.2.2.2
    rw [hfr, hlc]
    show d' + 1 ≤ d ∧ 8 + (cm.2.2.1 + 11) + 60 * d' ≤ 60 * d
    omega
  have hstk : st0.map (ab_cv as) = (av.map (ab_cv as)).reverse ++ st.map (ab_cv as) := by rw [h0]; simp
  have hwd : 2 * (F0 m pc ls (st0.map (ab_cv as))).monitorRoom + ((st.map (ab_cv as)).map fun v => v.category).sum ≤ 8 := lv_room (by rw [ab_wsum]; exact hw)
  have hsz : (F0 m pc ls (st0.map (ab_cv as))).locals.size = M.2.2.1 := by obtain ⟨-, lv, z, -⟩ := hl; exact z.1
  rcases hk.2.2.2.1 with hlk | ⟨h, hlk⟩
  · exact va_runS ⟨hx, hb, hml, ho, ht⟩ hM ⟨callB_of av.length ht (ab_kgood hk) rfl rfl rfl (ht _ (List.mem_cons_of_mem _ hk.2.2.1)) (ht _ (List.mem_cons_of_mem _ hlk)) hk.2.2.2.2.1 hrm, ht _ (List.mem_cons_of_mem _ hst)⟩ hpre rfl (List.length_map ..) hsz hstk hwd hd ⟨by omega, by omega⟩
  · exact va_runSN ⟨hx, hb, hml, ho, ht⟩ hM ⟨va_cnB av.length ht (ab_kgood hk) rfl rfl rfl (hC.2.2.1 _ hlk) (ht _ (List.mem_cons_of_mem _ hk.2.2.1)) hk.2.2.2.2.1 hrm, ht _ (List.mem_cons_of_mem _ hst), trivial⟩ hpre rfl (List.length_map ..) hsz hstk hwd hd ⟨by omega, by omega⟩
theorem ev_virtual {cm : ab_M} {idx d' mc ms o ci N : Nat} {T : u_T} {fs av st0 : List ab_V} {Q1 : Option ab_V → ab_W → Prop} (hd : decode M.2.1 pc = .ok (.invokevirtual idx, 3)) (hm : ab_Mt G rs cm d' mc ms (.inr (.inr (some o)) :: av) w Q1) (hk : ab_kb G M.1.cls idx cm av.length) (hst : Cond.instanceMethod cm.1 ∈ G.2.1 ∧ Cond.selects cm.1.cls cm.1 cm.1 ∈ G.2.1) (hcl : G.1[ci]? = some (cm.1.cls, T, N)) (hwo : w[o]? = some (ab_ob ci fs)) (h0 : st0 = av.reverse ++ .inr (.inr (some o)) :: st) (hw : ab_wd st ≤ 8) (hdd : d' + 1 ≤ d) (hok : (∀ r w1, Q1 r w1 → w1.length = w.length) ∨ (ab_okL w.length l ∧ ab_okS w.length st))
    (kk : ∀ r w1, Q1 r w1 → ab_Ev G rs M d bc bs (pc + 3) l (r.toList ++ st) w1 Q) : ab_Ev G rs M d (bc + mc) (bs + ms) pc l st0 w Q := by
  intro p la e R s m args below meth c H locs cells slots D dA aK aV as A ls Qc free hF hs hP hD hS hl h1 h2 hR
  refine ab_after (a := (Value.ref (as o) :: av.map (ab_cv as)).toArray) hF hs hP hD hS hl h1 h2 hR ?_ hok kk
  have hF' := hF
  obtain ⟨hx, hb, hml, -, -, ho, -, ht, hfr, hlc, hC, hA⟩ := hF'
  have hM := hm la D dA aK aV as H.size hs
  have hpre : PreV s H cm.1.cls (as o) (va_Pc ((Sum.inr (Sum.inr (some o)) :: av).map (ab_cv as)) (ab_Pc G rs D dA aK aV as w H.size)) (av.map (ab_cv as)) := ⟨ab_Pc_blind, va_recv (q := (cm.1.cls, T, N)) hC.1 hP hcl (ab_cw_get hwo), ab_Pc_at hF hP hD hS⟩
  have hrm : (ab_rm d' mc ms).frames + 1 ≤ R.frames ∧ 8 + (cm.2.2.1 + 11) + (ab_rm d' mc ms).locals ≤ R.locals := by
    have := hk.2.2.2.2.2
    rw [hfr, hlc]
    show d' + 1 ≤ d ∧ 8 + (cm.2.2.1 + 11) + 60 * d' ≤ 60 * d
    omega
  have hstk : st0.map (ab_cv as) = (av.map (ab_cv as)).reverse ++ Value.ref (as o) :: st.map (ab_cv as) := by rw [h0]; simp [ab_cv]
  have hwd : 2 * (F0 m pc ls (st0.map (ab_cv as))).monitorRoom + ((st.map (ab_cv as)).map fun v => v.category).sum ≤ 8 := lv_room (by rw [ab_wsum]; exact hw)
  have hsz : (F0 m pc ls (st0.map (ab_cv as))).locals.size = M.2.2.1 := by obtain ⟨-, lv, z, -⟩ := hl; exact z.1
  rcases hk.2.2.2.1 with hlk | ⟨h, hlk⟩
  · exact va_runV (C := cm.1.cls) ⟨hx, hb, hml, ho, ht⟩ hM ⟨callB_of av.length ht (ab_kgood hk) rfl rfl rfl (ht _ (List.mem_cons_of_mem _ hk.2.2.1)) (ht _ (List.mem_cons_of_mem _ hlk)) hk.2.2.2.2.1 hrm, ht _ (List.mem_cons_of_mem _ hst.1), ht _ (List.mem_cons_of_mem _ hst.2)⟩ hpre rfl (List.length_map ..) hsz hstk hwd hd ⟨by omega, by omega⟩
  · exact va_runVN (C := cm.1.cls) ⟨hx, hb, hml, ho, ht⟩ hM ⟨va_cnB av.length ht (ab_kgood hk) rfl rfl rfl (hC.2.2.1 _ hlk) (ht _ (List.mem_cons_of_mem _ hk.2.2.1)) hk.2.2.2.2.1 hrm, ht _ (List.mem_cons_of_mem _ hst.1), ht _ (List.mem_cons_of_mem _ hst.2)⟩ hpre rfl (List.length_map ..) hsz hstk hwd hd ⟨by omega, by omega⟩
theorem ev_special {cm : ab_M} {idx d' mc ms o : Nat} {av st0 : List ab_V} {Q1 : Option ab_V → ab_W → Prop} (hd : decode M.2.1 pc = .ok (.invokespecial idx, 3)) (hm : ab_Mt G rs cm d' mc ms (.inr (.inr (some o)) :: av) w Q1) (hk : ab_kb G M.1.cls idx cm av.length) (hst : Cond.instanceMethod cm.1 ∈ G.2.1 ∧ cm.1.name = "<init>" ∧ cm.2.2.2 = none) (h0 : st0 = av.reverse ++ .inr (.inr (some o)) :: st) (hw : ab_wd st ≤ 8) (hdd : d' + 1 ≤ d) (hok : (∀ r w1, Q1 r w1 → w1.length = w.length) ∨ (ab_okL w.length l ∧ ab_okS w.length st))
    (kk : ∀ r w1, Q1 r w1 → ab_Ev G rs M d bc bs (pc + 3) l (r.toList ++ st) w1 Q) : ab_Ev G rs M d (bc + mc) (bs + ms) pc l st0 w Q := by
  intro p la e R s m args below meth c H locs cells slots D dA aK aV as A ls Qc free hF hs hP hD hS hl h1 h2 hR
  refine ab_after (a := (Value.ref (as o) :: av.map (ab_cv as)).toArray) hF hs hP hD hS hl h1 h2 hR ?_ hok kk
  have hF' := hF
  obtain ⟨hx, hb, hml, -, -, ho, -, ht, hfr, hlc, hC, hA⟩ := hF'
  have hM := hm la D dA aK aV as H.size hs
  have hpre : PreS s H (va_Pc ((Sum.inr (Sum.inr (some o)) :: av).map (ab_cv as)) (ab_Pc G rs D dA aK aV as w H.size)) (Value.ref (as o) :: av.map (ab_cv as)) := ⟨ab_Pc_blind, ab_Pc_at hF hP hD hS⟩
  have hrm : (ab_rm d' mc ms).frames + 1 ≤ R.frames ∧ 8 + (cm.2.2.1 + 11) + (ab_rm d' mc ms).locals ≤ R.locals := by
    have := hk.2.2.2.2.2
    rw [hfr, hlc]
    show d' + 1 ≤ d ∧ 8 + (cm.2.2.1 + 11) + 60 * d' ≤ 60 * d
    omega
  have hstk : st0.map (ab_cv as) = (av.map (ab_cv as)).reverse ++ Value.ref (as o) :: st.map (ab_cv as) := by rw [h0]; simp [ab_cv]
  have hwd : 2 * (F0 m pc ls (st0.map (ab_cv as))).monitorRoom + ((st.map (ab_cv as)).map fun v => v.category).sum ≤ 8 := lv_room (by rw [ab_wsum]; exact hw)
  have hsz : (F0 m pc ls (st0.map (ab_cv as))).locals.size = M.2.2.1 := by obtain ⟨-, lv, z, -⟩ := hl; exact z.1
  have hkc := callB_of (R := R) (rm := ab_rm d' mc ms) (mc := mc) (ms := ms) (own := M.1.cls) (index := idx) (y := cm.1) (bytes := cm.2.1) (maxL := cm.2.2.1) (ret := cm.2.2.2) (ws := ab_ws G cm) (ws' := G.2.1) av.length ht (ab_kgood hk) rfl rfl rfl (ht _ (List.mem_cons_of_mem _ hk.2.2.1))
  have hkn := fun host => va_cnB (R := R) (rm := ab_rm d' mc ms) (mc := mc) (ms := ms) (own := M.1.cls) (index := idx) (host := host) (y := cm.1) (bytes := cm.2.1) (maxL := cm.2.2.1) (ret := cm.2.2.2) (ws := ab_ws G cm) (ws' := G.2.1) av.length ht (ab_kgood hk) rfl rfl rfl
  rw [hst.2.2] at hkc hkn
  rcases hk.2.2.2.1 with hlk | ⟨h, hlk⟩
  · exact va_runI ⟨hx, hb, hml, ho, ht⟩ hM ⟨hkc (ht _ (List.mem_cons_of_mem _ hlk)) hk.2.2.2.2.1 hrm, hst.2.1, ht _ (List.mem_cons_of_mem _ hst.1)⟩ hpre rfl (List.length_map ..) hsz hstk hwd hd ⟨by omega, by omega⟩
  · exact va_runIN ⟨hx, hb, hml, ho, ht⟩ hM ⟨hkn h (hC.2.2.1 _ hlk) (ht _ (List.mem_cons_of_mem _ hk.2.2.1)) hk.2.2.2.2.1 hrm, hst.2.1, ht _ (List.mem_cons_of_mem _ hst.1)⟩ hpre rfl (List.length_map ..) hsz hstk hwd hd ⟨by omega, by omega⟩
end EVD
end
section
/-! rules: cells that are made, copies, string constants -/
section EVE
variable {G : ab_G} {rs : List String} {M : ab_M} {d bc bs pc : Nat} {l : ab_L} {st : List ab_V} {w : ab_W} {Q : Option ab_V → ab_W → Prop}
theorem ab_grow {E : ab_E} {pc' : Nat} (hlt : w.length < ab_sb) (hW : ab_okW w) (hE : ab_okE w.length E) (hL : ab_okL w.length l) (hSt : ab_okS w.length st) (kk : ab_Ev G rs M d bc bs pc' l (.inr (.inr (some w.length)) :: st) (w ++ [E]) Q)
    {p : Program} {la : Launch} {e : Env} {R : Room} {s : State} {m : MethodId} {args : Array Value} {below : List Frame} {meth : Method} {c : Code} {locs : List Loc} {cells slots : Nat} {D : va_G} {dA : Nat → ClassId} {aK aV as : Nat → Nat} {A : Nat → Prop} {ls : Array Slot} {Qc : Array Value → State → Outcome → State → Prop} {free : Addr → Prop}
    (hF : ab_Fx G rs M d p R s m args meth c D dA aK aV A) (hs : ∀ i, i < G.2.2.2.2.1.length → as (ab_sb + i) = aK i) (hl : ab_lo as ls M.2.2.1 l) (hR : ab_Rt G s args D dA as A w Q Qc free) (h1 : cells + bc ≤ R.cells) (h2 : slots + bs ≤ R.slots)
    {q : Nat} {H1 : Heap} (hP1 : va_P D G.1 (ab_cw dA as w ++ [(q, ab_ce dA as E)]) H1) (hD1 : va_D A (ab_cw dA as w ++ [(q, ab_ce dA as E)])) (hS1 : va_S A s.heap H1 locs) :
    W p la e R s m args below meth c H1 locs cells slots (MQ below Qc args s R.cells R.slots free) (F0 m pc' ls (.ref q :: st.map (ab_cv as))) := by
  obtain ⟨as1, has⟩ : ∃ as1 : Nat → Nat, as1 = fun i => if i = w.length then q else as i := ⟨_, rfl⟩
  have ha : ∀ i, (i < w.length ∨ ab_sb ≤ i) → as1 i = as i := by
    intro i hi
    rw [has]
    exact if_neg (by omega)
  have hq : as1 w.length = q := by rw [has]; exact if_pos rfl
  have ew : ab_cw dA as1 (w ++ [E]) = ab_cw dA as w ++ [(q, ab_ce dA as E)] := by
    rw [ab_cw_push hW ha, hq, ab_ok_ce hE ha]
  have hR1 : ab_Rt G s args D dA as1 A (w ++ [E]) Q Qc free := by
    intro r' w' as' H' locs' g1 g2 g3 g4 g5 g6 g7
    rw [List.length_append, List.length_singleton] at g2 g3 g4
    refine hR r' w' as' H' locs' g1 (by omega) (fun i hi => ?_) (fun z => by omega) g5 g6 g7
    rw [g3 i (by omega), ha i hi]
  have k := kk p la e R s m args below meth c H1 locs cells slots D dA aK aV as1 A ls Qc free hF (fun i hi => by rw [ha _ (Or.inr (Nat.le_add_right _ _))]; exact hs i hi) (by rw [ew]; exact hP1) (by rw [ew]; exact hD1) hS1 (ab_ok_lo hL ha hl) h1 h2 hR1
  have es : (Sum.inr (Sum.inr (some w.length)) :: st : List ab_V).map (ab_cv as1) = Value.ref q :: st.map (ab_cv as) := by
    rw [List.map_cons, ab_ok_map hSt ha]
    show Value.ref (as1 w.length) :: _ = _
    rw [hq]
  rw [es] at k
  exact k
/-- a class's words for new -/
def ab_nw (G : ab_G) (own : String) (idx ci N : Nat) (fs : List ab_V) : Prop := ∃ (C : String) (T : u_T) (ty0 : Nat → FieldType), G.1[ci]? = some (C, T, N) ∧ (∀ x ∈ u_ws C T N, x ∈ G.2.1) ∧ (∀ j, j < N → parseFieldDescriptor (T j).2.2.1 = some (ty0 j)) ∧ Cond.classLink own idx C ∈ G.2.1 ∧ Cond.instantiable C N ∈ G.2.1 ∧ Cond.initialized C ∈ G.2.1 ∧ (∀ (as : Nat → Nat) (j : Nat), j < N → defaultValue (ty0 j) = vp_V (fs.map (ab_cv as)) j)
theorem ev_new {idx ci N : Nat} {fs : List ab_V} (hd : decode M.2.1 pc = .ok (.new idx, 3)) (hn : ab_nw G M.1.cls idx ci N fs) (hlt : w.length < ab_sb) (hW : ab_okW w) (hE : ab_okS w.length fs) (hL : ab_okL w.length l) (hSt : ab_okS w.length st) (kk : ab_Ev G rs M d bc bs (pc + 3) l (.inr (.inr (some w.length)) :: st) (w ++ [ab_ob ci fs]) Q) : ab_Ev G rs M d (bc + 1) (bs + N) pc l st w Q := by
  intro p la e R s m args below meth c H locs cells slots D dA aK aV as A ls Qc free hF hs hP hD hS hl h1 h2 hR
  have hF' := hF
  obtain ⟨hx, hb, hml, -, -, ho, -, ht, hfr, hlc, hC, hA⟩ := hF'
  obtain ⟨C, T, ty0, g1, g2, g3, g4, g5, g6, g7⟩ := hn
  exact va_new hx hb ht (fun x hx => List.mem_cons_of_mem _ (g2 x hx)) ty0 g3 ho (ht _ (List.mem_cons_of_mem _ g4)) (ht _ (List.mem_cons_of_mem _ g5)) (ht _ (List.mem_cons_of_mem _ g6)) hC.1 hP hD hS hA g1 (fs := fs.map (ab_cv as)) (g7 as) (by omega) (by omega) hd (fun q H1 hP1 hD1 hS1 => ab_grow (E := ab_ob ci fs) hlt hW hE hL hSt kk hF hs hl hR (by omega) (by omega) hP1 hD1 hS1)
theorem ev_newai {n : Int} (hd : decode M.2.1 pc = .ok (.newarray .int, 2)) (hc : Cond.arrayClass .int ∈ G.2.1) (h0 : 0 ≤ n) (hn : n ≤ 100000) (hlt : w.length < ab_sb) (hW : ab_okW w) (hL : ab_okL w.length l) (hSt : ab_okS w.length st) (kk : ab_Ev G rs M d bc bs (pc + 2) l (.inr (.inr (some w.length)) :: st) (w ++ [ab_ai 0 n.toNat (fun _ => 0)]) Q) : ab_Ev G rs M d (bc + 1) (bs + n.toNat) pc l (.inl n :: st) w Q := by
  intro p la e R s m args below meth c H locs cells slots D dA aK aV as A ls Qc free hF hs hP hD hS hl h1 h2 hR
  have hF' := hF
  obtain ⟨hx, hb, hml, -, -, ho, -, ht, hfr, hlc, hC, hA⟩ := hF'
  have hi : ab_in n := by omega
  refine va_newa (atype := .int) (ty := .int) (N' := n.toNat) (a0 := (n.toNat, .inl (fun _ => 0))) hx hb (ht _ (List.mem_cons_of_mem _ hc)) rfl hC.1 hP hD hS hA (fun _ => rfl) (fun z => ?_) (ab_tn hi) ?_ (by omega) (by omega) hd (fun q cA H1 hK1 hP1 hD1 hS1 => ?_)
  · have z2 : Int32.ofInt n < Int32.ofInt 0 := z
    rw [ab_lt hi ab_in0] at z2
    omega
  · have : componentBytes .int ≤ 8 := by decide
    have := Nat.mul_le_mul (show n.toNat ≤ 100000 by omega) this
    omega
  · have e1 : cA = dA 0 := by
      have r1 := (hK1.2 (ab_ty G rs dA).length (cA, .int) (by rw [List.getElem?_append_right (Nat.le_refl _), Nat.sub_self]; rfl)).2
      have r2 := (hC.1.2 0 (dA 0, .int) rfl).2
      exact Option.some.inj (Eq.trans (Eq.symm r1) r2)
    subst e1
    exact ab_grow (E := ab_ai 0 n.toNat (fun _ => 0)) hlt hW trivial hL hSt kk hF hs hl hR (by omega) (by omega) hP1 hD1 hS1
theorem ev_newab {n : Int} (hd : decode M.2.1 pc = .ok (.newarray .byte, 2)) (hc : Cond.arrayClass .byte ∈ G.2.1) (h0 : 0 ≤ n) (hn : n ≤ 100000) (hlt : w.length < ab_sb) (hW : ab_okW w) (hL : ab_okL w.length l) (hSt : ab_okS w.length st) (kk : ab_Ev G rs M d bc bs (pc + 2) l (.inr (.inr (some w.length)) :: st) (w ++ [ab_ai 1 n.toNat (fun _ => 0)]) Q) : ab_Ev G rs M d (bc + 1) (bs + n.toNat) pc l (.inl n :: st) w Q := by
  intro p la e R s m args below meth c H locs cells slots D dA aK aV as A ls Qc free hF hs hP hD hS hl h1 h2 hR
  have hF' := hF
  obtain ⟨hx, hb, hml, -, -, ho, -, ht, hfr, hlc, hC, hA⟩ := hF'
  have hi : ab_in n := by omega
  refine va_newa (atype := .byte) (ty := .byte) (N' := n.toNat) (a0 := (n.toNat, .inl (fun _ => 0))) hx hb (ht _ (List.mem_cons_of_mem _ hc)) rfl hC.1 hP hD hS hA (fun _ => rfl) (fun z => ?_) (ab_tn hi) ?_ (by omega) (by omega) hd (fun q cA H1 hK1 hP1 hD1 hS1 => ?_)
  · have z2 : Int32.ofInt n < Int32.ofInt 0 := z
    rw [ab_lt hi ab_in0] at z2
    omega
  · have : componentBytes .byte ≤ 8 := by decide
    have := Nat.mul_le_mul (show n.toNat ≤ 100000 by omega) this
    omega
  · have e1 : cA = dA 1 := by
      have r1 := (hK1.2 (ab_ty G rs dA).length (cA, .byte) (by rw [List.getElem?_append_right (Nat.le_refl _), Nat.sub_self]; rfl)).2
      have r2 := (hC.1.2 1 (dA 1, .byte) rfl).2
      exact Option.some.inj (Eq.trans (Eq.symm r1) r2)
    subst e1
    exact ab_grow (E := ab_ai 1 n.toNat (fun _ => 0)) hlt hW trivial hL hSt kk hF hs hl hR (by omega) (by omega) hP1 hD1 hS1
theorem ev_newaz {n : Int} (hd : decode M.2.1 pc = .ok (.newarray .boolean, 2)) (hc : Cond.arrayClass .boolean ∈ G.2.1) (h0 : 0 ≤ n) (hn : n ≤ 100000) (hlt : w.length < ab_sb) (hW : ab_okW w) (hL : ab_okL w.length l) (hSt : ab_okS w.length st) (kk : ab_Ev G rs M d bc bs (pc + 2) l (.inr (.inr (some w.length)) :: st) (w ++ [ab_ai 2 n.toNat (fun _ => 0)]) Q) : ab_Ev G rs M d (bc + 1) (bs + n.toNat) pc l (.inl n :: st) w Q := by
  intro p la e R s m args below meth c H locs cells slots D dA aK aV as A ls Qc free hF hs hP hD hS hl h1 h2 hR
  have hF' := hF
  obtain ⟨hx, hb, hml, -, -, ho, -, ht, hfr, hlc, hC, hA⟩ := hF'
  have hi : ab_in n := by omega
  refine va_newa (atype := .boolean) (ty := .boolean) (N' := n.toNat) (a0 := (n.toNat, .inl (fun _ => 0))) hx hb (ht _ (List.mem_cons_of_mem _ hc)) rfl hC.1 hP hD hS hA (fun _ => rfl) (fun z => ?_) (ab_tn hi) ?_ (by omega) (by omega) hd (fun q cA H1 hK1 hP1 hD1 hS1 => ?_)
  · have z2 : Int32.ofInt n < Int32.ofInt 0 := z
    rw [ab_lt hi ab_in0] at z2
    omega
  · have : componentBytes .boolean ≤ 8 := by decide
    have := Nat.mul_le_mul (show n.toNat ≤ 100000 by omega) this
    omega
  · have e1 : cA = dA 2 := by
      have r1 := (hK1.2 (ab_ty G rs dA).length (cA, .boolean) (by rw [List.getElem?_append_right (Nat.le_refl _), Nat.sub_self]; rfl)).2
      have r2 := (hC.1.2 2 (dA 2, .boolean) rfl).2
      exact Option.some.inj (Eq.trans (Eq.symm r1) r2)
    subst e1
    exact ab_grow (E := ab_ai 2 n.toNat (fun _ => 0)) hlt hW trivial hL hSt kk hF hs hl hR (by omega) (by omega) hP1 hD1 hS1
theorem ev_newal {n : Int} (hd : decode M.2.1 pc = .ok (.newarray .long, 2)) (hc : Cond.arrayClass .long ∈ G.2.1) (h0 : 0 ≤ n) (hn : n ≤ 100000) (hlt : w.length < ab_sb) (hW : ab_okW w) (hL : ab_okL w.length l) (hSt : ab_okS w.length st) (kk : ab_Ev G rs M d bc bs (pc + 2) l (.inr (.inr (some w.length)) :: st) (w ++ [ab_al n.toNat (fun _ => 0)]) Q) : ab_Ev G rs M d (bc + 1) (bs + n.toNat) pc l (.inl n :: st) w Q := by
  intro p la e R s m args below meth c H locs cells slots D dA aK aV as A ls Qc free hF hs hP hD hS hl h1 h2 hR
  have hF' := hF
  obtain ⟨hx, hb, hml, -, -, ho, -, ht, hfr, hlc, hC, hA⟩ := hF'
  have hi : ab_in n := by omega
  refine va_newa (atype := .long) (ty := .long) (N' := n.toNat) (a0 := (n.toNat, .inr (.inl (fun _ => 0)))) hx hb (ht _ (List.mem_cons_of_mem _ hc)) rfl hC.1 hP hD hS hA (fun _ => rfl) (fun z => ?_) (ab_tn hi) ?_ (by omega) (by omega) hd (fun q cA H1 hK1 hP1 hD1 hS1 => ?_)
  · have z2 : Int32.ofInt n < Int32.ofInt 0 := z
    rw [ab_lt hi ab_in0] at z2
    omega
  · have : componentBytes .long ≤ 8 := by decide
    have := Nat.mul_le_mul (show n.toNat ≤ 100000 by omega) this
    omega
  · have e1 : cA = dA 3 := by
      have r1 := (hK1.2 (ab_ty G rs dA).length (cA, .long) (by rw [List.getElem?_append_right (Nat.le_refl _), Nat.sub_self]; rfl)).2
      have r2 := (hC.1.2 3 (dA 3, .long) rfl).2
      exact Option.some.inj (Eq.trans (Eq.symm r1) r2)
    subst e1
    exact ab_grow (E := ab_al n.toNat (fun _ => 0)) hlt hW trivial hL hSt kk hF hs hl hR (by omega) (by omega) hP1 hD1 hS1
theorem ev_newar {n : Int} {idx t : Nat} {C : String} (hd : decode M.2.1 pc = .ok (.anewarray idx, 3)) (hc : Cond.classLink M.1.cls idx C ∈ G.2.1) (hr : rs[t]? = some C) (h0 : 0 ≤ n) (hn : n ≤ 100000) (hlt : w.length < ab_sb) (hW : ab_okW w) (hL : ab_okL w.length l) (hSt : ab_okS w.length st) (kk : ab_Ev G rs M d bc bs (pc + 3) l (.inr (.inr (some w.length)) :: st) (w ++ [ab_ar (4 + t) n.toNat (fun _ => none)]) Q) : ab_Ev G rs M d (bc + 1) (bs + n.toNat) pc l (.inl n :: st) w Q := by
  intro p la e R s m args below meth c H locs cells slots D dA aK aV as A ls Qc free hF hs hP hD hS hl h1 h2 hR
  have hF' := hF
  obtain ⟨hx, hb, hml, -, -, ho, -, ht, hfr, hlc, hC, hA⟩ := hF'
  have hi : ab_in n := by omega
  have hao : va_AO C s := hC.2.2.2.2.2.2 C (List.mem_of_getElem? hr)
  refine va_newq (N' := n.toNat) hx hb ho (ht _ (List.mem_cons_of_mem _ hc)) hao hC.1 hP hD hS hA (fun z => ?_) (ab_tn hi) (by omega) (by omega) (by omega) hd (fun q cA H1 hK1 hP1 hD1 hS1 => ?_)
  · have z2 : Int32.ofInt n < Int32.ofInt 0 := z
    rw [ab_lt hi ab_in0] at z2
    omega
  · have e1 : cA = dA (4 + t) := by
      obtain ⟨k1, c1, -, -, -, r1⟩ := (hK1.2 (ab_ty G rs dA).length (cA, .object C) (by rw [List.getElem?_append_right (Nat.le_refl _), Nat.sub_self]; rfl)).2
      obtain ⟨k2, c2, -, -, -, r2⟩ := (hC.1.2 (4 + t) _ (ab_tyR hr)).2
      exact Option.some.inj (r1.symm.trans r2)
    subst e1
    exact ab_grow (E := ab_ar (4 + t) n.toNat (fun _ => none)) hlt hW (fun _ _ h => by cases h) hL hSt kk hF hs hl hR (by omega) (by omega) hP1 hD1 hS1
theorem ev_objInit {idx o : Nat} (hd : decode M.2.1 pc = .ok (.invokespecial idx, 3)) (hk : Cond.methodLink M.1.cls idx Lib.objectInit ∈ G.2.1 ∧ Cond.instanceMethod Lib.objectInit ∈ G.2.1 ∧ Cond.code Lib.objectInit ⟨#[0xb1]⟩ 1 none ∈ G.2.1) (hw : ab_wd st ≤ 8) (hdd : 1 ≤ d) (kk : ab_Ev G rs M d bc bs (pc + 3) l st w Q) : ab_Ev G rs M d bc bs pc l (.inr (.inr (some o)) :: st) w Q := by
  intro p la e R s m args below meth c H locs cells slots D dA aK aV as A ls Qc free hF hs hP hD hS hl h1 h2 hR
  have kk := kk p la e R s m args below meth c H locs cells slots D dA aK aV as A ls Qc free hF hs hP hD hS hl h1 h2 hR
  obtain ⟨hx, hb, hml, -, -, ho, -, ht, hfr, hlc, hC, hA⟩ := hF
  refine W.objInit hx hb ho (ht _ (List.mem_cons_of_mem _ hk.1)) (ht _ (List.mem_cons_of_mem _ hk.2.1)) (ht _ (List.mem_cons_of_mem _ hk.2.2)) rfl (by rw [hml]; obtain ⟨-, lv, z, -⟩ := hl; exact z.1) (rest := st.map (ab_cv as)) rfl hd (by omega) ?_ kk
  show 2 * 0 + _ + 12 ≤ _
  rw [ab_wsum]
  omega
theorem ab_cpok {f g : Int → Int} {sp dp n : Int} (h0 : 0 ≤ sp) (h1 : 0 ≤ dp) (h2 : 0 ≤ n) : va_cpy (fun k : Nat => Int32.ofInt (f (k : Int))) (fun k : Nat => Int32.ofInt (g (k : Int))) sp.toNat dp.toNat n.toNat = fun k : Nat => Int32.ofInt (ab_cp f g sp dp n (k : Int)) := by
  funext k
  unfold va_cpy ab_cp
  by_cases h : dp.toNat ≤ k ∧ k < dp.toNat + n.toNat
  · rw [if_pos h, if_pos (by omega)]
    have e : ((sp.toNat + (k - dp.toNat) : Nat) : Int) = sp + ((k : Int) - dp) := by omega
    show Int32.ofInt (f ((sp.toNat + (k - dp.toNat) : Nat) : Int)) = _
    rw [e]
  · rw [if_neg h, if_neg (by omega)]
theorem ab_cpokL {f g : Int → Int64} {sp dp n : Int} (h0 : 0 ≤ sp) (h1 : 0 ≤ dp) (h2 : 0 ≤ n) : va_cpy (fun k : Nat => f (k : Int)) (fun k : Nat => g (k : Int)) sp.toNat dp.toNat n.toNat = fun k : Nat => ab_cp f g sp dp n (k : Int) := by
  funext k
  unfold va_cpy ab_cp
  by_cases h : dp.toNat ≤ k ∧ k < dp.toNat + n.toNat
  · rw [if_pos h, if_pos (by omega)]
    have e : ((sp.toNat + (k - dp.toNat) : Nat) : Int) = sp + ((k : Int) - dp) := by omega
    show f ((sp.toNat + (k - dp.toNat) : Nat) : Int) = _
    rw [e]
  · rw [if_neg h, if_neg (by omega)]
def ab_ck (G : ab_G) (own : String) (idx : Nat) : Prop := Cond.methodLink own idx arraycopyName ∈ G.2.1 ∧ Cond.native arraycopyName ∈ G.2.1 ∧ Cond.static arraycopyName ∈ G.2.1 ∧ Cond.initialized "java/lang/System" ∈ G.2.1
theorem ab_ni {a : Int} (h : ab_in a) (h0 : 0 ≤ a) : ¬ Int32.ofInt a < 0 := fun z => by
  have z2 : Int32.ofInt a < Int32.ofInt 0 := z
  rw [ab_lt h ab_in0] at z2
  omega
theorem ev_copyi {idx o1 o2 n1 n2 t : Nat} {f g : Int → Int} {sp dp n : Int} (hd : decode M.2.1 pc = .ok (.invokestatic idx, 3)) (hk : ab_ck G M.1.cls idx) (ht : t < 3) (h1 : w[o1]? = some (ab_ai t n1 f)) (h2 : w[o2]? = some (ab_ai t n2 g)) (h3 : 0 ≤ sp ∧ 0 ≤ dp ∧ 0 ≤ n ∧ sp + n ≤ n1 ∧ dp + n ≤ n2) (hi : ab_in sp ∧ ab_in dp ∧ ab_in n) (hfit : t = 0 ∨ (t = 1 ∧ ∀ k, sp ≤ k → k < sp + n → -128 ≤ f k ∧ f k ≤ 127) ∨ (t = 2 ∧ ∀ k, sp ≤ k → k < sp + n → f k = 0 ∨ f k = 1)) (hw : ab_wd st ≤ 8) (hdd : 1 ≤ d)
    (kk : ab_Ev G rs M d bc bs (pc + 3) l st (w.set o2 (ab_ai t n2 (ab_cp f g sp dp n))) Q) : ab_Ev G rs M d bc bs pc l (.inl n :: .inl dp :: .inr (.inr (some o2)) :: .inl sp :: .inr (.inr (some o1)) :: st) w Q := by
  intro p la e R s m args below meth c H locs cells slots D dA aK aV as A ls Qc free hF hs hP hD hS hl hc1 hc2 hR
  have kk := fun H1 locs1 hP1 hD1 hS1 => kk p la e R s m args below meth c H1 locs1 cells slots D dA aK aV as A ls Qc free hF hs hP1 hD1 hS1 hl hc1 hc2 (hR.len (List.length_set ..))
  obtain ⟨hx, hb, hml, -, -, ho, -, htt, hfr, hlc, hC, hA⟩ := hF
  rw [← ab_cw_set] at kk
  obtain ⟨g1, g2, g3, g4, g5⟩ := h3
  obtain ⟨i1, i2, i3⟩ := hi
  have hty : ∃ ty, (ab_ty G rs dA)[t]? = some (dA t, ty) ∧ refKind ty = false ∧ ∀ i : Nat, i < (Int32.ofInt n).toNatClampNeg → fits ty (.int (Int32.ofInt (f (((Int32.ofInt sp).toNatClampNeg + i : Nat) : Int)))) = true := by
    rw [ab_tn i3, ab_tn i1]
    rcases hfit with rfl | ⟨rfl, hf⟩ | ⟨rfl, hf⟩
    · exact ⟨.int, rfl, rfl, fun i hi => rfl⟩
    · refine ⟨.byte, rfl, rfl, fun i hi => ?_⟩
      have hq := hf (((sp.toNat + i : Nat) : Int)) (by omega) (by omega)
      generalize f (((sp.toNat + i : Nat) : Int)) = z at hq
      have hz : ab_in z := by omega
      have e1 : Int32.ofInt (-128) ≤ Int32.ofInt z := (ab_le (by decide) hz).mpr hq.1
      have e2 : Int32.ofInt z ≤ Int32.ofInt 127 := (ab_le hz (by decide)).mpr hq.2
      show (decide ((-128 : Int32) ≤ Int32.ofInt z) && decide (Int32.ofInt z ≤ (127 : Int32))) = true
      rw [Bool.and_eq_true, decide_eq_true_eq, decide_eq_true_eq]
      exact ⟨e1, e2⟩
    · refine ⟨.boolean, rfl, rfl, fun i hi => ?_⟩
      rcases hf (((sp.toNat + i : Nat) : Int)) (by omega) (by omega) with hq | hq <;> rw [hq] <;> rfl
  obtain ⟨ty, t1, t2, t3⟩ := hty
  refine va_copyi hx hb (by rw [hml]; obtain ⟨-, lv, z, -⟩ := hl; exact z.1.symm) ho (htt _ (List.mem_cons_of_mem _ hk.1)) (htt _ (List.mem_cons_of_mem _ hk.2.1)) (htt _ (List.mem_cons_of_mem _ hk.2.2.1)) (htt _ (List.mem_cons_of_mem _ hk.2.2.2)) hC.1 hP hD hS o1 o2 t t (ab_cw_get h1) (ab_cw_get h2) t1 t1 t2 (ab_ni i1 g1) (ab_ni i2 g2) (ab_ni i3 g3) (by rw [ab_tn i1, ab_tn i3]; omega) (by rw [ab_tn i2, ab_tn i3]; omega) t3 (by omega) ?_ hd ?_
  · rw [ab_wsum]
    have : nativeFrameWords "java/lang/System" "arraycopy" 5 + 11 ≤ 40 := by decide
    omega
  · rw [ab_tn i1, ab_tn i2, ab_tn i3, ab_cpok g1 g2 g3]
    exact kk
theorem ev_copyl {idx o1 o2 n1 n2 : Nat} {f g : Int → Int64} {sp dp n : Int} (hd : decode M.2.1 pc = .ok (.invokestatic idx, 3)) (hk : ab_ck G M.1.cls idx) (h1 : w[o1]? = some (ab_al n1 f)) (h2 : w[o2]? = some (ab_al n2 g)) (h3 : 0 ≤ sp ∧ 0 ≤ dp ∧ 0 ≤ n ∧ sp + n ≤ n1 ∧ dp + n ≤ n2) (hi : ab_in sp ∧ ab_in dp ∧ ab_in n) (hw : ab_wd st ≤ 8) (hdd : 1 ≤ d)
    (kk : ab_Ev G rs M d bc bs (pc + 3) l st (w.set o2 (ab_al n2 (ab_cp f g sp dp n))) Q) : ab_Ev G rs M d bc bs pc l (.inl n :: .inl dp :: .inr (.inr (some o2)) :: .inl sp :: .inr (.inr (some o1)) :: st) w Q := by
  intro p la e R s m args below meth c H locs cells slots D dA aK aV as A ls Qc free hF hs hP hD hS hl hc1 hc2 hR
  have kk := fun H1 locs1 hP1 hD1 hS1 => kk p la e R s m args below meth c H1 locs1 cells slots D dA aK aV as A ls Qc free hF hs hP1 hD1 hS1 hl hc1 hc2 (hR.len (List.length_set ..))
  obtain ⟨hx, hb, hml, -, -, ho, -, htt, hfr, hlc, hC, hA⟩ := hF
  rw [← ab_cw_set] at kk
  obtain ⟨g1, g2, g3, g4, g5⟩ := h3
  obtain ⟨i1, i2, i3⟩ := hi
  refine va_copyl hx hb (by rw [hml]; obtain ⟨-, lv, z, -⟩ := hl; exact z.1.symm) ho (htt _ (List.mem_cons_of_mem _ hk.1)) (htt _ (List.mem_cons_of_mem _ hk.2.1)) (htt _ (List.mem_cons_of_mem _ hk.2.2.1)) (htt _ (List.mem_cons_of_mem _ hk.2.2.2)) hC.1 hP hD hS o1 o2 3 3 (ab_cw_get h1) (ab_cw_get h2) (ty := .long) rfl rfl rfl (ab_ni i1 g1) (ab_ni i2 g2) (ab_ni i3 g3) (by rw [ab_tn i1, ab_tn i3]; omega) (by rw [ab_tn i2, ab_tn i3]; omega) (fun _ _ => rfl) (by omega) ?_ hd ?_
  · rw [ab_wsum]
    have : nativeFrameWords "java/lang/System" "arraycopy" 5 + 11 ≤ 40 := by decide
    omega
  · rw [ab_tn i1, ab_tn i2, ab_tn i3, ab_cpokL g1 g2 g3]
    exact kk
theorem ev_ldcS {idx k : Nat} {tx : String} (hd : decode M.2.1 pc = .ok (.ldc idx, 2)) (hq : (M.1.cls, idx, tx, k) ∈ G.2.2.2.1) (hk : k < G.2.2.2.2.1.length) (kk : ab_Ev G rs M d bc bs (pc + 2) l (.inr (.inr (some (ab_sb + k))) :: st) w Q) : ab_Ev G rs M d bc bs pc l st w Q := by
  intro p la e R s m args below meth c H locs cells slots D dA aK aV as A ls Qc free hF hs hP hD hS hl h1 h2 hR
  have kk := kk p la e R s m args below meth c H locs cells slots D dA aK aV as A ls Qc free hF hs hP hD hS hl h1 h2 hR
  obtain ⟨hx, hb, hml, -, -, ho, -, ht, hfr, hlc, hC, hA⟩ := hF
  have hv := hC.2.2.2.2.1 _ hq
  dsimp only at hv
  rw [← hs k hk] at hv
  exact va_ldcS hx hb ho hv hd kk
end EVE
end
section
/-! contracts with one answer, one world behind -/
abbrev ab_is (v : Option ab_V) (w' : ab_W) : Option ab_V → ab_W → Prop := fun r w2 => r = v ∧ w2 = w'
section EVF
variable {G : ab_G} {rs : List String} {M : ab_M} {d bc bs pc : Nat} {l : ab_L} {st : List ab_V} {w w' : ab_W} {Q : Option ab_V → ab_W → Prop}
theorem ev_sv {cm : ab_M} {idx d' : Nat} {av st0 : List ab_V} {v : ab_V} (hd : decode M.2.1 pc = .ok (.invokestatic idx, 3)) (hm : ab_Mt G rs cm d' 0 0 av w (ab_is (some v) w')) (hk : ab_kb G M.1.cls idx cm av.length) (hst : Cond.static cm.1 ∈ G.2.1) (h0 : st0 = av.reverse ++ st) (hw : ab_wd st ≤ 8) (hdd : d' + 1 ≤ d) (hok : w'.length = w.length)
    (kk : ab_Ev G rs M d bc bs (pc + 3) l (v :: st) w' Q) : ab_Ev G rs M d bc bs pc l st0 w Q := ev_static hd hm hk hst h0 hw hdd (Or.inl (fun _ _ h => by rw [h.2]; exact hok)) (fun r w1 h => by obtain ⟨rfl, rfl⟩ := h; exact kk)
theorem ev_sn {cm : ab_M} {idx d' : Nat} {av st0 : List ab_V} (hd : decode M.2.1 pc = .ok (.invokestatic idx, 3)) (hm : ab_Mt G rs cm d' 0 0 av w (ab_is none w')) (hk : ab_kb G M.1.cls idx cm av.length) (hst : Cond.static cm.1 ∈ G.2.1) (h0 : st0 = av.reverse ++ st) (hw : ab_wd st ≤ 8) (hdd : d' + 1 ≤ d) (hok : w'.length = w.length)
    (kk : ab_Ev G rs M d bc bs (pc + 3) l st w' Q) : ab_Ev G rs M d bc bs pc l st0 w Q := ev_static hd hm hk hst h0 hw hdd (Or.inl (fun _ _ h => by rw [h.2]; exact hok)) (fun r w1 h => by obtain ⟨rfl, rfl⟩ := h; exact kk)
theorem ev_vv {cm : ab_M} {idx d' o ci N : Nat} {T : u_T} {fs av st0 : List ab_V} {v : ab_V} (hd : decode M.2.1 pc = .ok (.invokevirtual idx, 3)) (hm : ab_Mt G rs cm d' 0 0 (.inr (.inr (some o)) :: av) w (ab_is (some v) w')) (hk : ab_kb G M.1.cls idx cm av.length) (hst : Cond.instanceMethod cm.1 ∈ G.2.1 ∧ Cond.selects cm.1.cls cm.1 cm.1 ∈ G.2.1) (hcl : G.1[ci]? = some (cm.1.cls, T, N)) (hwo : w[o]? = some (ab_ob ci fs)) (h0 : st0 = av.reverse ++ .inr (.inr (some o)) :: st) (hw : ab_wd st ≤ 8) (hdd : d' + 1 ≤ d) (hok : w'.length = w.length)
    (kk : ab_Ev G rs M d bc bs (pc + 3) l (v :: st) w' Q) : ab_Ev G rs M d bc bs pc l st0 w Q := ev_virtual hd hm hk hst hcl hwo h0 hw hdd (Or.inl (fun _ _ h => by rw [h.2]; exact hok)) (fun r w1 h => by obtain ⟨rfl, rfl⟩ := h; exact kk)
theorem ev_vn {cm : ab_M} {idx d' o ci N : Nat} {T : u_T} {fs av st0 : List ab_V} (hd : decode M.2.1 pc = .ok (.invokevirtual idx, 3)) (hm : ab_Mt G rs cm d' 0 0 (.inr (.inr (some o)) :: av) w (ab_is none w')) (hk : ab_kb G M.1.cls idx cm av.length) (hst : Cond.instanceMethod cm.1 ∈ G.2.1 ∧ Cond.selects cm.1.cls cm.1 cm.1 ∈ G.2.1) (hcl : G.1[ci]? = some (cm.1.cls, T, N)) (hwo : w[o]? = some (ab_ob ci fs)) (h0 : st0 = av.reverse ++ .inr (.inr (some o)) :: st) (hw : ab_wd st ≤ 8) (hdd : d' + 1 ≤ d) (hok : w'.length = w.length)
    (kk : ab_Ev G rs M d bc bs (pc + 3) l st w' Q) : ab_Ev G rs M d bc bs pc l st0 w Q := ev_virtual hd hm hk hst hcl hwo h0 hw hdd (Or.inl (fun _ _ h => by rw [h.2]; exact hok)) (fun r w1 h => by obtain ⟨rfl, rfl⟩ := h; exact kk)
end EVF
end
section
/-! names: classes, words, methods (printed by a program out of the claim) -/
def tf_Ac : u_T := fun k => match k with
  | 0 => ("TurnRing$ActLog", "kinds", "[I", true)
  | 1 => ("TurnRing$ActLog", "firsts", "[I", true)
  | 2 => ("TurnRing$ActLog", "seconds", "[I", true)
  | 3 => ("TurnRing$ActLog", "size", "I", false)
  | _ => ("TurnRing$ActLog", "next", "I", false)
def ty_Ac : Nat → FieldType := fun k => match k with
  | 0 => .array .int
  | 1 => .array .int
  | 2 => .array .int
  | 3 => .int
  | _ => .int
def tf_Di : u_T := fun k => match k with
  | 0 => ("TurnRing$Diary", "lines", "I", false)
  | 1 => ("TurnRing$Diary", "house", "[I", true)
  | 2 => ("TurnRing$Diary", "after", "[I", true)
  | 3 => ("TurnRing$Diary", "sort", "[I", true)
  | _ => ("TurnRing$Diary", "seen", "[I", true)
def ty_Di : Nat → FieldType := fun k => match k with
  | 0 => .int
  | 1 => .array .int
  | 2 => .array .int
  | 3 => .array .int
  | _ => .array .int
def tf_Gu : u_T := fun k => match k with
  | 0 => ("TurnRing$Guesser", "angle", "[I", true)
  | 1 => ("TurnRing$Guesser", "rate", "[I", true)
  | 2 => ("TurnRing$Guesser", "turns", "I", false)
  | 3 => ("TurnRing$Guesser", "seenIn", "[I", true)
  | 4 => ("TurnRing$Guesser", "lookAt", "I", false)
  | _ => ("TurnRing$Guesser", "greaterPart", "I", false)
def ty_Gu : Nat → FieldType := fun k => match k with
  | 0 => .array .int
  | 1 => .array .int
  | 2 => .int
  | 3 => .array .int
  | 4 => .int
  | _ => .int
def tf_Ma : u_T := fun k => match k with
  | 0 => ("TurnRing$Machine", "stack", "[J", true)
  | _ => ("TurnRing$Machine", "top", "I", false)
def ty_Ma : Nat → FieldType := fun k => match k with
  | 0 => .array .long
  | _ => .int
def tf_Pl : u_T := fun k => match k with
  | 0 => ("TurnRing$Planner", "row", "[I", true)
  | 1 => ("TurnRing$Planner", "best", "[I", true)
  | 2 => ("TurnRing$Planner", "worth", "I", false)
  | 3 => ("TurnRing$Planner", "angles", "[I", true)
  | _ => ("TurnRing$Planner", "had", "[I", true)
def ty_Pl : Nat → FieldType := fun k => match k with
  | 0 => .array .int
  | 1 => .array .int
  | 2 => .int
  | 3 => .array .int
  | _ => .array .int
def tf_Ri : u_T := fun k => match k with
  | 0 => ("TurnRing$Ring", "told", "Z", false)
  | 1 => ("TurnRing$Ring", "angle", "I", false)
  | 2 => ("TurnRing$Ring", "hour", "I", false)
  | 3 => ("TurnRing$Ring", "day", "I", false)
  | 4 => ("TurnRing$Ring", "stopped", "Z", false)
  | 5 => ("TurnRing$Ring", "stops", "I", false)
  | 6 => ("TurnRing$Ring", "x", "I", false)
  | 7 => ("TurnRing$Ring", "houses", "I", false)
  | 8 => ("TurnRing$Ring", "sights", "I", false)
  | 9 => ("TurnRing$Ring", "gates", "I", false)
  | 10 => ("TurnRing$Ring", "slots", "[I", true)
  | 11 => ("TurnRing$Ring", "firstSlots", "[I", true)
  | 12 => ("TurnRing$Ring", "votes", "[I", true)
  | 13 => ("TurnRing$Ring", "liking", "[I", true)
  | 14 => ("TurnRing$Ring", "view", "[J", true)
  | 15 => ("TurnRing$Ring", "rates", "[I", true)
  | 16 => ("TurnRing$Ring", "worn", "[I", true)
  | _ => ("TurnRing$Ring", "diary", "LTurnRing$Diary;", true)
def ty_Ri : Nat → FieldType := fun k => match k with
  | 0 => .boolean
  | 1 => .int
  | 2 => .int
  | 3 => .int
  | 4 => .boolean
  | 5 => .int
  | 6 => .int
  | 7 => .int
  | 8 => .int
  | 9 => .int
  | 10 => .array .int
  | 11 => .array .int
  | 12 => .array .int
  | 13 => .array .int
  | 14 => .array .long
  | 15 => .array .int
  | 16 => .array .int
  | _ => .object "TurnRing$Diary"
def tf_Ro : u_T := fun k => match k with
  | _ => ("TurnRing$Rule", "code", "[I", true)
def ty_Ro : Nat → FieldType := fun k => match k with
  | _ => .array .int
def tf_Ru : u_T := fun k => match k with
  | 0 => ("TurnRing$RuleReader", "code", "[I", true)
  | 1 => ("TurnRing$RuleReader", "size", "I", false)
  | _ => ("TurnRing$RuleReader", "counted", "I", false)
def ty_Ru : Nat → FieldType := fun k => match k with
  | 0 => .array .int
  | 1 => .int
  | _ => .int
def tf_Ta : u_T := fun k => match k with
  | 0 => ("TurnRing$Tape", "text", "[B", true)
  | 1 => ("TurnRing$Tape", "length", "I", false)
  | 2 => ("TurnRing$Tape", "at", "I", false)
  | 3 => ("TurnRing$Tape", "words", "Ljava/lang/String;", false)
  | 4 => ("TurnRing$Tape", "fault", "I", false)
  | 5 => ("TurnRing$Tape", "start", "I", false)
  | 6 => ("TurnRing$Tape", "sign", "I", false)
  | 7 => ("TurnRing$Tape", "number", "I", false)
  | _ => ("TurnRing$Tape", "word", "I", false)
def ty_Ta : Nat → FieldType := fun k => match k with
  | 0 => .array .byte
  | 1 => .int
  | 2 => .int
  | 3 => .object "java/lang/String"
  | 4 => .int
  | 5 => .int
  | 6 => .int
  | 7 => .int
  | _ => .int
def tf_Tr : u_T := fun k => match k with
  | 0 => ("TurnRing$Trader", "slots", "[I", true)
  | 1 => ("TurnRing$Trader", "daysIn", "[I", true)
  | 2 => ("TurnRing$Trader", "daysNow", "[I", true)
  | 3 => ("TurnRing$Trader", "ways", "[I", true)
  | _ => ("TurnRing$Trader", "most", "[I", true)
def ty_Tr : Nat → FieldType := fun k => match k with
  | 0 => .array .int
  | 1 => .array .int
  | 2 => .array .int
  | 3 => .array .int
  | _ => .array .int
def tf_Tu : u_T := fun k => match k with
  | 0 => ("TurnRing", "tape", "LTurnRing$Tape;", true)
  | 1 => ("TurnRing", "now", "LTurnRing$Ring;", false)
  | 2 => ("TurnRing", "trial", "LTurnRing$Ring;", false)
  | 3 => ("TurnRing", "images", "[LTurnRing$Ring;", true)
  | 4 => ("TurnRing", "imageMade", "[Z", true)
  | 5 => ("TurnRing", "rules", "[LTurnRing$Rule;", true)
  | 6 => ("TurnRing", "ruleCount", "I", false)
  | 7 => ("TurnRing", "acts", "LTurnRing$ActLog;", true)
  | 8 => ("TurnRing", "ruleReader", "LTurnRing$RuleReader;", true)
  | 9 => ("TurnRing", "machine", "LTurnRing$Machine;", true)
  | 10 => ("TurnRing", "planner", "LTurnRing$Planner;", true)
  | 11 => ("TurnRing", "trader", "LTurnRing$Trader;", true)
  | _ => ("TurnRing", "guesser", "LTurnRing$Guesser;", true)
def ty_Tu : Nat → FieldType := fun k => match k with
  | 0 => .object "TurnRing$Tape"
  | 1 => .object "TurnRing$Ring"
  | 2 => .object "TurnRing$Ring"
  | 3 => .array (.object "TurnRing$Ring")
  | 4 => .array .boolean
  | 5 => .array (.object "TurnRing$Rule")
  | 6 => .int
  | 7 => .object "TurnRing$ActLog"
  | 8 => .object "TurnRing$RuleReader"
  | 9 => .object "TurnRing$Machine"
  | 10 => .object "TurnRing$Planner"
  | 11 => .object "TurnRing$Trader"
  | _ => .object "TurnRing$Guesser"
def tf_Mo : u_T := fun k => match k with
  | 0 => ("TurnRingModel", "tape", "[B", true)
  | 1 => ("TurnRingModel", "taped", "I", false)
  | 2 => ("TurnRingModel", "rules", "I", false)
  | 3 => ("TurnRingModel", "sign", "[I", true)
  | 4 => ("TurnRingModel", "length", "[I", true)
  | 5 => ("TurnRingModel", "clause", "[I", true)
  | 6 => ("TurnRingModel", "clauses", "[I", true)
  | 7 => ("TurnRingModel", "read", "[I", true)
  | 8 => ("TurnRingModel", "next", "I", false)
  | 9 => ("TurnRingModel", "wrong", "I", false)
  | 10 => ("TurnRingModel", "number", "I", false)
  | 11 => ("TurnRingModel", "text", "I", false)
  | 12 => ("TurnRingModel", "made", "I", false)
  | 13 => ("TurnRingModel", "deep", "I", false)
  | 14 => ("TurnRingModel", "lines", "I", false)
  | 15 => ("TurnRingModel", "open", "[I", true)
  | 16 => ("TurnRingModel", "opened", "I", false)
  | 17 => ("TurnRingModel", "stack", "[J", true)
  | 18 => ("TurnRingModel", "top", "I", false)
  | 19 => ("TurnRingModel", "word", "[J", true)
  | 20 => ("TurnRingModel", "said", "[I", true)
  | 21 => ("TurnRingModel", "x", "I", false)
  | 22 => ("TurnRingModel", "wasSaid", "[I", true)
  | 23 => ("TurnRingModel", "undone", "I", false)
  | 24 => ("TurnRingModel", "kept", "[I", true)
  | 25 => ("TurnRingModel", "sumOf", "[I", true)
  | 26 => ("TurnRingModel", "faced", "[I", true)
  | 27 => ("TurnRingModel", "slotAt", "[I", true)
  | 28 => ("TurnRingModel", "dayAt", "[I", true)
  | 29 => ("TurnRingModel", "row", "[I", true)
  | 30 => ("TurnRingModel", "bestRow", "[I", true)
  | 31 => ("TurnRingModel", "tradeMany", "I", false)
  | 32 => ("TurnRingModel", "tradeMost", "I", false)
  | 33 => ("TurnRingModel", "drawX", "J", false)
  | 34 => ("TurnRingModel", "images", "[I", true)
  | 35 => ("TurnRingModel", "imageX", "[I", true)
  | _ => ("TurnRingModel", "isMade", "[Z", true)
def ty_Mo : Nat → FieldType := fun k => match k with
  | 0 => .array .byte
  | 1 => .int
  | 2 => .int
  | 3 => .array .int
  | 4 => .array .int
  | 5 => .array .int
  | 6 => .array .int
  | 7 => .array .int
  | 8 => .int
  | 9 => .int
  | 10 => .int
  | 11 => .int
  | 12 => .int
  | 13 => .int
  | 14 => .int
  | 15 => .array .int
  | 16 => .int
  | 17 => .array .long
  | 18 => .int
  | 19 => .array .long
  | 20 => .array .int
  | 21 => .int
  | 22 => .array .int
  | 23 => .int
  | 24 => .array .int
  | 25 => .array .int
  | 26 => .array .int
  | 27 => .array .int
  | 28 => .array .int
  | 29 => .array .int
  | 30 => .array .int
  | 31 => .int
  | 32 => .int
  | 33 => .long
  | 34 => .array .int
  | 35 => .array .int
  | _ => .array .boolean
def ab_isN : Cond → Bool
  | .methodLinkNest _ _ _ _ => true
  | .fieldLinkNest _ _ _ _ _ _ => true
  | _ => false
def g_cl : List vw_C := [("TurnRing$ActLog", tf_Ac, 5), ("TurnRing$Diary", tf_Di, 5), ("TurnRing$Guesser", tf_Gu, 6), ("TurnRing$Machine", tf_Ma, 2), ("TurnRing$Planner", tf_Pl, 5), ("TurnRing$Ring", tf_Ri, 18), ("TurnRing$Rule", tf_Ro, 1), ("TurnRing$RuleReader", tf_Ru, 3), ("TurnRing$Tape", tf_Ta, 9), ("TurnRing$Trader", tf_Tr, 5), ("TurnRing", tf_Tu, 13), ("TurnRingModel", tf_Mo, 37)]
def g_TT : List Cond := lw_tbl.filter goodWord
def g_NL : List Cond := lw_tbl.filter ab_isN
def g_ST : ab_T := [("TurnRing$Tape", 15, "", 0), ("TurnRing$RingReader", 11, "ring house sight likes loathes gate rate", 1), ("TurnRing$RuleReader", 15, "hour day angle rate worn liked best least stays votes gates stops turn if not and or", 2)]
def g_ln : List Nat := [0, 40, 84]
def g_by : List (List Int32) := [[], [114, 105, 110, 103, 32, 104, 111, 117, 115, 101, 32, 115, 105, 103, 104, 116, 32, 108, 105, 107, 101, 115, 32, 108, 111, 97, 116, 104, 101, 115, 32, 103, 97, 116, 101, 32, 114, 97, 116, 101], [104, 111, 117, 114, 32, 100, 97, 121, 32, 97, 110, 103, 108, 101, 32, 114, 97, 116, 101, 32, 119, 111, 114, 110, 32, 108, 105, 107, 101, 100, 32, 98, 101, 115, 116, 32, 108, 101, 97, 115, 116, 32, 115, 116, 97, 121, 115, 32, 118, 111, 116, 101, 115, 32, 103, 97, 116, 101, 115, 32, 115, 116, 111, 112, 115, 32, 116, 117, 114, 110, 32, 105, 102, 32, 110, 111, 116, 32, 97, 110, 100, 32, 111, 114]]
def g_rs : List String := ["TurnRing$Ring", "TurnRing$Rule"]
def g_G : ab_G := (g_cl, g_TT, g_NL, g_ST, g_ln, g_by)
set_option maxRecDepth 4000 in
theorem g_memT {w : Cond} (h : w ∈ lw_tbl) (hg : goodWord w = true) : w ∈ g_G.2.1 := (List.mem_filter (p := goodWord) (as := lw_tbl)).mpr ⟨h, hg⟩
set_option maxRecDepth 4000 in
theorem g_memM {w : Cond} (h : w ∈ lw_tbl) (hg : ab_isN w = true) : w ∈ g_G.2.2.1 := (List.mem_filter (p := ab_isN) (as := lw_tbl)).mpr ⟨h, hg⟩
theorem g_t1 {w : Cond} (i : Nat) (h : tables_1_1[i]? = some w) : w ∈ lw_tbl := List.mem_append_right _ (List.mem_append_left _ (List.mem_of_getElem? h))
theorem g_t2 {w : Cond} (i : Nat) (h : tables_1_2[i]? = some w) : w ∈ lw_tbl := List.mem_append_right _ (List.mem_append_right _ (List.mem_append_left _ (List.mem_of_getElem? h)))
theorem g_t3 {w : Cond} (i : Nat) (h : tables_1_3[i]? = some w) : w ∈ lw_tbl := List.mem_append_right _ (List.mem_append_right _ (List.mem_append_right _ (List.mem_append_left _ (List.mem_of_getElem? h))))
theorem g_t4 {w : Cond} (i : Nat) (h : tables_1_4[i]? = some w) : w ∈ lw_tbl := List.mem_append_right _ (List.mem_append_right _ (List.mem_append_right _ (List.mem_append_right _ (List.mem_append_left _ (List.mem_of_getElem? h)))))
theorem g_t5 {w : Cond} (i : Nat) (h : tables_1_5[i]? = some w) : w ∈ lw_tbl := List.mem_append_right _ (List.mem_append_right _ (List.mem_append_right _ (List.mem_append_right _ (List.mem_append_right _ (List.mem_append_left _ (List.mem_of_getElem? h))))))
theorem g_t6 {w : Cond} (i : Nat) (h : tables_1_6[i]? = some w) : w ∈ lw_tbl := List.mem_append_right _ (List.mem_append_right _ (List.mem_append_right _ (List.mem_append_right _ (List.mem_append_right _ (List.mem_append_right _ (List.mem_append_left _ (List.mem_of_getElem? h)))))))
theorem g_t7 {w : Cond} (i : Nat) (h : tables_1_7[i]? = some w) : w ∈ lw_tbl := List.mem_append_right _ (List.mem_append_right _ (List.mem_append_right _ (List.mem_append_right _ (List.mem_append_right _ (List.mem_append_right _ (List.mem_append_right _ ((List.mem_of_getElem? h))))))))
theorem g_t0 {w : Cond} (i : Nat) (h : (k2_sels lw_privs)[i]? = some w) : w ∈ lw_tbl := List.mem_append_left _ (List.mem_of_getElem? h)
theorem g_good : ∀ x ∈ g_G.2.1, goodWord x = true := fun x h => (List.mem_filter.mp h).2
theorem uw_Ac : ∀ x ∈ u_ws "TurnRing$ActLog" tf_Ac 5, x ∈ g_G.2.1 := by
  have h : ∀ x ∈ u_ws "TurnRing$ActLog" tf_Ac 5, x ∈ lw_tbl ∧ goodWord x = true := by decide +kernel
  exact fun x hx => List.mem_filter.mpr (h x hx)
theorem nm_Ac : ∀ a, a < 5 → ∀ b, b < 5 → a ≠ b → (tf_Ac a).2.1 ≠ (tf_Ac b).2.1 := by decide +kernel
theorem tk_Ac : ∀ k, k < 5 → parseFieldDescriptor (tf_Ac k).2.2.1 = some (ty_Ac k) := by decide +kernel
def df_Ac : List ab_V := [ab_N, ab_N, ab_N, ab_I 0, ab_I 0]
theorem dk_Ac : ∀ (as : Nat → Nat) (j : Nat), j < 5 → defaultValue (ty_Ac j) = vp_V (df_Ac.map (ab_cv as)) j := by
  intro as j hj
  rcases (by omega : j = 0 ∨ j = 1 ∨ j = 2 ∨ j = 3 ∨ j = 4) with rfl | rfl | rfl | rfl | rfl <;> rfl
theorem uw_Di : ∀ x ∈ u_ws "TurnRing$Diary" tf_Di 5, x ∈ g_G.2.1 := by
  have h : ∀ x ∈ u_ws "TurnRing$Diary" tf_Di 5, x ∈ lw_tbl ∧ goodWord x = true := by decide +kernel
  exact fun x hx => List.mem_filter.mpr (h x hx)
theorem nm_Di : ∀ a, a < 5 → ∀ b, b < 5 → a ≠ b → (tf_Di a).2.1 ≠ (tf_Di b).2.1 := by decide +kernel
theorem tk_Di : ∀ k, k < 5 → parseFieldDescriptor (tf_Di k).2.2.1 = some (ty_Di k) := by decide +kernel
def df_Di : List ab_V := [ab_I 0, ab_N, ab_N, ab_N, ab_N]
theorem dk_Di : ∀ (as : Nat → Nat) (j : Nat), j < 5 → defaultValue (ty_Di j) = vp_V (df_Di.map (ab_cv as)) j := by
  intro as j hj
  rcases (by omega : j = 0 ∨ j = 1 ∨ j = 2 ∨ j = 3 ∨ j = 4) with rfl | rfl | rfl | rfl | rfl <;> rfl
theorem uw_Gu : ∀ x ∈ u_ws "TurnRing$Guesser" tf_Gu 6, x ∈ g_G.2.1 := by
  have h : ∀ x ∈ u_ws "TurnRing$Guesser" tf_Gu 6, x ∈ lw_tbl ∧ goodWord x = true := by decide +kernel
  exact fun x hx => List.mem_filter.mpr (h x hx)
theorem nm_Gu : ∀ a, a < 6 → ∀ b, b < 6 → a ≠ b → (tf_Gu a).2.1 ≠ (tf_Gu b).2.1 := by decide +kernel
theorem tk_Gu : ∀ k, k < 6 → parseFieldDescriptor (tf_Gu k).2.2.1 = some (ty_Gu k) := by decide +kernel
def df_Gu : List ab_V := [ab_N, ab_N, ab_I 0, ab_N, ab_I 0, ab_I 0]
theorem dk_Gu : ∀ (as : Nat → Nat) (j : Nat), j < 6 → defaultValue (ty_Gu j) = vp_V (df_Gu.map (ab_cv as)) j := by
  intro as j hj
  rcases (by omega : j = 0 ∨ j = 1 ∨ j = 2 ∨ j = 3 ∨ j = 4 ∨ j = 5) with rfl | rfl | rfl | rfl | rfl | rfl <;> rfl
theorem uw_Ma : ∀ x ∈ u_ws "TurnRing$Machine" tf_Ma 2, x ∈ g_G.2.1 := by
  have h : ∀ x ∈ u_ws "TurnRing$Machine" tf_Ma 2, x ∈ lw_tbl ∧ goodWord x = true := by decide +kernel
  exact fun x hx => List.mem_filter.mpr (h x hx)
theorem nm_Ma : ∀ a, a < 2 → ∀ b, b < 2 → a ≠ b → (tf_Ma a).2.1 ≠ (tf_Ma b).2.1 := by decide +kernel
theorem tk_Ma : ∀ k, k < 2 → parseFieldDescriptor (tf_Ma k).2.2.1 = some (ty_Ma k) := by decide +kernel
def df_Ma : List ab_V := [ab_N, ab_I 0]
theorem dk_Ma : ∀ (as : Nat → Nat) (j : Nat), j < 2 → defaultValue (ty_Ma j) = vp_V (df_Ma.map (ab_cv as)) j := by
  intro as j hj
  rcases (by omega : j = 0 ∨ j = 1) with rfl | rfl <;> rfl
theorem uw_Pl : ∀ x ∈ u_ws "TurnRing$Planner" tf_Pl 5, x ∈ g_G.2.1 := by
  have h : ∀ x ∈ u_ws "TurnRing$Planner" tf_Pl 5, x ∈ lw_tbl ∧ goodWord x = true := by decide +kernel
  exact fun x hx => List.mem_filter.mpr (h x hx)
theorem nm_Pl : ∀ a, a < 5 → ∀ b, b < 5 → a ≠ b → (tf_Pl a).2.1 ≠ (tf_Pl b).2.1 := by decide +kernel
theorem tk_Pl : ∀ k, k < 5 → parseFieldDescriptor (tf_Pl k).2.2.1 = some (ty_Pl k) := by decide +kernel
def df_Pl : List ab_V := [ab_N, ab_N, ab_I 0, ab_N, ab_N]
theorem dk_Pl : ∀ (as : Nat → Nat) (j : Nat), j < 5 → defaultValue (ty_Pl j) = vp_V (df_Pl.map (ab_cv as)) j := by
  intro as j hj
  rcases (by omega : j = 0 ∨ j = 1 ∨ j = 2 ∨ j = 3 ∨ j = 4) with rfl | rfl | rfl | rfl | rfl <;> rfl
theorem uw_Ri : ∀ x ∈ u_ws "TurnRing$Ring" tf_Ri 18, x ∈ g_G.2.1 := by
  have h : ∀ x ∈ u_ws "TurnRing$Ring" tf_Ri 18, x ∈ lw_tbl ∧ goodWord x = true := by decide +kernel
  exact fun x hx => List.mem_filter.mpr (h x hx)
theorem nm_Ri : ∀ a, a < 18 → ∀ b, b < 18 → a ≠ b → (tf_Ri a).2.1 ≠ (tf_Ri b).2.1 := by decide +kernel
theorem tk_Ri : ∀ k, k < 18 → parseFieldDescriptor (tf_Ri k).2.2.1 = some (ty_Ri k) := by decide +kernel
def df_Ri : List ab_V := [ab_I 0, ab_I 0, ab_I 0, ab_I 0, ab_I 0, ab_I 0, ab_I 0, ab_I 0, ab_I 0, ab_I 0, ab_N, ab_N, ab_N, ab_N, ab_N, ab_N, ab_N, ab_N]
theorem dk_Ri : ∀ (as : Nat → Nat) (j : Nat), j < 18 → defaultValue (ty_Ri j) = vp_V (df_Ri.map (ab_cv as)) j := by
  intro as j hj
  rcases (by omega : j = 0 ∨ j = 1 ∨ j = 2 ∨ j = 3 ∨ j = 4 ∨ j = 5 ∨ j = 6 ∨ j = 7 ∨ j = 8 ∨ j = 9 ∨ j = 10 ∨ j = 11 ∨ j = 12 ∨ j = 13 ∨ j = 14 ∨ j = 15 ∨ j = 16 ∨ j = 17) with rfl | rfl | rfl | rfl | rfl | rfl | rfl | rfl | rfl | rfl | rfl | rfl | rfl | rfl | rfl | rfl | rfl | rfl <;> rfl
theorem uw_Ro : ∀ x ∈ u_ws "TurnRing$Rule" tf_Ro 1, x ∈ g_G.2.1 := by
  have h : ∀ x ∈ u_ws "TurnRing$Rule" tf_Ro 1, x ∈ lw_tbl ∧ goodWord x = true := by decide +kernel
  exact fun x hx => List.mem_filter.mpr (h x hx)
theorem nm_Ro : ∀ a, a < 1 → ∀ b, b < 1 → a ≠ b → (tf_Ro a).2.1 ≠ (tf_Ro b).2.1 := by decide +kernel
theorem tk_Ro : ∀ k, k < 1 → parseFieldDescriptor (tf_Ro k).2.2.1 = some (ty_Ro k) := by decide +kernel
def df_Ro : List ab_V := [ab_N]
theorem dk_Ro : ∀ (as : Nat → Nat) (j : Nat), j < 1 → defaultValue (ty_Ro j) = vp_V (df_Ro.map (ab_cv as)) j := by
  intro as j hj
  rcases (by omega : j = 0) with rfl <;> rfl
theorem uw_Ru : ∀ x ∈ u_ws "TurnRing$RuleReader" tf_Ru 3, x ∈ g_G.2.1 := by
  have h : ∀ x ∈ u_ws "TurnRing$RuleReader" tf_Ru 3, x ∈ lw_tbl ∧ goodWord x = true := by decide +kernel
  exact fun x hx => List.mem_filter.mpr (h x hx)
theorem nm_Ru : ∀ a, a < 3 → ∀ b, b < 3 → a ≠ b → (tf_Ru a).2.1 ≠ (tf_Ru b).2.1 := by decide +kernel
theorem tk_Ru : ∀ k, k < 3 → parseFieldDescriptor (tf_Ru k).2.2.1 = some (ty_Ru k) := by decide +kernel
def df_Ru : List ab_V := [ab_N, ab_I 0, ab_I 0]
theorem dk_Ru : ∀ (as : Nat → Nat) (j : Nat), j < 3 → defaultValue (ty_Ru j) = vp_V (df_Ru.map (ab_cv as)) j := by
  intro as j hj
  rcases (by omega : j = 0 ∨ j = 1 ∨ j = 2) with rfl | rfl | rfl <;> rfl
theorem uw_Ta : ∀ x ∈ u_ws "TurnRing$Tape" tf_Ta 9, x ∈ g_G.2.1 := by
  have h : ∀ x ∈ u_ws "TurnRing$Tape" tf_Ta 9, x ∈ lw_tbl ∧ goodWord x = true := by decide +kernel
  exact fun x hx => List.mem_filter.mpr (h x hx)
theorem nm_Ta : ∀ a, a < 9 → ∀ b, b < 9 → a ≠ b → (tf_Ta a).2.1 ≠ (tf_Ta b).2.1 := by decide +kernel
theorem tk_Ta : ∀ k, k < 9 → parseFieldDescriptor (tf_Ta k).2.2.1 = some (ty_Ta k) := by decide +kernel
def df_Ta : List ab_V := [ab_N, ab_I 0, ab_I 0, ab_N, ab_I 0, ab_I 0, ab_I 0, ab_I 0, ab_I 0]
theorem dk_Ta : ∀ (as : Nat → Nat) (j : Nat), j < 9 → defaultValue (ty_Ta j) = vp_V (df_Ta.map (ab_cv as)) j := by
  intro as j hj
  rcases (by omega : j = 0 ∨ j = 1 ∨ j = 2 ∨ j = 3 ∨ j = 4 ∨ j = 5 ∨ j = 6 ∨ j = 7 ∨ j = 8) with rfl | rfl | rfl | rfl | rfl | rfl | rfl | rfl | rfl <;> rfl
theorem uw_Tr : ∀ x ∈ u_ws "TurnRing$Trader" tf_Tr 5, x ∈ g_G.2.1 := by
  have h : ∀ x ∈ u_ws "TurnRing$Trader" tf_Tr 5, x ∈ lw_tbl ∧ goodWord x = true := by decide +kernel
  exact fun x hx => List.mem_filter.mpr (h x hx)
theorem nm_Tr : ∀ a, a < 5 → ∀ b, b < 5 → a ≠ b → (tf_Tr a).2.1 ≠ (tf_Tr b).2.1 := by decide +kernel
theorem tk_Tr : ∀ k, k < 5 → parseFieldDescriptor (tf_Tr k).2.2.1 = some (ty_Tr k) := by decide +kernel
def df_Tr : List ab_V := [ab_N, ab_N, ab_N, ab_N, ab_N]
theorem dk_Tr : ∀ (as : Nat → Nat) (j : Nat), j < 5 → defaultValue (ty_Tr j) = vp_V (df_Tr.map (ab_cv as)) j := by
  intro as j hj
  rcases (by omega : j = 0 ∨ j = 1 ∨ j = 2 ∨ j = 3 ∨ j = 4) with rfl | rfl | rfl | rfl | rfl <;> rfl
theorem uw_Tu : ∀ x ∈ u_ws "TurnRing" tf_Tu 13, x ∈ g_G.2.1 := by
  have h : ∀ x ∈ u_ws "TurnRing" tf_Tu 13, x ∈ lw_tbl ∧ goodWord x = true := by decide +kernel
  exact fun x hx => List.mem_filter.mpr (h x hx)
theorem nm_Tu : ∀ a, a < 13 → ∀ b, b < 13 → a ≠ b → (tf_Tu a).2.1 ≠ (tf_Tu b).2.1 := by decide +kernel
theorem tk_Tu : ∀ k, k < 13 → parseFieldDescriptor (tf_Tu k).2.2.1 = some (ty_Tu k) := by decide +kernel
def df_Tu : List ab_V := [ab_N, ab_N, ab_N, ab_N, ab_N, ab_N, ab_I 0, ab_N, ab_N, ab_N, ab_N, ab_N, ab_N]
theorem dk_Tu : ∀ (as : Nat → Nat) (j : Nat), j < 13 → defaultValue (ty_Tu j) = vp_V (df_Tu.map (ab_cv as)) j := by
  intro as j hj
  rcases (by omega : j = 0 ∨ j = 1 ∨ j = 2 ∨ j = 3 ∨ j = 4 ∨ j = 5 ∨ j = 6 ∨ j = 7 ∨ j = 8 ∨ j = 9 ∨ j = 10 ∨ j = 11 ∨ j = 12) with rfl | rfl | rfl | rfl | rfl | rfl | rfl | rfl | rfl | rfl | rfl | rfl | rfl <;> rfl
theorem uw_Mo : ∀ x ∈ u_ws "TurnRingModel" tf_Mo 37, x ∈ g_G.2.1 := by
  have h : ∀ x ∈ u_ws "TurnRingModel" tf_Mo 37, x ∈ lw_tbl ∧ goodWord x = true := by decide +kernel
  exact fun x hx => List.mem_filter.mpr (h x hx)
theorem nm_Mo : ∀ a, a < 37 → ∀ b, b < 37 → a ≠ b → (tf_Mo a).2.1 ≠ (tf_Mo b).2.1 := by decide +kernel
theorem tk_Mo : ∀ k, k < 37 → parseFieldDescriptor (tf_Mo k).2.2.1 = some (ty_Mo k) := by decide +kernel
def df_Mo : List ab_V := [ab_N, ab_I 0, ab_I 0, ab_N, ab_N, ab_N, ab_N, ab_N, ab_I 0, ab_I 0, ab_I 0, ab_I 0, ab_I 0, ab_I 0, ab_I 0, ab_N, ab_I 0, ab_N, ab_I 0, ab_N, ab_N, ab_I 0, ab_N, ab_I 0, ab_N, ab_N, ab_N, ab_N, ab_N, ab_N, ab_N, ab_I 0, ab_I 0, ab_J 0, ab_N, ab_N, ab_N]
theorem dk_Mo : ∀ (as : Nat → Nat) (j : Nat), j < 37 → defaultValue (ty_Mo j) = vp_V (df_Mo.map (ab_cv as)) j := by
  intro as j hj
  rcases (by omega : j = 0 ∨ j = 1 ∨ j = 2 ∨ j = 3 ∨ j = 4 ∨ j = 5 ∨ j = 6 ∨ j = 7 ∨ j = 8 ∨ j = 9 ∨ j = 10 ∨ j = 11 ∨ j = 12 ∨ j = 13 ∨ j = 14 ∨ j = 15 ∨ j = 16 ∨ j = 17 ∨ j = 18 ∨ j = 19 ∨ j = 20 ∨ j = 21 ∨ j = 22 ∨ j = 23 ∨ j = 24 ∨ j = 25 ∨ j = 26 ∨ j = 27 ∨ j = 28 ∨ j = 29 ∨ j = 30 ∨ j = 31 ∨ j = 32 ∨ j = 33 ∨ j = 34 ∨ j = 35 ∨ j = 36) with rfl | rfl | rfl | rfl | rfl | rfl | rfl | rfl | rfl | rfl | rfl | rfl | rfl | rfl | rfl | rfl | rfl | rfl | rfl | rfl | rfl | rfl | rfl | rfl | rfl | rfl | rfl | rfl | rfl | rfl | rfl | rfl | rfl | rfl | rfl | rfl | rfl <;> rfl
abbrev mt_Tu_init : ab_M := (⟨"TurnRing", "<init>", "()V"⟩, prog_1_method_1_code, 2, none)
abbrev mt_Ta_init : ab_M := (⟨"TurnRing$Tape", "<init>", "()V"⟩, prog_11_method_1_code, 1, none)
abbrev mt_Ri_init : ab_M := (⟨"TurnRing$Ring", "<init>", "()V"⟩, prog_7_method_1_code, 1, none)
abbrev mt_Di_init : ab_M := (⟨"TurnRing$Diary", "<init>", "()V"⟩, prog_3_method_1_code, 1, none)
abbrev mt_Ac_init : ab_M := (⟨"TurnRing$ActLog", "<init>", "()V"⟩, prog_2_method_1_code, 1, none)
abbrev mt_Ru_init : ab_M := (⟨"TurnRing$RuleReader", "<init>", "()V"⟩, prog_10_method_1_code, 1, none)
abbrev mt_Ma_init : ab_M := (⟨"TurnRing$Machine", "<init>", "()V"⟩, prog_5_method_1_code, 1, none)
abbrev mt_Pl_init : ab_M := (⟨"TurnRing$Planner", "<init>", "()V"⟩, prog_6_method_1_code, 1, none)
abbrev mt_Tr_init : ab_M := (⟨"TurnRing$Trader", "<init>", "()V"⟩, prog_12_method_1_code, 1, none)
abbrev mt_Gu_init : ab_M := (⟨"TurnRing$Guesser", "<init>", "()V"⟩, prog_4_method_1_code, 1, none)
abbrev mt_Tu_feed : ab_M := (⟨"TurnRing", "feed", "(IIIII)I"⟩, prog_1_method_2_code, 6, (some .int))
abbrev mt_Ta_putBytes : ab_M := (⟨"TurnRing$Tape", "putBytes", "(I)V"⟩, prog_11_method_2_code, 3, none)
abbrev mt_Tu_end : ab_M := (⟨"TurnRing", "end", "(I)I"⟩, prog_1_method_3_code, 2, (some .int))
abbrev mt_Tu_ring : ab_M := (⟨"TurnRing", "ring", "()I"⟩, prog_1_method_4_code, 3, (some .int))
abbrev mt_Rr_readAll : ab_M := (⟨"TurnRing$RingReader", "readAll", "(LTurnRing$Tape;LTurnRing$Ring;)I"⟩, prog_8_method_2_code, 5, (some .int))
abbrev mt_Ta_begin : ab_M := (⟨"TurnRing$Tape", "begin", "(Ljava/lang/String;)V"⟩, prog_11_method_3_code, 2, none)
abbrev mt_Ta_advance : ab_M := (⟨"TurnRing$Tape", "advance", "()V"⟩, prog_11_method_5_code, 1, none)
abbrev mt_Ta_readNumber : ab_M := (⟨"TurnRing$Tape", "readNumber", "()V"⟩, prog_11_method_6_code, 2, none)
abbrev mt_Ta_readWord : ab_M := (⟨"TurnRing$Tape", "readWord", "()V"⟩, prog_11_method_7_code, 6, none)
abbrev mt_St_length : ab_M := (⟨"java/lang/String", "length", "()I"⟩, prog_18_method_54_code, 1, (some .int))
abbrev mt_St_coder : ab_M := (⟨"java/lang/String", "coder", "()B"⟩, prog_18_method_152_code, 1, (some .byte))
abbrev mt_St_charAt : ab_M := (⟨"java/lang/String", "charAt", "(I)C"⟩, prog_18_method_56_code, 2, (some .char))
abbrev mt_St_isLatin1 : ab_M := (⟨"java/lang/String", "isLatin1", "()Z"⟩, prog_18_method_154_code, 1, (some .boolean))
abbrev mt_Sl_charAt : ab_M := (⟨"java/lang/StringLatin1", "charAt", "([BI)C"⟩, prog_19_method_2_code, 2, (some .char))
abbrev mt_St_checkIndex : ab_M := (⟨"java/lang/String", "checkIndex", "(II)V"⟩, prog_18_method_155_code, 2, none)
abbrev mt_Zz_checkIndex : ab_M := (⟨"jdk/internal/util/Preconditions", "checkIndex", "(IILjava/util/function/BiFunction;)I"⟩, prog_23_method_11_code, 3, (some .int))
abbrev mt_Su_charAt : ab_M := (⟨"java/lang/StringUTF16", "charAt", "([BI)C"⟩, prog_20_method_83_code, 2, (some .char))
abbrev mt_Su_checkIndex : ab_M := (⟨"java/lang/StringUTF16", "checkIndex", "(I[B)V"⟩, prog_20_method_91_code, 2, none)
abbrev mt_Su_length : ab_M := (⟨"java/lang/StringUTF16", "length", "([B)I"⟩, prog_20_method_6_code, 1, (some .int))
abbrev mt_Su_getChar : ab_M := (⟨"java/lang/StringUTF16", "getChar", "([BI)C"⟩, prog_20_method_5_code, 2, (some .char))
abbrev mt_Ta_readSign : ab_M := (⟨"TurnRing$Tape", "readSign", "()V"⟩, prog_11_method_8_code, 2, none)
abbrev mt_Ri_clear : ab_M := (⟨"TurnRing$Ring", "clear", "()V"⟩, prog_7_method_2_code, 1, none)
abbrev mt_Ar_fill_AIIV : ab_M := (⟨"java/util/Arrays", "fill", "([II)V"⟩, prog_22_method_103_code, 4, none)
abbrev mt_Ar_fill_AJJV : ab_M := (⟨"java/util/Arrays", "fill", "([JJ)V"⟩, prog_22_method_101_code, 5, none)
abbrev mt_Ta_fail : ab_M := (⟨"TurnRing$Tape", "fail", "(I)V"⟩, prog_11_method_4_code, 2, none)
abbrev mt_Rr_mayFollow : ab_M := (⟨"TurnRing$RingReader", "mayFollow", "(LTurnRing$Ring;II)Z"⟩, prog_8_method_3_code, 3, (some .boolean))
abbrev mt_Rr_readRest : ab_M := (⟨"TurnRing$RingReader", "readRest", "(LTurnRing$Tape;LTurnRing$Ring;I)V"⟩, prog_8_method_4_code, 3, none)
abbrev mt_Ta_takeNumber : ab_M := (⟨"TurnRing$Tape", "takeNumber", "(II)I"⟩, prog_11_method_9_code, 4, (some .int))
abbrev mt_Mh_max_III : ab_M := (⟨"java/lang/Math", "max", "(II)I"⟩, prog_17_method_65_code, 2, (some .int))
abbrev mt_Rr_readHouse : ab_M := (⟨"TurnRing$RingReader", "readHouse", "(LTurnRing$Tape;LTurnRing$Ring;)V"⟩, prog_8_method_5_code, 4, none)
abbrev mt_Ri_slotTaken : ab_M := (⟨"TurnRing$Ring", "slotTaken", "(I)Z"⟩, prog_7_method_4_code, 3, (some .boolean))
abbrev mt_Ri_addHouse : ab_M := (⟨"TurnRing$Ring", "addHouse", "(II)V"⟩, prog_7_method_5_code, 3, none)
abbrev mt_Rr_readSight : ab_M := (⟨"TurnRing$RingReader", "readSight", "(LTurnRing$Tape;LTurnRing$Ring;)V"⟩, prog_8_method_6_code, 6, none)
abbrev mt_Ri_addSight : ab_M := (⟨"TurnRing$Ring", "addSight", "(IIII)V"⟩, prog_7_method_6_code, 6, none)
abbrev mt_Rr_readLiking : ab_M := (⟨"TurnRing$RingReader", "readLiking", "(LTurnRing$Tape;LTurnRing$Ring;I)V"⟩, prog_8_method_7_code, 6, none)
abbrev mt_Rr_readGate : ab_M := (⟨"TurnRing$RingReader", "readGate", "(LTurnRing$Tape;LTurnRing$Ring;)V"⟩, prog_8_method_8_code, 3, none)
abbrev mt_Rr_readRate : ab_M := (⟨"TurnRing$RingReader", "readRate", "(LTurnRing$Tape;LTurnRing$Ring;)V"⟩, prog_8_method_9_code, 5, none)
abbrev mt_Ri_setRates : ab_M := (⟨"TurnRing$Ring", "setRates", "(III)V"⟩, prog_7_method_7_code, 5, none)
abbrev mt_Ac_forget : ab_M := (⟨"TurnRing$ActLog", "forget", "()V"⟩, prog_2_method_2_code, 1, none)
abbrev mt_Tu_rule : ab_M := (⟨"TurnRing", "rule", "()I"⟩, prog_1_method_5_code, 2, (some .int))
abbrev mt_Ru_readAll : ab_M := (⟨"TurnRing$RuleReader", "readAll", "(LTurnRing$Tape;)I"⟩, prog_10_method_2_code, 5, (some .int))
abbrev mt_Ru_readSum : ab_M := (⟨"TurnRing$RuleReader", "readSum", "(LTurnRing$Tape;)V"⟩, prog_10_method_8_code, 6, none)
abbrev mt_Ru_checkValue : ab_M := (⟨"TurnRing$RuleReader", "checkValue", "(LTurnRing$Tape;)V"⟩, prog_10_method_9_code, 3, none)
abbrev mt_Ru_countToken : ab_M := (⟨"TurnRing$RuleReader", "countToken", "(LTurnRing$Tape;)V"⟩, prog_10_method_5_code, 2, none)
abbrev mt_Ru_emit : ab_M := (⟨"TurnRing$RuleReader", "emit", "(I)V"⟩, prog_10_method_4_code, 2, none)
abbrev mt_Ru_timingOf : ab_M := (⟨"TurnRing$RuleReader", "timingOf", "(I)I"⟩, prog_10_method_11_code, 1, (some .int))
abbrev mt_Ru_addingOf : ab_M := (⟨"TurnRing$RuleReader", "addingOf", "(I)I"⟩, prog_10_method_10_code, 1, (some .int))
abbrev mt_Ru_readTest : ab_M := (⟨"TurnRing$RuleReader", "readTest", "(LTurnRing$Tape;I)V"⟩, prog_10_method_6_code, 7, none)
abbrev mt_Ru_readFact : ab_M := (⟨"TurnRing$RuleReader", "readFact", "(LTurnRing$Tape;I)V"⟩, prog_10_method_7_code, 5, none)
abbrev mt_Ru_comparisonOf : ab_M := (⟨"TurnRing$RuleReader", "comparisonOf", "(I)I"⟩, prog_10_method_12_code, 1, (some .int))
abbrev mt_Ru_codeRead : ab_M := (⟨"TurnRing$RuleReader", "codeRead", "()[I"⟩, prog_10_method_3_code, 1, (Option.some (FieldType.array FieldType.int)))
abbrev mt_Ar_copyOf : ab_M := (⟨"java/util/Arrays", "copyOf", "([II)[I"⟩, prog_22_method_123_code, 3, (Option.some (FieldType.array FieldType.int)))
abbrev mt_Mh_min_III : ab_M := (⟨"java/lang/Math", "min", "(II)I"⟩, prog_17_method_69_code, 2, (some .int))
abbrev mt_Ro_init : ab_M := (⟨"TurnRing$Rule", "<init>", "([I)V"⟩, prog_9_method_1_code, 2, none)
abbrev mt_Tu_house : ab_M := (⟨"TurnRing", "house", "(II)I"⟩, prog_1_method_6_code, 3, (some .int))
abbrev mt_Tu_hasHouse : ab_M := (⟨"TurnRing", "hasHouse", "(I)Z"⟩, prog_1_method_37_code, 2, (some .boolean))
abbrev mt_Ri_facing : ab_M := (⟨"TurnRing$Ring", "facing", "(I)I"⟩, prog_7_method_9_code, 2, (some .int))
abbrev mt_Tu_facedBy : ab_M := (⟨"TurnRing", "facedBy", "(II)I"⟩, prog_1_method_44_code, 3, (some .int))
abbrev mt_Ri_sortsAt : ab_M := (⟨"TurnRing$Ring", "sortsAt", "(II)I"⟩, prog_7_method_11_code, 3, (some .int))
abbrev mt_Ri_likesNow : ab_M := (⟨"TurnRing$Ring", "likesNow", "(I)I"⟩, prog_7_method_13_code, 2, (some .int))
abbrev mt_Ri_likesIn : ab_M := (⟨"TurnRing$Ring", "likesIn", "(IIII)I"⟩, prog_7_method_12_code, 8, (some .int))
abbrev mt_Ri_isGate : ab_M := (⟨"TurnRing$Ring", "isGate", "(I)Z"⟩, prog_7_method_8_code, 2, (some .boolean))
abbrev mt_Ri_wantsStay : ab_M := (⟨"TurnRing$Ring", "wantsStay", "(I)Z"⟩, prog_7_method_19_code, 3, (some .boolean))
abbrev mt_Tu_wrapped : ab_M := (⟨"TurnRing", "wrapped", "(I)I"⟩, prog_1_method_43_code, 2, (some .int))
abbrev mt_Tu_direction : ab_M := (⟨"TurnRing", "direction", "(II)I"⟩, prog_1_method_7_code, 3, (some .int))
abbrev mt_Tu_isDirection : ab_M := (⟨"TurnRing", "isDirection", "(I)Z"⟩, prog_1_method_39_code, 1, (some .boolean))
abbrev mt_Ri_houseFacing : ab_M := (⟨"TurnRing$Ring", "houseFacing", "(I)I"⟩, prog_7_method_10_code, 3, (some .int))
abbrev mt_Tu_rateOf : ab_M := (⟨"TurnRing", "rateOf", "(I)I"⟩, prog_1_method_8_code, 2, (some .int))
abbrev mt_Tu_isHour : ab_M := (⟨"TurnRing", "isHour", "(I)Z"⟩, prog_1_method_40_code, 1, (some .boolean))
abbrev mt_Tu_worn : ab_M := (⟨"TurnRing", "worn", "(I)I"⟩, prog_1_method_9_code, 2, (some .int))
abbrev mt_Tu_count : ab_M := (⟨"TurnRing", "count", "(I)I"⟩, prog_1_method_10_code, 2, (some .int))
abbrev mt_Ri_allLike : ab_M := (⟨"TurnRing$Ring", "allLike", "(II)I"⟩, prog_7_method_14_code, 5, (some .int))
abbrev mt_Ri_allVotes : ab_M := (⟨"TurnRing$Ring", "allVotes", "()I"⟩, prog_7_method_21_code, 1, (some .int))
abbrev mt_Ri_votesOf : ab_M := (⟨"TurnRing$Ring", "votesOf", "(I)I"⟩, prog_7_method_22_code, 4, (some .int))
abbrev mt_Tu_hour : ab_M := (⟨"TurnRing", "hour", "()I"⟩, prog_1_method_11_code, 3, (some .int))
abbrev mt_Ri_hoursBehind : ab_M := (⟨"TurnRing$Ring", "hoursBehind", "(I)I"⟩, prog_7_method_26_code, 2, (some .int))
abbrev mt_Tu_lastHour : ab_M := (⟨"TurnRing", "lastHour", "()I"⟩, prog_1_method_42_code, 0, (some .int))
abbrev mt_Ri_passHour : ab_M := (⟨"TurnRing$Ring", "passHour", "(I)I"⟩, prog_7_method_27_code, 5, (some .int))
abbrev mt_Mh_abs : ab_M := (⟨"java/lang/Math", "abs", "(I)I"⟩, prog_17_method_59_code, 1, (some .int))
abbrev mt_Ac_keep : ab_M := (⟨"TurnRing$ActLog", "keep", "(III)V"⟩, prog_2_method_3_code, 4, none)
abbrev mt_Tu_rate : ab_M := (⟨"TurnRing", "rate", "(II)I"⟩, prog_1_method_12_code, 4, (some .int))
abbrev mt_Tu_swap : ab_M := (⟨"TurnRing", "swap", "(II)Z"⟩, prog_1_method_13_code, 3, (some .boolean))
abbrev mt_Ri_swapSlots : ab_M := (⟨"TurnRing$Ring", "swapSlots", "(II)V"⟩, prog_7_method_29_code, 4, none)
abbrev mt_Tu_stop : ab_M := (⟨"TurnRing", "stop", "()Z"⟩, prog_1_method_14_code, 1, (some .boolean))
abbrev mt_Tu_undo : ab_M := (⟨"TurnRing", "undo", "()I"⟩, prog_1_method_15_code, 1, (some .int))
abbrev mt_Ac_undoLast : ab_M := (⟨"TurnRing$ActLog", "undoLast", "(LTurnRing$Ring;)Z"⟩, prog_2_method_4_code, 4, (some .boolean))
abbrev mt_Ri_takeHourBack : ab_M := (⟨"TurnRing$Ring", "takeHourBack", "(IZ)V"⟩, prog_7_method_28_code, 5, none)
abbrev mt_Tu_run : ab_M := (⟨"TurnRing", "run", "(II)I"⟩, prog_1_method_16_code, 4, (some .int))
abbrev mt_Tu_hasRule : ab_M := (⟨"TurnRing", "hasRule", "(I)Z"⟩, prog_1_method_38_code, 2, (some .boolean))
abbrev mt_Ma_rateBy : ab_M := (⟨"TurnRing$Machine", "rateBy", "(LTurnRing$Rule;LTurnRing$Ring;)I"⟩, prog_5_method_2_code, 9, (some .int))
abbrev mt_Ma_push : ab_M := (⟨"TurnRing$Machine", "push", "(J)V"⟩, prog_5_method_4_code, 3, none)
abbrev mt_Ma_wordOf : ab_M := (⟨"TurnRing$Machine", "wordOf", "(ILTurnRing$Ring;)I"⟩, prog_5_method_8_code, 2, (some .int))
abbrev mt_Ri_bestLike : ab_M := (⟨"TurnRing$Ring", "bestLike", "()I"⟩, prog_7_method_15_code, 3, (some .int))
abbrev mt_Ri_leastLike : ab_M := (⟨"TurnRing$Ring", "leastLike", "()I"⟩, prog_7_method_16_code, 3, (some .int))
abbrev mt_Ri_stayVotes : ab_M := (⟨"TurnRing$Ring", "stayVotes", "()I"⟩, prog_7_method_20_code, 3, (some .int))
abbrev mt_Ri_atGates : ab_M := (⟨"TurnRing$Ring", "atGates", "()I"⟩, prog_7_method_17_code, 3, (some .int))
abbrev mt_Ma_pop : ab_M := (⟨"TurnRing$Machine", "pop", "()J"⟩, prog_5_method_5_code, 1, (some .long))
abbrev mt_Ma_truth : ab_M := (⟨"TurnRing$Machine", "truth", "(Z)J"⟩, prog_5_method_6_code, 1, (some .long))
abbrev mt_Ma_held : ab_M := (⟨"TurnRing$Machine", "held", "(J)I"⟩, prog_5_method_3_code, 2, (some .int))
abbrev mt_Mh_min_JJJ : ab_M := (⟨"java/lang/Math", "min", "(JJ)J"⟩, prog_17_method_70_code, 4, (some .long))
abbrev mt_Mh_max_JJJ : ab_M := (⟨"java/lang/Math", "max", "(JJ)J"⟩, prog_17_method_66_code, 4, (some .long))
abbrev mt_Ma_joined : ab_M := (⟨"TurnRing$Machine", "joined", "(IJJ)J"⟩, prog_5_method_7_code, 5, (some .long))
abbrev mt_Tu_seed : ab_M := (⟨"TurnRing", "seed", "(I)I"⟩, prog_1_method_17_code, 3, (some .int))
abbrev mt_Tu_image : ab_M := (⟨"TurnRing", "image", "(I)I"⟩, prog_1_method_18_code, 2, (some .int))
abbrev mt_Ri_copyFrom : ab_M := (⟨"TurnRing$Ring", "copyFrom", "(LTurnRing$Ring;)V"⟩, prog_7_method_3_code, 2, none)
abbrev mt_Di_copyFrom : ab_M := (⟨"TurnRing$Diary", "copyFrom", "(LTurnRing$Diary;)V"⟩, prog_3_method_2_code, 2, none)
abbrev mt_Tu_back : ab_M := (⟨"TurnRing", "back", "(I)I"⟩, prog_1_method_19_code, 2, (some .int))
abbrev mt_Tu_faces : ab_M := (⟨"TurnRing", "faces", "(II)I"⟩, prog_1_method_20_code, 3, (some .int))
abbrev mt_Ri_angleOn : ab_M := (⟨"TurnRing$Ring", "angleOn", "(I)I"⟩, prog_7_method_25_code, 4, (some .int))
abbrev mt_Ri_angleBehind : ab_M := (⟨"TurnRing$Ring", "angleBehind", "(II)I"⟩, prog_7_method_24_code, 3, (some .int))
abbrev mt_Ri_hourOn : ab_M := (⟨"TurnRing$Ring", "hourOn", "(I)I"⟩, prog_7_method_23_code, 2, (some .int))
abbrev mt_Tu_sees : ab_M := (⟨"TurnRing", "sees", "(II)I"⟩, prog_1_method_21_code, 3, (some .int))
abbrev mt_Tu_day : ab_M := (⟨"TurnRing", "day", "(I)I"⟩, prog_1_method_22_code, 2, (some .int))
abbrev mt_Ri_dayIn : ab_M := (⟨"TurnRing$Ring", "dayIn", "(II)I"⟩, prog_7_method_18_code, 6, (some .int))
abbrev mt_Tu_errand : ab_M := (⟨"TurnRing", "errand", "(IIII)I"⟩, prog_1_method_23_code, 10, (some .int))
abbrev mt_Tu_wayBetween : ab_M := (⟨"TurnRing", "wayBetween", "(II)I"⟩, prog_1_method_24_code, 3, (some .int))
abbrev mt_Tu_stay : ab_M := (⟨"TurnRing", "stay", "(I)I"⟩, prog_1_method_25_code, 4, (some .int))
abbrev mt_Tu_swings : ab_M := (⟨"TurnRing", "swings", "(I)I"⟩, prog_1_method_26_code, 6, (some .int))
abbrev mt_Tu_plan : ab_M := (⟨"TurnRing", "plan", "(IZI)I"⟩, prog_1_method_27_code, 4, (some .int))
abbrev mt_Pl_findBest : ab_M := (⟨"TurnRing$Planner", "findBest", "(LTurnRing$Ring;IZ)V"⟩, prog_6_method_2_code, 7, none)
abbrev mt_Pl_weighFrom : ab_M := (⟨"TurnRing$Planner", "weighFrom", "(LTurnRing$Ring;II)V"⟩, prog_6_method_3_code, 6, none)
abbrev mt_Pl_leastHad : ab_M := (⟨"TurnRing$Planner", "leastHad", "(LTurnRing$Ring;I)I"⟩, prog_6_method_6_code, 5, (some .int))
abbrev mt_Pl_allHad : ab_M := (⟨"TurnRing$Planner", "allHad", "(LTurnRing$Ring;I)I"⟩, prog_6_method_5_code, 5, (some .int))
abbrev mt_Pl_nextRow : ab_M := (⟨"TurnRing$Planner", "nextRow", "(I)I"⟩, prog_6_method_4_code, 3, (some .int))
abbrev mt_Tu_trade : ab_M := (⟨"TurnRing", "trade", "(I)I"⟩, prog_1_method_28_code, 2, (some .int))
abbrev mt_Tr_findRows : ab_M := (⟨"TurnRing$Trader", "findRows", "(LTurnRing$Ring;)V"⟩, prog_12_method_2_code, 5, none)
abbrev mt_Tr_sortSlots : ab_M := (⟨"TurnRing$Trader", "sortSlots", "(LTurnRing$Ring;)V"⟩, prog_12_method_3_code, 4, none)
abbrev mt_Tr_weighSet : ab_M := (⟨"TurnRing$Trader", "weighSet", "(II)V"⟩, prog_12_method_6_code, 6, none)
abbrev mt_In_bitCount : ab_M := (⟨"java/lang/Integer", "bitCount", "(I)I"⟩, prog_16_method_49_code, 1, (some .int))
abbrev mt_Tr_mayTake : ab_M := (⟨"TurnRing$Trader", "mayTake", "(III)Z"⟩, prog_12_method_4_code, 4, (some .boolean))
abbrev mt_Tr_sumWith : ab_M := (⟨"TurnRing$Trader", "sumWith", "(III)I"⟩, prog_12_method_5_code, 4, (some .int))
abbrev mt_Tr_firstSlotOf : ab_M := (⟨"TurnRing$Trader", "firstSlotOf", "(LTurnRing$Ring;I)I"⟩, prog_12_method_7_code, 7, (some .int))
abbrev mt_Tr_firstChoice : ab_M := (⟨"TurnRing$Trader", "firstChoice", "(III)I"⟩, prog_12_method_8_code, 5, (some .int))
abbrev mt_Tu_spare : ab_M := (⟨"TurnRing", "spare", "(III)I"⟩, prog_1_method_29_code, 4, (some .int))
abbrev mt_Ri_mostWornBehind : ab_M := (⟨"TurnRing$Ring", "mostWornBehind", "(I)I"⟩, prog_7_method_30_code, 5, (some .int))
abbrev mt_Tu_apart : ab_M := (⟨"TurnRing", "apart", "(IIIII)I"⟩, prog_1_method_30_code, 6, (some .int))
abbrev mt_Tu_isSort : ab_M := (⟨"TurnRing", "isSort", "(I)Z"⟩, prog_1_method_41_code, 1, (some .boolean))
abbrev mt_Tu_hoursSeen : ab_M := (⟨"TurnRing", "hoursSeen", "(LTurnRing$Rule;III)I"⟩, prog_1_method_31_code, 7, (some .int))
abbrev mt_Tu_diary : ab_M := (⟨"TurnRing", "diary", "(IIIZ)I"⟩, prog_1_method_32_code, 5, (some .int))
abbrev mt_Di_write : ab_M := (⟨"TurnRing$Diary", "write", "(IIIZ)V"⟩, prog_3_method_3_code, 5, none)
abbrev mt_Tu_turned : ab_M := (⟨"TurnRing", "turned", "(I)I"⟩, prog_1_method_33_code, 2, (some .int))
abbrev mt_Gu_findTurns : ab_M := (⟨"TurnRing$Guesser", "findTurns", "(LTurnRing$Ring;)V"⟩, prog_4_method_2_code, 4, none)
abbrev mt_Gu_fitsDiary : ab_M := (⟨"TurnRing$Guesser", "fitsDiary", "(LTurnRing$Ring;II)Z"⟩, prog_4_method_4_code, 6, (some .boolean))
abbrev mt_Gu_sortsSeen : ab_M := (⟨"TurnRing$Guesser", "sortsSeen", "(LTurnRing$Ring;IIII)I"⟩, prog_4_method_3_code, 6, (some .int))
abbrev mt_Tu_look : ab_M := (⟨"TurnRing", "look", "(II)I"⟩, prog_1_method_34_code, 3, (some .int))
abbrev mt_Gu_findLook : ab_M := (⟨"TurnRing$Guesser", "findLook", "(LTurnRing$Ring;I)V"⟩, prog_4_method_5_code, 7, none)
abbrev mt_Tu_days : ab_M := (⟨"TurnRing", "days", "(IIII)I"⟩, prog_1_method_35_code, 12, (some .int))
abbrev mt_Tu_nextDraw : ab_M := (⟨"TurnRing", "nextDraw", "(I)I"⟩, prog_1_method_36_code, 1, (some .int))
abbrev mt_Mo_init : ab_M := (⟨"TurnRingModel", "<init>", "()V"⟩, prog_14_method_1_code, 1, none)
abbrev mt_Mo_feed : ab_M := (⟨"TurnRingModel", "feed", "(IIIII)I"⟩, prog_14_method_6_code, 6, (some .int))
abbrev mt_Mo_four : ab_M := (⟨"TurnRingModel", "four", "(I)V"⟩, prog_14_method_5_code, 3, none)
abbrev mt_Mo_end : ab_M := (⟨"TurnRingModel", "end", "(I)I"⟩, prog_14_method_7_code, 2, (some .int))
abbrev mt_Mo_rule : ab_M := (⟨"TurnRingModel", "rule", "()I"⟩, prog_14_method_42_code, 1, (some .int))
abbrev mt_Mo_readsAll : ab_M := (⟨"TurnRingModel", "readsAll", "()Z"⟩, prog_14_method_41_code, 2, (some .boolean))
abbrev mt_Mo_clauseHere : ab_M := (⟨"TurnRingModel", "clauseHere", "()Z"⟩, prog_14_method_40_code, 3, (some .boolean))
abbrev mt_Mo_see : ab_M := (⟨"TurnRingModel", "see", "()I"⟩, prog_14_method_9_code, 1, (some .int))
abbrev mt_Mo_isRingWord : ab_M := (⟨"TurnRingModel", "isRingWord", "()Z"⟩, prog_14_method_39_code, 2, (some .boolean))
abbrev mt_Mo_isWord : ab_M := (⟨"TurnRingModel", "isWord", "(J)Z"⟩, prog_14_method_12_code, 6, (some .boolean))
abbrev mt_Mo_isLetter : ab_M := (⟨"TurnRingModel", "isLetter", "(I)Z"⟩, prog_14_method_11_code, 2, (some .boolean))
abbrev mt_Mo_fails : ab_M := (⟨"TurnRingModel", "fails", "(II)Z"⟩, prog_14_method_8_code, 3, (some .boolean))
abbrev mt_Mo_ringLineHere : ab_M := (⟨"TurnRingModel", "ringLineHere", "(I)Z"⟩, prog_14_method_38_code, 2, (some .boolean))
abbrev mt_Mo_isRingHere : ab_M := (⟨"TurnRingModel", "isRingHere", "(I)Z"⟩, prog_14_method_32_code, 2, (some .boolean))
abbrev mt_Mo_passWord : ab_M := (⟨"TurnRingModel", "passWord", "()V"⟩, prog_14_method_13_code, 1, none)
abbrev mt_Mo_cellHere : ab_M := (⟨"TurnRingModel", "cellHere", "(III)Z"⟩, prog_14_method_31_code, 4, (some .boolean))
abbrev mt_Mo_numberHere : ab_M := (⟨"TurnRingModel", "numberHere", "(II)Z"⟩, prog_14_method_15_code, 5, (some .boolean))
abbrev mt_Mo_isDigit : ab_M := (⟨"TurnRingModel", "isDigit", "(I)Z"⟩, prog_14_method_10_code, 2, (some .boolean))
abbrev mt_Mo_in : ab_M := (⟨"TurnRingModel", "in", "(JJJ)Z"⟩, prog_14_method_2_code, 6, (some .boolean))
abbrev mt_Mo_isHouseHere : ab_M := (⟨"TurnRingModel", "isHouseHere", "(I)Z"⟩, prog_14_method_33_code, 5, (some .boolean))
abbrev mt_Mo_isSightHere : ab_M := (⟨"TurnRingModel", "isSightHere", "(I)Z"⟩, prog_14_method_34_code, 3, (some .boolean))
abbrev mt_Mo_isLikeHere : ab_M := (⟨"TurnRingModel", "isLikeHere", "(I)Z"⟩, prog_14_method_35_code, 3, (some .boolean))
abbrev mt_Mo_isGateHere : ab_M := (⟨"TurnRingModel", "isGateHere", "()Z"⟩, prog_14_method_36_code, 1, (some .boolean))
abbrev mt_Mo_isRateHere : ab_M := (⟨"TurnRingModel", "isRateHere", "()Z"⟩, prog_14_method_37_code, 4, (some .boolean))
abbrev mt_Mo_isTurnHere : ab_M := (⟨"TurnRingModel", "isTurnHere", "()Z"⟩, prog_14_method_30_code, 2, (some .boolean))
abbrev mt_Mo_sum : ab_M := (⟨"TurnRingModel", "sum", "()Z"⟩, prog_14_method_24_code, 2, (some .boolean))
abbrev mt_Mo_term : ab_M := (⟨"TurnRingModel", "term", "()Z"⟩, prog_14_method_23_code, 2, (some .boolean))
abbrev mt_Mo_value : ab_M := (⟨"TurnRingModel", "value", "()Z"⟩, prog_14_method_22_code, 3, (some .boolean))
abbrev mt_Mo_makes : ab_M := (⟨"TurnRingModel", "makes", "(I)Z"⟩, prog_14_method_18_code, 2, (some .boolean))
abbrev mt_Mo_puts : ab_M := (⟨"TurnRingModel", "puts", "(II)V"⟩, prog_14_method_17_code, 3, none)
abbrev mt_Mo_wordHere : ab_M := (⟨"TurnRingModel", "wordHere", "()I"⟩, prog_14_method_16_code, 1, (some .int))
abbrev mt_Mo_takesWord : ab_M := (⟨"TurnRingModel", "takesWord", "(J)Z"⟩, prog_14_method_14_code, 3, (some .boolean))
abbrev mt_Mo_tested : ab_M := (⟨"TurnRingModel", "tested", "()Z"⟩, prog_14_method_29_code, 3, (some .boolean))
abbrev mt_Mo_fact : ab_M := (⟨"TurnRingModel", "fact", "()Z"⟩, prog_14_method_26_code, 3, (some .boolean))
abbrev mt_Mo_opens : ab_M := (⟨"TurnRingModel", "opens", "(I)Z"⟩, prog_14_method_19_code, 2, (some .boolean))
abbrev mt_Mo_compare : ab_M := (⟨"TurnRingModel", "compare", "()Z"⟩, prog_14_method_25_code, 5, (some .boolean))
abbrev mt_Mo_closes : ab_M := (⟨"TurnRingModel", "closes", "()V"⟩, prog_14_method_28_code, 1, none)
abbrev mt_Mo_settles : ab_M := (⟨"TurnRingModel", "settles", "(I)V"⟩, prog_14_method_21_code, 2, none)
abbrev mt_Mo_strength : ab_M := (⟨"TurnRingModel", "strength", "(I)I"⟩, prog_14_method_20_code, 1, (some .int))
abbrev mt_Mo_isInside : ab_M := (⟨"TurnRingModel", "isInside", "()Z"⟩, prog_14_method_27_code, 2, (some .boolean))
abbrev mt_Mo_ring : ab_M := (⟨"TurnRingModel", "ring", "()I"⟩, prog_14_method_43_code, 2, (some .int))
abbrev mt_Mo_house : ab_M := (⟨"TurnRingModel", "house", "(II)I"⟩, prog_14_method_62_code, 3, (some .int))
abbrev mt_Mo_isHouse : ab_M := (⟨"TurnRingModel", "isHouse", "(I)Z"⟩, prog_14_method_50_code, 2, (some .boolean))
abbrev mt_Mo_facesOf : ab_M := (⟨"TurnRingModel", "facesOf", "(I)I"⟩, prog_14_method_53_code, 2, (some .int))
abbrev mt_Mo_round : ab_M := (⟨"TurnRingModel", "round", "(I)I"⟩, prog_14_method_4_code, 2, (some .int))
abbrev mt_Mo_sortsAt : ab_M := (⟨"TurnRingModel", "sortsAt", "(II)I"⟩, prog_14_method_51_code, 6, (some .int))
abbrev mt_Mo_likesOf : ab_M := (⟨"TurnRingModel", "likesOf", "(I)I"⟩, prog_14_method_54_code, 2, (some .int))
abbrev mt_Mo_likesAt : ab_M := (⟨"TurnRingModel", "likesAt", "(III)I"⟩, prog_14_method_52_code, 7, (some .int))
abbrev mt_Mo_isOf : ab_M := (⟨"TurnRingModel", "isOf", "(II)Z"⟩, prog_14_method_3_code, 2, (some .boolean))
abbrev mt_Mo_wantsStay : ab_M := (⟨"TurnRingModel", "wantsStay", "(I)Z"⟩, prog_14_method_56_code, 2, (some .boolean))
abbrev mt_Mo_rateNow : ab_M := (⟨"TurnRingModel", "rateNow", "()I"⟩, prog_14_method_55_code, 1, (some .int))
abbrev mt_Mo_direction : ab_M := (⟨"TurnRingModel", "direction", "(II)I"⟩, prog_14_method_63_code, 4, (some .int))
abbrev mt_Mo_isRing : ab_M := (⟨"TurnRingModel", "isRing", "()Z"⟩, prog_14_method_49_code, 1, (some .boolean))
abbrev mt_Mo_rateOf : ab_M := (⟨"TurnRingModel", "rateOf", "(I)I"⟩, prog_14_method_64_code, 2, (some .int))
abbrev mt_Mo_worn : ab_M := (⟨"TurnRingModel", "worn", "(I)I"⟩, prog_14_method_65_code, 2, (some .int))
abbrev mt_Mo_undo : ab_M := (⟨"TurnRingModel", "undo", "()I"⟩, prog_14_method_71_code, 2, (some .int))
abbrev mt_Mo_hour : ab_M := (⟨"TurnRingModel", "hour", "()I"⟩, prog_14_method_73_code, 1, (some .int))
abbrev mt_Mo_canGo : ab_M := (⟨"TurnRingModel", "canGo", "(I)Z"⟩, prog_14_method_72_code, 2, (some .boolean))
abbrev mt_Mo_keepsAct : ab_M := (⟨"TurnRingModel", "keepsAct", "()V"⟩, prog_14_method_70_code, 2, none)
abbrev mt_Mo_passes : ab_M := (⟨"TurnRingModel", "passes", "()I"⟩, prog_14_method_69_code, 1, (some .int))
abbrev mt_Mo_passesAt : ab_M := (⟨"TurnRingModel", "passesAt", "(I)I"⟩, prog_14_method_68_code, 3, (some .int))
abbrev mt_Mo_turns : ab_M := (⟨"TurnRingModel", "turns", "(I)V"⟩, prog_14_method_66_code, 4, none)
abbrev mt_Mo_goesOn : ab_M := (⟨"TurnRingModel", "goesOn", "()V"⟩, prog_14_method_67_code, 1, none)
abbrev mt_Mo_rate : ab_M := (⟨"TurnRingModel", "rate", "(II)I"⟩, prog_14_method_74_code, 4, (some .int))
abbrev mt_Mo_swap : ab_M := (⟨"TurnRingModel", "swap", "(II)Z"⟩, prog_14_method_75_code, 4, (some .boolean))
abbrev mt_Mo_stop : ab_M := (⟨"TurnRingModel", "stop", "()Z"⟩, prog_14_method_76_code, 1, (some .boolean))
abbrev mt_Mo_run : ab_M := (⟨"TurnRingModel", "run", "(II)I"⟩, prog_14_method_80_code, 4, (some .int))
abbrev mt_Mo_isRule : ab_M := (⟨"TurnRingModel", "isRule", "(I)Z"⟩, prog_14_method_44_code, 2, (some .boolean))
abbrev mt_Mo_passesBy : ab_M := (⟨"TurnRingModel", "passesBy", "(I)V"⟩, prog_14_method_79_code, 4, none)
abbrev mt_Mo_words : ab_M := (⟨"TurnRingModel", "words", "()V"⟩, prog_14_method_77_code, 5, none)
abbrev mt_Mo_allLike : ab_M := (⟨"TurnRingModel", "allLike", "()I"⟩, prog_14_method_57_code, 3, (some .int))
abbrev mt_Mo_whoStay : ab_M := (⟨"TurnRingModel", "whoStay", "()I"⟩, prog_14_method_60_code, 3, (some .int))
abbrev mt_Mo_votesOf : ab_M := (⟨"TurnRingModel", "votesOf", "(I)I"⟩, prog_14_method_58_code, 4, (some .int))
abbrev mt_Mo_everyHouse : ab_M := (⟨"TurnRingModel", "everyHouse", "()I"⟩, prog_14_method_59_code, 1, (some .int))
abbrev mt_Mo_atGates : ab_M := (⟨"TurnRingModel", "atGates", "()I"⟩, prog_14_method_61_code, 3, (some .int))
abbrev mt_Mo_summedBy : ab_M := (⟨"TurnRingModel", "summedBy", "(I)J"⟩, prog_14_method_78_code, 4, (some .long))
abbrev mt_Mo_reckons : ab_M := (⟨"TurnRingModel", "reckons", "(III)J"⟩, prog_14_method_48_code, 11, (some .long))
abbrev mt_Mo_push : ab_M := (⟨"TurnRingModel", "push", "(J)V"⟩, prog_14_method_45_code, 3, none)
abbrev mt_Mo_pop : ab_M := (⟨"TurnRingModel", "pop", "()J"⟩, prog_14_method_46_code, 1, (some .long))
abbrev mt_Mo_one : ab_M := (⟨"TurnRingModel", "one", "(IJJ)J"⟩, prog_14_method_47_code, 5, (some .long))
abbrev mt_Mo_faces : ab_M := (⟨"TurnRingModel", "faces", "(II)I"⟩, prog_14_method_83_code, 4, (some .int))
abbrev mt_Mo_keeps : ab_M := (⟨"TurnRingModel", "keeps", "()V"⟩, prog_14_method_81_code, 2, none)
abbrev mt_Mo_laysBack : ab_M := (⟨"TurnRingModel", "laysBack", "()V"⟩, prog_14_method_82_code, 2, none)
abbrev mt_Mo_sees : ab_M := (⟨"TurnRingModel", "sees", "(II)I"⟩, prog_14_method_84_code, 4, (some .int))
abbrev mt_Mo_day : ab_M := (⟨"TurnRingModel", "day", "(I)I"⟩, prog_14_method_86_code, 2, (some .int))
abbrev mt_Mo_dayIn : ab_M := (⟨"TurnRingModel", "dayIn", "(II)I"⟩, prog_14_method_85_code, 5, (some .int))
abbrev mt_Mo_plan : ab_M := (⟨"TurnRingModel", "plan", "(IZI)I"⟩, prog_14_method_90_code, 8, (some .int))
abbrev mt_Mo_third : ab_M := (⟨"TurnRingModel", "third", "(I)I"⟩, prog_14_method_87_code, 3, (some .int))
abbrev mt_Mo_worthOf : ab_M := (⟨"TurnRingModel", "worthOf", "(IIZ)I"⟩, prog_14_method_89_code, 7, (some .int))
abbrev mt_Mo_digitOf : ab_M := (⟨"TurnRingModel", "digitOf", "(III)I"⟩, prog_14_method_88_code, 3, (some .int))
abbrev mt_Mo_errand : ab_M := (⟨"TurnRingModel", "errand", "(IIII)I"⟩, prog_14_method_93_code, 7, (some .int))
abbrev mt_Mo_backFrom : ab_M := (⟨"TurnRingModel", "backFrom", "(III)I"⟩, prog_14_method_92_code, 5, (some .int))
abbrev mt_Mo_way : ab_M := (⟨"TurnRingModel", "way", "(II)I"⟩, prog_14_method_91_code, 3, (some .int))
abbrev mt_Mo_stay : ab_M := (⟨"TurnRingModel", "stay", "(I)I"⟩, prog_14_method_94_code, 3, (some .int))
abbrev mt_Mo_swings : ab_M := (⟨"TurnRingModel", "swings", "(I)I"⟩, prog_14_method_95_code, 5, (some .int))
abbrev mt_Mo_trade : ab_M := (⟨"TurnRingModel", "trade", "(I)I"⟩, prog_14_method_100_code, 2, (some .int))
abbrev mt_Mo_fillsDays : ab_M := (⟨"TurnRingModel", "fillsDays", "()V"⟩, prog_14_method_96_code, 4, none)
abbrev mt_Mo_gathersTrades : ab_M := (⟨"TurnRingModel", "gathersTrades", "()V"⟩, prog_14_method_99_code, 4, none)
abbrev mt_Mo_countsRow : ab_M := (⟨"TurnRingModel", "countsRow", "()V"⟩, prog_14_method_97_code, 3, none)
abbrev mt_Mo_dayNow : ab_M := (⟨"TurnRingModel", "dayNow", "(I)I"⟩, prog_14_method_98_code, 3, (some .int))
abbrev mt_Mo_spare : ab_M := (⟨"TurnRingModel", "spare", "(III)I"⟩, prog_14_method_103_code, 8, (some .int))
abbrev mt_Mo_stepsOf : ab_M := (⟨"TurnRingModel", "stepsOf", "(II)I"⟩, prog_14_method_102_code, 4, (some .int))
abbrev mt_Mo_mostWorn : ab_M := (⟨"TurnRingModel", "mostWorn", "(II)I"⟩, prog_14_method_101_code, 5, (some .int))
abbrev mt_Mo_apart : ab_M := (⟨"TurnRingModel", "apart", "(IIIII)I"⟩, prog_14_method_105_code, 6, (some .int))
abbrev mt_Mo_seenBy : ab_M := (⟨"TurnRingModel", "seenBy", "(IIII)I"⟩, prog_14_method_104_code, 7, (some .int))
abbrev mt_Mo_diary : ab_M := (⟨"TurnRingModel", "diary", "(IIIZ)I"⟩, prog_14_method_106_code, 6, (some .int))
abbrev mt_Mo_turned : ab_M := (⟨"TurnRingModel", "turned", "(I)I"⟩, prog_14_method_109_code, 5, (some .int))
abbrev mt_Mo_fitsDiary : ab_M := (⟨"TurnRingModel", "fitsDiary", "(I)Z"⟩, prog_14_method_108_code, 4, (some .boolean))
abbrev mt_Mo_sawBy : ab_M := (⟨"TurnRingModel", "sawBy", "(IIII)Z"⟩, prog_14_method_107_code, 6, (some .boolean))
abbrev mt_Mo_look : ab_M := (⟨"TurnRingModel", "look", "(II)I"⟩, prog_14_method_110_code, 9, (some .int))
abbrev mt_Mo_seed : ab_M := (⟨"TurnRingModel", "seed", "(I)I"⟩, prog_14_method_111_code, 3, (some .int))
abbrev mt_Mo_days : ab_M := (⟨"TurnRingModel", "days", "(IIII)I"⟩, prog_14_method_113_code, 9, (some .int))
abbrev mt_Mo_draw : ab_M := (⟨"TurnRingModel", "draw", "(I)I"⟩, prog_14_method_112_code, 2, (some .int))
abbrev mt_Mo_count : ab_M := (⟨"TurnRingModel", "count", "(I)I"⟩, prog_14_method_114_code, 2, (some .int))
abbrev mt_Mo_image : ab_M := (⟨"TurnRingModel", "image", "(I)I"⟩, prog_14_method_115_code, 3, (some .int))
abbrev mt_Mo_back : ab_M := (⟨"TurnRingModel", "back", "(I)I"⟩, prog_14_method_116_code, 3, (some .int))
theorem lk_Ta_9 : ab_lk g_G "TurnRing$Tape" 9 (tf_Ta 0) := Or.inl (g_memT (g_t1 37 rfl) rfl)
theorem fl_Ta_9 : ab_fl g_G "TurnRing$Tape" 9 8 0 := ⟨"TurnRing$Tape", tf_Ta, 9, rfl, by decide, uw_Ta, lk_Ta_9⟩
theorem fp_Ta_9 : ab_fp g_G "TurnRing$Tape" "<init>" 9 8 0 (ty_Ta 0) := ⟨"TurnRing$Tape", tf_Ta, 9, ty_Ta, rfl, by decide, uw_Ta, tk_Ta, nm_Ta, rfl, Or.inr ⟨g_memT (g_t1 37 rfl) rfl, rfl, rfl, rfl⟩⟩
theorem lk_Tu_82 : ab_lk g_G "TurnRing" 82 (tf_Ta 1) := Or.inl (g_memT (g_t1 38 rfl) rfl)
theorem fl_Tu_82 : ab_fl g_G "TurnRing" 82 8 1 := ⟨"TurnRing$Tape", tf_Ta, 9, rfl, by decide, uw_Ta, lk_Tu_82⟩
theorem fp_Tu_82 (nm : String) : ab_fp g_G "TurnRing" nm 82 8 1 (ty_Ta 1) := ⟨"TurnRing$Tape", tf_Ta, 9, ty_Ta, rfl, by decide, uw_Ta, tk_Ta, nm_Ta, rfl, Or.inl ⟨lk_Tu_82, rfl⟩⟩
theorem lk_Ta_21 : ab_lk g_G "TurnRing$Tape" 21 (tf_Ta 1) := Or.inl (g_memT (g_t1 39 rfl) rfl)
theorem fl_Ta_21 : ab_fl g_G "TurnRing$Tape" 21 8 1 := ⟨"TurnRing$Tape", tf_Ta, 9, rfl, by decide, uw_Ta, lk_Ta_21⟩
theorem fp_Ta_21 (nm : String) : ab_fp g_G "TurnRing$Tape" nm 21 8 1 (ty_Ta 1) := ⟨"TurnRing$Tape", tf_Ta, 9, ty_Ta, rfl, by decide, uw_Ta, tk_Ta, nm_Ta, rfl, Or.inl ⟨lk_Ta_21, rfl⟩⟩
theorem lk_Ta_25 : ab_lk g_G "TurnRing$Tape" 25 (tf_Ta 2) := Or.inl (g_memT (g_t1 40 rfl) rfl)
theorem fl_Ta_25 : ab_fl g_G "TurnRing$Tape" 25 8 2 := ⟨"TurnRing$Tape", tf_Ta, 9, rfl, by decide, uw_Ta, lk_Ta_25⟩
theorem fp_Ta_25 (nm : String) : ab_fp g_G "TurnRing$Tape" nm 25 8 2 (ty_Ta 2) := ⟨"TurnRing$Tape", tf_Ta, 9, ty_Ta, rfl, by decide, uw_Ta, tk_Ta, nm_Ta, rfl, Or.inl ⟨lk_Ta_25, rfl⟩⟩
theorem lk_Ta_17 : ab_lk g_G "TurnRing$Tape" 17 (tf_Ta 3) := Or.inl (g_memT (g_t1 41 rfl) rfl)
theorem fl_Ta_17 : ab_fl g_G "TurnRing$Tape" 17 8 3 := ⟨"TurnRing$Tape", tf_Ta, 9, rfl, by decide, uw_Ta, lk_Ta_17⟩
theorem fp_Ta_17 (nm : String) : ab_fp g_G "TurnRing$Tape" nm 17 8 3 (ty_Ta 3) := ⟨"TurnRing$Tape", tf_Ta, 9, ty_Ta, rfl, by decide, uw_Ta, tk_Ta, nm_Ta, rfl, Or.inl ⟨lk_Ta_17, rfl⟩⟩
theorem lk_Rr_46 : ab_lk g_G "TurnRing$RingReader" 46 (tf_Ta 4) := Or.inl (g_memT (g_t1 42 rfl) rfl)
theorem fl_Rr_46 : ab_fl g_G "TurnRing$RingReader" 46 8 4 := ⟨"TurnRing$Tape", tf_Ta, 9, rfl, by decide, uw_Ta, lk_Rr_46⟩
theorem fp_Rr_46 (nm : String) : ab_fp g_G "TurnRing$RingReader" nm 46 8 4 (ty_Ta 4) := ⟨"TurnRing$Tape", tf_Ta, 9, ty_Ta, rfl, by decide, uw_Ta, tk_Ta, nm_Ta, rfl, Or.inl ⟨lk_Rr_46, rfl⟩⟩
theorem lk_Ru_56 : ab_lk g_G "TurnRing$RuleReader" 56 (tf_Ta 4) := Or.inl (g_memT (g_t1 43 rfl) rfl)
theorem fl_Ru_56 : ab_fl g_G "TurnRing$RuleReader" 56 8 4 := ⟨"TurnRing$Tape", tf_Ta, 9, rfl, by decide, uw_Ta, lk_Ru_56⟩
theorem fp_Ru_56 (nm : String) : ab_fp g_G "TurnRing$RuleReader" nm 56 8 4 (ty_Ta 4) := ⟨"TurnRing$Tape", tf_Ta, 9, ty_Ta, rfl, by decide, uw_Ta, tk_Ta, nm_Ta, rfl, Or.inl ⟨lk_Ru_56, rfl⟩⟩
theorem lk_Ta_28 : ab_lk g_G "TurnRing$Tape" 28 (tf_Ta 4) := Or.inl (g_memT (g_t1 44 rfl) rfl)
theorem fl_Ta_28 : ab_fl g_G "TurnRing$Tape" 28 8 4 := ⟨"TurnRing$Tape", tf_Ta, 9, rfl, by decide, uw_Ta, lk_Ta_28⟩
theorem fp_Ta_28 (nm : String) : ab_fp g_G "TurnRing$Tape" nm 28 8 4 (ty_Ta 4) := ⟨"TurnRing$Tape", tf_Ta, 9, ty_Ta, rfl, by decide, uw_Ta, tk_Ta, nm_Ta, rfl, Or.inl ⟨lk_Ta_28, rfl⟩⟩
theorem lk_Ta_34 : ab_lk g_G "TurnRing$Tape" 34 (tf_Ta 5) := Or.inl (g_memT (g_t1 45 rfl) rfl)
theorem fl_Ta_34 : ab_fl g_G "TurnRing$Tape" 34 8 5 := ⟨"TurnRing$Tape", tf_Ta, 9, rfl, by decide, uw_Ta, lk_Ta_34⟩
theorem fp_Ta_34 (nm : String) : ab_fp g_G "TurnRing$Tape" nm 34 8 5 (ty_Ta 5) := ⟨"TurnRing$Tape", tf_Ta, 9, ty_Ta, rfl, by decide, uw_Ta, tk_Ta, nm_Ta, rfl, Or.inl ⟨lk_Ta_34, rfl⟩⟩
theorem lk_Rr_43 : ab_lk g_G "TurnRing$RingReader" 43 (tf_Ta 6) := Or.inl (g_memT (g_t1 46 rfl) rfl)
theorem fl_Rr_43 : ab_fl g_G "TurnRing$RingReader" 43 8 6 := ⟨"TurnRing$Tape", tf_Ta, 9, rfl, by decide, uw_Ta, lk_Rr_43⟩
theorem fp_Rr_43 (nm : String) : ab_fp g_G "TurnRing$RingReader" nm 43 8 6 (ty_Ta 6) := ⟨"TurnRing$Tape", tf_Ta, 9, ty_Ta, rfl, by decide, uw_Ta, tk_Ta, nm_Ta, rfl, Or.inl ⟨lk_Rr_43, rfl⟩⟩
theorem lk_Ru_53 : ab_lk g_G "TurnRing$RuleReader" 53 (tf_Ta 6) := Or.inl (g_memT (g_t1 47 rfl) rfl)
theorem fl_Ru_53 : ab_fl g_G "TurnRing$RuleReader" 53 8 6 := ⟨"TurnRing$Tape", tf_Ta, 9, rfl, by decide, uw_Ta, lk_Ru_53⟩
theorem fp_Ru_53 (nm : String) : ab_fp g_G "TurnRing$RuleReader" nm 53 8 6 (ty_Ta 6) := ⟨"TurnRing$Tape", tf_Ta, 9, ty_Ta, rfl, by decide, uw_Ta, tk_Ta, nm_Ta, rfl, Or.inl ⟨lk_Ru_53, rfl⟩⟩
theorem lk_Ta_37 : ab_lk g_G "TurnRing$Tape" 37 (tf_Ta 6) := Or.inl (g_memT (g_t1 48 rfl) rfl)
theorem fl_Ta_37 : ab_fl g_G "TurnRing$Tape" 37 8 6 := ⟨"TurnRing$Tape", tf_Ta, 9, rfl, by decide, uw_Ta, lk_Ta_37⟩
theorem fp_Ta_37 (nm : String) : ab_fp g_G "TurnRing$Tape" nm 37 8 6 (ty_Ta 6) := ⟨"TurnRing$Tape", tf_Ta, 9, ty_Ta, rfl, by decide, uw_Ta, tk_Ta, nm_Ta, rfl, Or.inl ⟨lk_Ta_37, rfl⟩⟩
theorem lk_Ta_40 : ab_lk g_G "TurnRing$Tape" 40 (tf_Ta 7) := Or.inl (g_memT (g_t1 49 rfl) rfl)
theorem fl_Ta_40 : ab_fl g_G "TurnRing$Tape" 40 8 7 := ⟨"TurnRing$Tape", tf_Ta, 9, rfl, by decide, uw_Ta, lk_Ta_40⟩
theorem fp_Ta_40 (nm : String) : ab_fp g_G "TurnRing$Tape" nm 40 8 7 (ty_Ta 7) := ⟨"TurnRing$Tape", tf_Ta, 9, ty_Ta, rfl, by decide, uw_Ta, tk_Ta, nm_Ta, rfl, Or.inl ⟨lk_Ta_40, rfl⟩⟩
theorem lk_Rr_87 : ab_lk g_G "TurnRing$RingReader" 87 (tf_Ta 7) := Or.inl (g_memT (g_t1 50 rfl) rfl)
theorem fl_Rr_87 : ab_fl g_G "TurnRing$RingReader" 87 8 7 := ⟨"TurnRing$Tape", tf_Ta, 9, rfl, by decide, uw_Ta, lk_Rr_87⟩
theorem fp_Rr_87 (nm : String) : ab_fp g_G "TurnRing$RingReader" nm 87 8 7 (ty_Ta 7) := ⟨"TurnRing$Tape", tf_Ta, 9, ty_Ta, rfl, by decide, uw_Ta, tk_Ta, nm_Ta, rfl, Or.inl ⟨lk_Rr_87, rfl⟩⟩
theorem lk_Ru_78 : ab_lk g_G "TurnRing$RuleReader" 78 (tf_Ta 7) := Or.inl (g_memT (g_t1 51 rfl) rfl)
theorem fl_Ru_78 : ab_fl g_G "TurnRing$RuleReader" 78 8 7 := ⟨"TurnRing$Tape", tf_Ta, 9, rfl, by decide, uw_Ta, lk_Ru_78⟩
theorem fp_Ru_78 (nm : String) : ab_fp g_G "TurnRing$RuleReader" nm 78 8 7 (ty_Ta 7) := ⟨"TurnRing$Tape", tf_Ta, 9, ty_Ta, rfl, by decide, uw_Ta, tk_Ta, nm_Ta, rfl, Or.inl ⟨lk_Ru_78, rfl⟩⟩
theorem lk_Rr_24 : ab_lk g_G "TurnRing$RingReader" 24 (tf_Ta 8) := Or.inl (g_memT (g_t1 52 rfl) rfl)
theorem fl_Rr_24 : ab_fl g_G "TurnRing$RingReader" 24 8 8 := ⟨"TurnRing$Tape", tf_Ta, 9, rfl, by decide, uw_Ta, lk_Rr_24⟩
theorem fp_Rr_24 (nm : String) : ab_fp g_G "TurnRing$RingReader" nm 24 8 8 (ty_Ta 8) := ⟨"TurnRing$Tape", tf_Ta, 9, ty_Ta, rfl, by decide, uw_Ta, tk_Ta, nm_Ta, rfl, Or.inl ⟨lk_Rr_24, rfl⟩⟩
theorem lk_Ru_30 : ab_lk g_G "TurnRing$RuleReader" 30 (tf_Ta 8) := Or.inl (g_memT (g_t1 53 rfl) rfl)
theorem fl_Ru_30 : ab_fl g_G "TurnRing$RuleReader" 30 8 8 := ⟨"TurnRing$Tape", tf_Ta, 9, rfl, by decide, uw_Ta, lk_Ru_30⟩
theorem fp_Ru_30 (nm : String) : ab_fp g_G "TurnRing$RuleReader" nm 30 8 8 (ty_Ta 8) := ⟨"TurnRing$Tape", tf_Ta, 9, ty_Ta, rfl, by decide, uw_Ta, tk_Ta, nm_Ta, rfl, Or.inl ⟨lk_Ru_30, rfl⟩⟩
theorem lk_Ta_43 : ab_lk g_G "TurnRing$Tape" 43 (tf_Ta 8) := Or.inl (g_memT (g_t1 54 rfl) rfl)
theorem fl_Ta_43 : ab_fl g_G "TurnRing$Tape" 43 8 8 := ⟨"TurnRing$Tape", tf_Ta, 9, rfl, by decide, uw_Ta, lk_Ta_43⟩
theorem fp_Ta_43 (nm : String) : ab_fp g_G "TurnRing$Tape" nm 43 8 8 (ty_Ta 8) := ⟨"TurnRing$Tape", tf_Ta, 9, ty_Ta, rfl, by decide, uw_Ta, tk_Ta, nm_Ta, rfl, Or.inl ⟨lk_Ta_43, rfl⟩⟩
theorem lk_Di_24 : ab_lk g_G "TurnRing$Diary" 24 (tf_Di 0) := Or.inl (g_memT (g_t1 87 rfl) rfl)
theorem fl_Di_24 : ab_fl g_G "TurnRing$Diary" 24 1 0 := ⟨"TurnRing$Diary", tf_Di, 5, rfl, by decide, uw_Di, lk_Di_24⟩
theorem fp_Di_24 (nm : String) : ab_fp g_G "TurnRing$Diary" nm 24 1 0 (ty_Di 0) := ⟨"TurnRing$Diary", tf_Di, 5, ty_Di, rfl, by decide, uw_Di, tk_Di, nm_Di, rfl, Or.inl ⟨lk_Di_24, rfl⟩⟩
theorem lk_Ri_82 : ab_lk g_G "TurnRing$Ring" 82 (tf_Di 0) := Or.inl (g_memT (g_t1 88 rfl) rfl)
theorem fl_Ri_82 : ab_fl g_G "TurnRing$Ring" 82 1 0 := ⟨"TurnRing$Diary", tf_Di, 5, rfl, by decide, uw_Di, lk_Ri_82⟩
theorem fp_Ri_82 (nm : String) : ab_fp g_G "TurnRing$Ring" nm 82 1 0 (ty_Di 0) := ⟨"TurnRing$Diary", tf_Di, 5, ty_Di, rfl, by decide, uw_Di, tk_Di, nm_Di, rfl, Or.inl ⟨lk_Ri_82, rfl⟩⟩
theorem lk_Gu_49 : ab_lk g_G "TurnRing$Guesser" 49 (tf_Di 0) := Or.inl (g_memT (g_t1 89 rfl) rfl)
theorem fl_Gu_49 : ab_fl g_G "TurnRing$Guesser" 49 1 0 := ⟨"TurnRing$Diary", tf_Di, 5, rfl, by decide, uw_Di, lk_Gu_49⟩
theorem fp_Gu_49 (nm : String) : ab_fp g_G "TurnRing$Guesser" nm 49 1 0 (ty_Di 0) := ⟨"TurnRing$Diary", tf_Di, 5, ty_Di, rfl, by decide, uw_Di, tk_Di, nm_Di, rfl, Or.inl ⟨lk_Gu_49, rfl⟩⟩
theorem lk_Tu_196 : ab_lk g_G "TurnRing" 196 (tf_Di 0) := Or.inl (g_memT (g_t1 90 rfl) rfl)
theorem fl_Tu_196 : ab_fl g_G "TurnRing" 196 1 0 := ⟨"TurnRing$Diary", tf_Di, 5, rfl, by decide, uw_Di, lk_Tu_196⟩
theorem fp_Tu_196 (nm : String) : ab_fp g_G "TurnRing" nm 196 1 0 (ty_Di 0) := ⟨"TurnRing$Diary", tf_Di, 5, ty_Di, rfl, by decide, uw_Di, tk_Di, nm_Di, rfl, Or.inl ⟨lk_Tu_196, rfl⟩⟩
theorem lk_Di_9 : ab_lk g_G "TurnRing$Diary" 9 (tf_Di 1) := Or.inl (g_memT (g_t1 91 rfl) rfl)
theorem fl_Di_9 : ab_fl g_G "TurnRing$Diary" 9 1 1 := ⟨"TurnRing$Diary", tf_Di, 5, rfl, by decide, uw_Di, lk_Di_9⟩
theorem fp_Di_9 : ab_fp g_G "TurnRing$Diary" "<init>" 9 1 1 (ty_Di 1) := ⟨"TurnRing$Diary", tf_Di, 5, ty_Di, rfl, by decide, uw_Di, tk_Di, nm_Di, rfl, Or.inr ⟨g_memT (g_t1 91 rfl) rfl, rfl, rfl, rfl⟩⟩
theorem lk_Gu_54 : ab_lk g_G "TurnRing$Guesser" 54 (tf_Di 1) := Or.inl (g_memT (g_t1 92 rfl) rfl)
theorem fl_Gu_54 : ab_fl g_G "TurnRing$Guesser" 54 1 1 := ⟨"TurnRing$Diary", tf_Di, 5, rfl, by decide, uw_Di, lk_Gu_54⟩
theorem lk_Di_15 : ab_lk g_G "TurnRing$Diary" 15 (tf_Di 2) := Or.inl (g_memT (g_t1 93 rfl) rfl)
theorem fl_Di_15 : ab_fl g_G "TurnRing$Diary" 15 1 2 := ⟨"TurnRing$Diary", tf_Di, 5, rfl, by decide, uw_Di, lk_Di_15⟩
theorem fp_Di_15 : ab_fp g_G "TurnRing$Diary" "<init>" 15 1 2 (ty_Di 2) := ⟨"TurnRing$Diary", tf_Di, 5, ty_Di, rfl, by decide, uw_Di, tk_Di, nm_Di, rfl, Or.inr ⟨g_memT (g_t1 93 rfl) rfl, rfl, rfl, rfl⟩⟩
theorem lk_Gu_57 : ab_lk g_G "TurnRing$Guesser" 57 (tf_Di 2) := Or.inl (g_memT (g_t1 94 rfl) rfl)
theorem fl_Gu_57 : ab_fl g_G "TurnRing$Guesser" 57 1 2 := ⟨"TurnRing$Diary", tf_Di, 5, rfl, by decide, uw_Di, lk_Gu_57⟩
theorem lk_Di_18 : ab_lk g_G "TurnRing$Diary" 18 (tf_Di 3) := Or.inl (g_memT (g_t1 95 rfl) rfl)
theorem fl_Di_18 : ab_fl g_G "TurnRing$Diary" 18 1 3 := ⟨"TurnRing$Diary", tf_Di, 5, rfl, by decide, uw_Di, lk_Di_18⟩
theorem fp_Di_18 : ab_fp g_G "TurnRing$Diary" "<init>" 18 1 3 (ty_Di 3) := ⟨"TurnRing$Diary", tf_Di, 5, ty_Di, rfl, by decide, uw_Di, tk_Di, nm_Di, rfl, Or.inr ⟨g_memT (g_t1 95 rfl) rfl, rfl, rfl, rfl⟩⟩
theorem lk_Gu_64 : ab_lk g_G "TurnRing$Guesser" 64 (tf_Di 3) := Or.inl (g_memT (g_t1 96 rfl) rfl)
theorem fl_Gu_64 : ab_fl g_G "TurnRing$Guesser" 64 1 3 := ⟨"TurnRing$Diary", tf_Di, 5, rfl, by decide, uw_Di, lk_Gu_64⟩
theorem lk_Di_21 : ab_lk g_G "TurnRing$Diary" 21 (tf_Di 4) := Or.inl (g_memT (g_t1 97 rfl) rfl)
theorem fl_Di_21 : ab_fl g_G "TurnRing$Diary" 21 1 4 := ⟨"TurnRing$Diary", tf_Di, 5, rfl, by decide, uw_Di, lk_Di_21⟩
theorem fp_Di_21 : ab_fp g_G "TurnRing$Diary" "<init>" 21 1 4 (ty_Di 4) := ⟨"TurnRing$Diary", tf_Di, 5, ty_Di, rfl, by decide, uw_Di, tk_Di, nm_Di, rfl, Or.inr ⟨g_memT (g_t1 97 rfl) rfl, rfl, rfl, rfl⟩⟩
theorem lk_Gu_67 : ab_lk g_G "TurnRing$Guesser" 67 (tf_Di 4) := Or.inl (g_memT (g_t1 98 rfl) rfl)
theorem fl_Gu_67 : ab_fl g_G "TurnRing$Guesser" 67 1 4 := ⟨"TurnRing$Diary", tf_Di, 5, rfl, by decide, uw_Di, lk_Gu_67⟩
theorem lk_Ri_41 : ab_lk g_G "TurnRing$Ring" 41 (tf_Ri 0) := Or.inl (g_memT (g_t1 112 rfl) rfl)
theorem fl_Ri_41 : ab_fl g_G "TurnRing$Ring" 41 5 0 := ⟨"TurnRing$Ring", tf_Ri, 18, rfl, by decide, uw_Ri, lk_Ri_41⟩
theorem fp_Ri_41 (nm : String) : ab_fp g_G "TurnRing$Ring" nm 41 5 0 (ty_Ri 0) := ⟨"TurnRing$Ring", tf_Ri, 18, ty_Ri, rfl, by decide, uw_Ri, tk_Ri, nm_Ri, rfl, Or.inl ⟨lk_Ri_41, rfl⟩⟩
theorem lk_Rr_49 : ab_lk g_G "TurnRing$RingReader" 49 (tf_Ri 0) := Or.inl (g_memT (g_t1 113 rfl) rfl)
theorem fl_Rr_49 : ab_fl g_G "TurnRing$RingReader" 49 5 0 := ⟨"TurnRing$Ring", tf_Ri, 18, rfl, by decide, uw_Ri, lk_Rr_49⟩
theorem fp_Rr_49 (nm : String) : ab_fp g_G "TurnRing$RingReader" nm 49 5 0 (ty_Ri 0) := ⟨"TurnRing$Ring", tf_Ri, 18, ty_Ri, rfl, by decide, uw_Ri, tk_Ri, nm_Ri, rfl, Or.inl ⟨lk_Rr_49, rfl⟩⟩
theorem lk_Tu_152 : ab_lk g_G "TurnRing" 152 (tf_Ri 0) := Or.inl (g_memT (g_t1 114 rfl) rfl)
theorem fl_Tu_152 : ab_fl g_G "TurnRing" 152 5 0 := ⟨"TurnRing$Ring", tf_Ri, 18, rfl, by decide, uw_Ri, lk_Tu_152⟩
theorem fp_Tu_152 (nm : String) : ab_fp g_G "TurnRing" nm 152 5 0 (ty_Ri 0) := ⟨"TurnRing$Ring", tf_Ri, 18, ty_Ri, rfl, by decide, uw_Ri, tk_Ri, nm_Ri, rfl, Or.inl ⟨lk_Tu_152, rfl⟩⟩
theorem lk_Ri_45 : ab_lk g_G "TurnRing$Ring" 45 (tf_Ri 1) := Or.inl (g_memT (g_t1 115 rfl) rfl)
theorem fl_Ri_45 : ab_fl g_G "TurnRing$Ring" 45 5 1 := ⟨"TurnRing$Ring", tf_Ri, 18, rfl, by decide, uw_Ri, lk_Ri_45⟩
theorem fp_Ri_45 (nm : String) : ab_fp g_G "TurnRing$Ring" nm 45 5 1 (ty_Ri 1) := ⟨"TurnRing$Ring", tf_Ri, 18, ty_Ri, rfl, by decide, uw_Ri, tk_Ri, nm_Ri, rfl, Or.inl ⟨lk_Ri_45, rfl⟩⟩
theorem lk_Pl_30 : ab_lk g_G "TurnRing$Planner" 30 (tf_Ri 1) := Or.inl (g_memT (g_t1 116 rfl) rfl)
theorem fl_Pl_30 : ab_fl g_G "TurnRing$Planner" 30 5 1 := ⟨"TurnRing$Ring", tf_Ri, 18, rfl, by decide, uw_Ri, lk_Pl_30⟩
theorem fp_Pl_30 (nm : String) : ab_fp g_G "TurnRing$Planner" nm 30 5 1 (ty_Ri 1) := ⟨"TurnRing$Ring", tf_Ri, 18, ty_Ri, rfl, by decide, uw_Ri, tk_Ri, nm_Ri, rfl, Or.inl ⟨lk_Pl_30, rfl⟩⟩
theorem lk_Rr_68 : ab_lk g_G "TurnRing$RingReader" 68 (tf_Ri 1) := Or.inl (g_memT (g_t1 117 rfl) rfl)
theorem fl_Rr_68 : ab_fl g_G "TurnRing$RingReader" 68 5 1 := ⟨"TurnRing$Ring", tf_Ri, 18, rfl, by decide, uw_Ri, lk_Rr_68⟩
theorem fp_Rr_68 (nm : String) : ab_fp g_G "TurnRing$RingReader" nm 68 5 1 (ty_Ri 1) := ⟨"TurnRing$Ring", tf_Ri, 18, ty_Ri, rfl, by decide, uw_Ri, tk_Ri, nm_Ri, rfl, Or.inl ⟨lk_Rr_68, rfl⟩⟩
theorem lk_Ma_70 : ab_lk g_G "TurnRing$Machine" 70 (tf_Ri 1) := Or.inl (g_memT (g_t1 118 rfl) rfl)
theorem fl_Ma_70 : ab_fl g_G "TurnRing$Machine" 70 5 1 := ⟨"TurnRing$Ring", tf_Ri, 18, rfl, by decide, uw_Ri, lk_Ma_70⟩
theorem fp_Ma_70 (nm : String) : ab_fp g_G "TurnRing$Machine" nm 70 5 1 (ty_Ri 1) := ⟨"TurnRing$Ring", tf_Ri, 18, ty_Ri, rfl, by decide, uw_Ri, tk_Ri, nm_Ri, rfl, Or.inl ⟨lk_Ma_70, rfl⟩⟩
theorem lk_Tu_177 : ab_lk g_G "TurnRing" 177 (tf_Ri 1) := Or.inl (g_memT (g_t1 119 rfl) rfl)
theorem fl_Tu_177 : ab_fl g_G "TurnRing" 177 5 1 := ⟨"TurnRing$Ring", tf_Ri, 18, rfl, by decide, uw_Ri, lk_Tu_177⟩
theorem fp_Tu_177 (nm : String) : ab_fp g_G "TurnRing" nm 177 5 1 (ty_Ri 1) := ⟨"TurnRing$Ring", tf_Ri, 18, ty_Ri, rfl, by decide, uw_Ri, tk_Ri, nm_Ri, rfl, Or.inl ⟨lk_Tu_177, rfl⟩⟩
theorem lk_Ri_49 : ab_lk g_G "TurnRing$Ring" 49 (tf_Ri 2) := Or.inl (g_memT (g_t1 120 rfl) rfl)
theorem fl_Ri_49 : ab_fl g_G "TurnRing$Ring" 49 5 2 := ⟨"TurnRing$Ring", tf_Ri, 18, rfl, by decide, uw_Ri, lk_Ri_49⟩
theorem fp_Ri_49 (nm : String) : ab_fp g_G "TurnRing$Ring" nm 49 5 2 (ty_Ri 2) := ⟨"TurnRing$Ring", tf_Ri, 18, ty_Ri, rfl, by decide, uw_Ri, tk_Ri, nm_Ri, rfl, Or.inl ⟨lk_Ri_49, rfl⟩⟩
theorem lk_Tu_136 : ab_lk g_G "TurnRing" 136 (tf_Ri 2) := Or.inl (g_memT (g_t1 121 rfl) rfl)
theorem fl_Tu_136 : ab_fl g_G "TurnRing" 136 5 2 := ⟨"TurnRing$Ring", tf_Ri, 18, rfl, by decide, uw_Ri, lk_Tu_136⟩
theorem fp_Tu_136 (nm : String) : ab_fp g_G "TurnRing" nm 136 5 2 (ty_Ri 2) := ⟨"TurnRing$Ring", tf_Ri, 18, ty_Ri, rfl, by decide, uw_Ri, tk_Ri, nm_Ri, rfl, Or.inl ⟨lk_Tu_136, rfl⟩⟩
theorem lk_Ma_62 : ab_lk g_G "TurnRing$Machine" 62 (tf_Ri 2) := Or.inl (g_memT (g_t1 122 rfl) rfl)
theorem fl_Ma_62 : ab_fl g_G "TurnRing$Machine" 62 5 2 := ⟨"TurnRing$Ring", tf_Ri, 18, rfl, by decide, uw_Ri, lk_Ma_62⟩
theorem fp_Ma_62 (nm : String) : ab_fp g_G "TurnRing$Machine" nm 62 5 2 (ty_Ri 2) := ⟨"TurnRing$Ring", tf_Ri, 18, ty_Ri, rfl, by decide, uw_Ri, tk_Ri, nm_Ri, rfl, Or.inl ⟨lk_Ma_62, rfl⟩⟩
theorem lk_Ri_52 : ab_lk g_G "TurnRing$Ring" 52 (tf_Ri 3) := Or.inl (g_memT (g_t1 123 rfl) rfl)
theorem fl_Ri_52 : ab_fl g_G "TurnRing$Ring" 52 5 3 := ⟨"TurnRing$Ring", tf_Ri, 18, rfl, by decide, uw_Ri, lk_Ri_52⟩
theorem fp_Ri_52 (nm : String) : ab_fp g_G "TurnRing$Ring" nm 52 5 3 (ty_Ri 3) := ⟨"TurnRing$Ring", tf_Ri, 18, ty_Ri, rfl, by decide, uw_Ri, tk_Ri, nm_Ri, rfl, Or.inl ⟨lk_Ri_52, rfl⟩⟩
theorem lk_Ma_67 : ab_lk g_G "TurnRing$Machine" 67 (tf_Ri 3) := Or.inl (g_memT (g_t1 124 rfl) rfl)
theorem fl_Ma_67 : ab_fl g_G "TurnRing$Machine" 67 5 3 := ⟨"TurnRing$Ring", tf_Ri, 18, rfl, by decide, uw_Ri, lk_Ma_67⟩
theorem fp_Ma_67 (nm : String) : ab_fp g_G "TurnRing$Machine" nm 67 5 3 (ty_Ri 3) := ⟨"TurnRing$Ring", tf_Ri, 18, ty_Ri, rfl, by decide, uw_Ri, tk_Ri, nm_Ri, rfl, Or.inl ⟨lk_Ma_67, rfl⟩⟩
theorem lk_Tu_180 : ab_lk g_G "TurnRing" 180 (tf_Ri 3) := Or.inl (g_memT (g_t1 125 rfl) rfl)
theorem fl_Tu_180 : ab_fl g_G "TurnRing" 180 5 3 := ⟨"TurnRing$Ring", tf_Ri, 18, rfl, by decide, uw_Ri, lk_Tu_180⟩
theorem fp_Tu_180 (nm : String) : ab_fp g_G "TurnRing" nm 180 5 3 (ty_Ri 3) := ⟨"TurnRing$Ring", tf_Ri, 18, ty_Ri, rfl, by decide, uw_Ri, tk_Ri, nm_Ri, rfl, Or.inl ⟨lk_Tu_180, rfl⟩⟩
theorem lk_Ri_55 : ab_lk g_G "TurnRing$Ring" 55 (tf_Ri 4) := Or.inl (g_memT (g_t1 126 rfl) rfl)
theorem fl_Ri_55 : ab_fl g_G "TurnRing$Ring" 55 5 4 := ⟨"TurnRing$Ring", tf_Ri, 18, rfl, by decide, uw_Ri, lk_Ri_55⟩
theorem fp_Ri_55 (nm : String) : ab_fp g_G "TurnRing$Ring" nm 55 5 4 (ty_Ri 4) := ⟨"TurnRing$Ring", tf_Ri, 18, ty_Ri, rfl, by decide, uw_Ri, tk_Ri, nm_Ri, rfl, Or.inl ⟨lk_Ri_55, rfl⟩⟩
theorem lk_Ac_45 : ab_lk g_G "TurnRing$ActLog" 45 (tf_Ri 4) := Or.inl (g_memT (g_t1 127 rfl) rfl)
theorem fl_Ac_45 : ab_fl g_G "TurnRing$ActLog" 45 5 4 := ⟨"TurnRing$Ring", tf_Ri, 18, rfl, by decide, uw_Ri, lk_Ac_45⟩
theorem fp_Ac_45 (nm : String) : ab_fp g_G "TurnRing$ActLog" nm 45 5 4 (ty_Ri 4) := ⟨"TurnRing$Ring", tf_Ri, 18, ty_Ri, rfl, by decide, uw_Ri, tk_Ri, nm_Ri, rfl, Or.inl ⟨lk_Ac_45, rfl⟩⟩
theorem lk_Tu_186 : ab_lk g_G "TurnRing" 186 (tf_Ri 4) := Or.inl (g_memT (g_t1 128 rfl) rfl)
theorem fl_Tu_186 : ab_fl g_G "TurnRing" 186 5 4 := ⟨"TurnRing$Ring", tf_Ri, 18, rfl, by decide, uw_Ri, lk_Tu_186⟩
theorem fp_Tu_186 (nm : String) : ab_fp g_G "TurnRing" nm 186 5 4 (ty_Ri 4) := ⟨"TurnRing$Ring", tf_Ri, 18, ty_Ri, rfl, by decide, uw_Ri, tk_Ri, nm_Ri, rfl, Or.inl ⟨lk_Tu_186, rfl⟩⟩
theorem lk_Ri_58 : ab_lk g_G "TurnRing$Ring" 58 (tf_Ri 5) := Or.inl (g_memT (g_t1 129 rfl) rfl)
theorem fl_Ri_58 : ab_fl g_G "TurnRing$Ring" 58 5 5 := ⟨"TurnRing$Ring", tf_Ri, 18, rfl, by decide, uw_Ri, lk_Ri_58⟩
theorem fp_Ri_58 (nm : String) : ab_fp g_G "TurnRing$Ring" nm 58 5 5 (ty_Ri 5) := ⟨"TurnRing$Ring", tf_Ri, 18, ty_Ri, rfl, by decide, uw_Ri, tk_Ri, nm_Ri, rfl, Or.inl ⟨lk_Ri_58, rfl⟩⟩
theorem lk_Ac_49 : ab_lk g_G "TurnRing$ActLog" 49 (tf_Ri 5) := Or.inl (g_memT (g_t1 130 rfl) rfl)
theorem fl_Ac_49 : ab_fl g_G "TurnRing$ActLog" 49 5 5 := ⟨"TurnRing$Ring", tf_Ri, 18, rfl, by decide, uw_Ri, lk_Ac_49⟩
theorem fp_Ac_49 (nm : String) : ab_fp g_G "TurnRing$ActLog" nm 49 5 5 (ty_Ri 5) := ⟨"TurnRing$Ring", tf_Ri, 18, ty_Ri, rfl, by decide, uw_Ri, tk_Ri, nm_Ri, rfl, Or.inl ⟨lk_Ac_49, rfl⟩⟩
theorem lk_Ma_99 : ab_lk g_G "TurnRing$Machine" 99 (tf_Ri 5) := Or.inl (g_memT (g_t1 131 rfl) rfl)
theorem fl_Ma_99 : ab_fl g_G "TurnRing$Machine" 99 5 5 := ⟨"TurnRing$Ring", tf_Ri, 18, rfl, by decide, uw_Ri, lk_Ma_99⟩
theorem fp_Ma_99 (nm : String) : ab_fp g_G "TurnRing$Machine" nm 99 5 5 (ty_Ri 5) := ⟨"TurnRing$Ring", tf_Ri, 18, ty_Ri, rfl, by decide, uw_Ri, tk_Ri, nm_Ri, rfl, Or.inl ⟨lk_Ma_99, rfl⟩⟩
theorem lk_Tu_189 : ab_lk g_G "TurnRing" 189 (tf_Ri 5) := Or.inl (g_memT (g_t1 132 rfl) rfl)
theorem fl_Tu_189 : ab_fl g_G "TurnRing" 189 5 5 := ⟨"TurnRing$Ring", tf_Ri, 18, rfl, by decide, uw_Ri, lk_Tu_189⟩
theorem fp_Tu_189 (nm : String) : ab_fp g_G "TurnRing" nm 189 5 5 (ty_Ri 5) := ⟨"TurnRing$Ring", tf_Ri, 18, ty_Ri, rfl, by decide, uw_Ri, tk_Ri, nm_Ri, rfl, Or.inl ⟨lk_Tu_189, rfl⟩⟩
theorem lk_Ri_61 : ab_lk g_G "TurnRing$Ring" 61 (tf_Ri 6) := Or.inl (g_memT (g_t1 133 rfl) rfl)
theorem fl_Ri_61 : ab_fl g_G "TurnRing$Ring" 61 5 6 := ⟨"TurnRing$Ring", tf_Ri, 18, rfl, by decide, uw_Ri, lk_Ri_61⟩
theorem fp_Ri_61 (nm : String) : ab_fp g_G "TurnRing$Ring" nm 61 5 6 (ty_Ri 6) := ⟨"TurnRing$Ring", tf_Ri, 18, ty_Ri, rfl, by decide, uw_Ri, tk_Ri, nm_Ri, rfl, Or.inl ⟨lk_Ri_61, rfl⟩⟩
theorem lk_Tu_96 : ab_lk g_G "TurnRing" 96 (tf_Ri 6) := Or.inl (g_memT (g_t1 134 rfl) rfl)
theorem fl_Tu_96 : ab_fl g_G "TurnRing" 96 5 6 := ⟨"TurnRing$Ring", tf_Ri, 18, rfl, by decide, uw_Ri, lk_Tu_96⟩
theorem fp_Tu_96 (nm : String) : ab_fp g_G "TurnRing" nm 96 5 6 (ty_Ri 6) := ⟨"TurnRing$Ring", tf_Ri, 18, ty_Ri, rfl, by decide, uw_Ri, tk_Ri, nm_Ri, rfl, Or.inl ⟨lk_Tu_96, rfl⟩⟩
theorem lk_Tr_31 : ab_lk g_G "TurnRing$Trader" 31 (tf_Ri 7) := Or.inl (g_memT (g_t1 135 rfl) rfl)
theorem fl_Tr_31 : ab_fl g_G "TurnRing$Trader" 31 5 7 := ⟨"TurnRing$Ring", tf_Ri, 18, rfl, by decide, uw_Ri, lk_Tr_31⟩
theorem fp_Tr_31 (nm : String) : ab_fp g_G "TurnRing$Trader" nm 31 5 7 (ty_Ri 7) := ⟨"TurnRing$Ring", tf_Ri, 18, ty_Ri, rfl, by decide, uw_Ri, tk_Ri, nm_Ri, rfl, Or.inl ⟨lk_Tr_31, rfl⟩⟩
theorem lk_Ri_64 : ab_lk g_G "TurnRing$Ring" 64 (tf_Ri 7) := Or.inl (g_memT (g_t1 136 rfl) rfl)
theorem fl_Ri_64 : ab_fl g_G "TurnRing$Ring" 64 5 7 := ⟨"TurnRing$Ring", tf_Ri, 18, rfl, by decide, uw_Ri, lk_Ri_64⟩
theorem fp_Ri_64 (nm : String) : ab_fp g_G "TurnRing$Ring" nm 64 5 7 (ty_Ri 7) := ⟨"TurnRing$Ring", tf_Ri, 18, ty_Ri, rfl, by decide, uw_Ri, tk_Ri, nm_Ri, rfl, Or.inl ⟨lk_Ri_64, rfl⟩⟩
theorem lk_Rr_53 : ab_lk g_G "TurnRing$RingReader" 53 (tf_Ri 7) := Or.inl (g_memT (g_t1 137 rfl) rfl)
theorem fl_Rr_53 : ab_fl g_G "TurnRing$RingReader" 53 5 7 := ⟨"TurnRing$Ring", tf_Ri, 18, rfl, by decide, uw_Ri, lk_Rr_53⟩
theorem fp_Rr_53 (nm : String) : ab_fp g_G "TurnRing$RingReader" nm 53 5 7 (ty_Ri 7) := ⟨"TurnRing$Ring", tf_Ri, 18, ty_Ri, rfl, by decide, uw_Ri, tk_Ri, nm_Ri, rfl, Or.inl ⟨lk_Rr_53, rfl⟩⟩
theorem lk_Pl_63 : ab_lk g_G "TurnRing$Planner" 63 (tf_Ri 7) := Or.inl (g_memT (g_t1 138 rfl) rfl)
theorem fl_Pl_63 : ab_fl g_G "TurnRing$Planner" 63 5 7 := ⟨"TurnRing$Ring", tf_Ri, 18, rfl, by decide, uw_Ri, lk_Pl_63⟩
theorem fp_Pl_63 (nm : String) : ab_fp g_G "TurnRing$Planner" nm 63 5 7 (ty_Ri 7) := ⟨"TurnRing$Ring", tf_Ri, 18, ty_Ri, rfl, by decide, uw_Ri, tk_Ri, nm_Ri, rfl, Or.inl ⟨lk_Pl_63, rfl⟩⟩
theorem lk_Tu_102 : ab_lk g_G "TurnRing" 102 (tf_Ri 7) := Or.inl (g_memT (g_t1 139 rfl) rfl)
theorem fl_Tu_102 : ab_fl g_G "TurnRing" 102 5 7 := ⟨"TurnRing$Ring", tf_Ri, 18, rfl, by decide, uw_Ri, lk_Tu_102⟩
theorem fp_Tu_102 (nm : String) : ab_fp g_G "TurnRing" nm 102 5 7 (ty_Ri 7) := ⟨"TurnRing$Ring", tf_Ri, 18, ty_Ri, rfl, by decide, uw_Ri, tk_Ri, nm_Ri, rfl, Or.inl ⟨lk_Tu_102, rfl⟩⟩
theorem lk_Gu_76 : ab_lk g_G "TurnRing$Guesser" 76 (tf_Ri 7) := Or.inl (g_memT (g_t1 140 rfl) rfl)
theorem fl_Gu_76 : ab_fl g_G "TurnRing$Guesser" 76 5 7 := ⟨"TurnRing$Ring", tf_Ri, 18, rfl, by decide, uw_Ri, lk_Gu_76⟩
theorem fp_Gu_76 (nm : String) : ab_fp g_G "TurnRing$Guesser" nm 76 5 7 (ty_Ri 7) := ⟨"TurnRing$Ring", tf_Ri, 18, ty_Ri, rfl, by decide, uw_Ri, tk_Ri, nm_Ri, rfl, Or.inl ⟨lk_Gu_76, rfl⟩⟩
theorem lk_Ri_67 : ab_lk g_G "TurnRing$Ring" 67 (tf_Ri 8) := Or.inl (g_memT (g_t1 141 rfl) rfl)
theorem fl_Ri_67 : ab_fl g_G "TurnRing$Ring" 67 5 8 := ⟨"TurnRing$Ring", tf_Ri, 18, rfl, by decide, uw_Ri, lk_Ri_67⟩
theorem fp_Ri_67 (nm : String) : ab_fp g_G "TurnRing$Ring" nm 67 5 8 (ty_Ri 8) := ⟨"TurnRing$Ring", tf_Ri, 18, ty_Ri, rfl, by decide, uw_Ri, tk_Ri, nm_Ri, rfl, Or.inl ⟨lk_Ri_67, rfl⟩⟩
theorem lk_Rr_56 : ab_lk g_G "TurnRing$RingReader" 56 (tf_Ri 8) := Or.inl (g_memT (g_t1 142 rfl) rfl)
theorem fl_Rr_56 : ab_fl g_G "TurnRing$RingReader" 56 5 8 := ⟨"TurnRing$Ring", tf_Ri, 18, rfl, by decide, uw_Ri, lk_Rr_56⟩
theorem fp_Rr_56 (nm : String) : ab_fp g_G "TurnRing$RingReader" nm 56 5 8 (ty_Ri 8) := ⟨"TurnRing$Ring", tf_Ri, 18, ty_Ri, rfl, by decide, uw_Ri, tk_Ri, nm_Ri, rfl, Or.inl ⟨lk_Rr_56, rfl⟩⟩
theorem lk_Tu_171 : ab_lk g_G "TurnRing" 171 (tf_Ri 8) := Or.inl (g_memT (g_t1 143 rfl) rfl)
theorem fl_Tu_171 : ab_fl g_G "TurnRing" 171 5 8 := ⟨"TurnRing$Ring", tf_Ri, 18, rfl, by decide, uw_Ri, lk_Tu_171⟩
theorem fp_Tu_171 (nm : String) : ab_fp g_G "TurnRing" nm 171 5 8 (ty_Ri 8) := ⟨"TurnRing$Ring", tf_Ri, 18, ty_Ri, rfl, by decide, uw_Ri, tk_Ri, nm_Ri, rfl, Or.inl ⟨lk_Tu_171, rfl⟩⟩
theorem lk_Ri_70 : ab_lk g_G "TurnRing$Ring" 70 (tf_Ri 9) := Or.inl (g_memT (g_t1 144 rfl) rfl)
theorem fl_Ri_70 : ab_fl g_G "TurnRing$Ring" 70 5 9 := ⟨"TurnRing$Ring", tf_Ri, 18, rfl, by decide, uw_Ri, lk_Ri_70⟩
theorem fp_Ri_70 (nm : String) : ab_fp g_G "TurnRing$Ring" nm 70 5 9 (ty_Ri 9) := ⟨"TurnRing$Ring", tf_Ri, 18, ty_Ri, rfl, by decide, uw_Ri, tk_Ri, nm_Ri, rfl, Or.inl ⟨lk_Ri_70, rfl⟩⟩
theorem lk_Rr_106 : ab_lk g_G "TurnRing$RingReader" 106 (tf_Ri 9) := Or.inl (g_memT (g_t1 145 rfl) rfl)
theorem fl_Rr_106 : ab_fl g_G "TurnRing$RingReader" 106 5 9 := ⟨"TurnRing$Ring", tf_Ri, 18, rfl, by decide, uw_Ri, lk_Rr_106⟩
theorem fp_Rr_106 (nm : String) : ab_fp g_G "TurnRing$RingReader" nm 106 5 9 (ty_Ri 9) := ⟨"TurnRing$Ring", tf_Ri, 18, ty_Ri, rfl, by decide, uw_Ri, tk_Ri, nm_Ri, rfl, Or.inl ⟨lk_Rr_106, rfl⟩⟩
theorem lk_Tu_174 : ab_lk g_G "TurnRing" 174 (tf_Ri 9) := Or.inl (g_memT (g_t1 146 rfl) rfl)
theorem fl_Tu_174 : ab_fl g_G "TurnRing" 174 5 9 := ⟨"TurnRing$Ring", tf_Ri, 18, rfl, by decide, uw_Ri, lk_Tu_174⟩
theorem fp_Tu_174 (nm : String) : ab_fp g_G "TurnRing" nm 174 5 9 (ty_Ri 9) := ⟨"TurnRing$Ring", tf_Ri, 18, ty_Ri, rfl, by decide, uw_Ri, tk_Ri, nm_Ri, rfl, Or.inl ⟨lk_Tu_174, rfl⟩⟩
theorem lk_Ri_9 : ab_lk g_G "TurnRing$Ring" 9 (tf_Ri 10) := Or.inl (g_memT (g_t1 147 rfl) rfl)
theorem fl_Ri_9 : ab_fl g_G "TurnRing$Ring" 9 5 10 := ⟨"TurnRing$Ring", tf_Ri, 18, rfl, by decide, uw_Ri, lk_Ri_9⟩
theorem fp_Ri_9 : ab_fp g_G "TurnRing$Ring" "<init>" 9 5 10 (ty_Ri 10) := ⟨"TurnRing$Ring", tf_Ri, 18, ty_Ri, rfl, by decide, uw_Ri, tk_Ri, nm_Ri, rfl, Or.inr ⟨g_memT (g_t1 147 rfl) rfl, rfl, rfl, rfl⟩⟩
theorem lk_Tr_41 : ab_lk g_G "TurnRing$Trader" 41 (tf_Ri 10) := Or.inl (g_memT (g_t1 148 rfl) rfl)
theorem fl_Tr_41 : ab_fl g_G "TurnRing$Trader" 41 5 10 := ⟨"TurnRing$Ring", tf_Ri, 18, rfl, by decide, uw_Ri, lk_Tr_41⟩
theorem lk_Pl_66 : ab_lk g_G "TurnRing$Planner" 66 (tf_Ri 10) := Or.inl (g_memT (g_t1 149 rfl) rfl)
theorem fl_Pl_66 : ab_fl g_G "TurnRing$Planner" 66 5 10 := ⟨"TurnRing$Ring", tf_Ri, 18, rfl, by decide, uw_Ri, lk_Pl_66⟩
theorem lk_Tu_126 : ab_lk g_G "TurnRing" 126 (tf_Ri 10) := Or.inl (g_memT (g_t1 150 rfl) rfl)
theorem fl_Tu_126 : ab_fl g_G "TurnRing" 126 5 10 := ⟨"TurnRing$Ring", tf_Ri, 18, rfl, by decide, uw_Ri, lk_Tu_126⟩
theorem lk_Ri_15 : ab_lk g_G "TurnRing$Ring" 15 (tf_Ri 11) := Or.inl (g_memT (g_t1 151 rfl) rfl)
theorem fl_Ri_15 : ab_fl g_G "TurnRing$Ring" 15 5 11 := ⟨"TurnRing$Ring", tf_Ri, 18, rfl, by decide, uw_Ri, lk_Ri_15⟩
theorem fp_Ri_15 : ab_fp g_G "TurnRing$Ring" "<init>" 15 5 11 (ty_Ri 11) := ⟨"TurnRing$Ring", tf_Ri, 18, ty_Ri, rfl, by decide, uw_Ri, tk_Ri, nm_Ri, rfl, Or.inr ⟨g_memT (g_t1 151 rfl) rfl, rfl, rfl, rfl⟩⟩
theorem lk_Gu_29 : ab_lk g_G "TurnRing$Guesser" 29 (tf_Ri 11) := Or.inl (g_memT (g_t1 152 rfl) rfl)
theorem fl_Gu_29 : ab_fl g_G "TurnRing$Guesser" 29 5 11 := ⟨"TurnRing$Ring", tf_Ri, 18, rfl, by decide, uw_Ri, lk_Gu_29⟩
theorem lk_Ri_18 : ab_lk g_G "TurnRing$Ring" 18 (tf_Ri 12) := Or.inl (g_memT (g_t1 153 rfl) rfl)
theorem fl_Ri_18 : ab_fl g_G "TurnRing$Ring" 18 5 12 := ⟨"TurnRing$Ring", tf_Ri, 18, rfl, by decide, uw_Ri, lk_Ri_18⟩
theorem fp_Ri_18 : ab_fp g_G "TurnRing$Ring" "<init>" 18 5 12 (ty_Ri 12) := ⟨"TurnRing$Ring", tf_Ri, 18, ty_Ri, rfl, by decide, uw_Ri, tk_Ri, nm_Ri, rfl, Or.inr ⟨g_memT (g_t1 153 rfl) rfl, rfl, rfl, rfl⟩⟩
theorem lk_Tu_129 : ab_lk g_G "TurnRing" 129 (tf_Ri 12) := Or.inl (g_memT (g_t1 154 rfl) rfl)
theorem fl_Tu_129 : ab_fl g_G "TurnRing" 129 5 12 := ⟨"TurnRing$Ring", tf_Ri, 18, rfl, by decide, uw_Ri, lk_Tu_129⟩
theorem lk_Ri_21 : ab_lk g_G "TurnRing$Ring" 21 (tf_Ri 13) := Or.inl (g_memT (g_t1 155 rfl) rfl)
theorem fl_Ri_21 : ab_fl g_G "TurnRing$Ring" 21 5 13 := ⟨"TurnRing$Ring", tf_Ri, 18, rfl, by decide, uw_Ri, lk_Ri_21⟩
theorem fp_Ri_21 : ab_fp g_G "TurnRing$Ring" "<init>" 21 5 13 (ty_Ri 13) := ⟨"TurnRing$Ring", tf_Ri, 18, ty_Ri, rfl, by decide, uw_Ri, tk_Ri, nm_Ri, rfl, Or.inr ⟨g_memT (g_t1 155 rfl) rfl, rfl, rfl, rfl⟩⟩
theorem lk_Tu_122 : ab_lk g_G "TurnRing" 122 (tf_Ri 13) := Or.inl (g_memT (g_t1 156 rfl) rfl)
theorem fl_Tu_122 : ab_fl g_G "TurnRing" 122 5 13 := ⟨"TurnRing$Ring", tf_Ri, 18, rfl, by decide, uw_Ri, lk_Tu_122⟩
theorem lk_Rr_102 : ab_lk g_G "TurnRing$RingReader" 102 (tf_Ri 13) := Or.inl (g_memT (g_t1 157 rfl) rfl)
theorem fl_Rr_102 : ab_fl g_G "TurnRing$RingReader" 102 5 13 := ⟨"TurnRing$Ring", tf_Ri, 18, rfl, by decide, uw_Ri, lk_Rr_102⟩
theorem lk_Ri_24 : ab_lk g_G "TurnRing$Ring" 24 (tf_Ri 14) := Or.inl (g_memT (g_t1 158 rfl) rfl)
theorem fl_Ri_24 : ab_fl g_G "TurnRing$Ring" 24 5 14 := ⟨"TurnRing$Ring", tf_Ri, 18, rfl, by decide, uw_Ri, lk_Ri_24⟩
theorem fp_Ri_24 : ab_fp g_G "TurnRing$Ring" "<init>" 24 5 14 (ty_Ri 14) := ⟨"TurnRing$Ring", tf_Ri, 18, ty_Ri, rfl, by decide, uw_Ri, tk_Ri, nm_Ri, rfl, Or.inr ⟨g_memT (g_t1 158 rfl) rfl, rfl, rfl, rfl⟩⟩
theorem lk_Ri_28 : ab_lk g_G "TurnRing$Ring" 28 (tf_Ri 15) := Or.inl (g_memT (g_t1 159 rfl) rfl)
theorem fl_Ri_28 : ab_fl g_G "TurnRing$Ring" 28 5 15 := ⟨"TurnRing$Ring", tf_Ri, 18, rfl, by decide, uw_Ri, lk_Ri_28⟩
theorem fp_Ri_28 : ab_fp g_G "TurnRing$Ring" "<init>" 28 5 15 (ty_Ri 15) := ⟨"TurnRing$Ring", tf_Ri, 18, ty_Ri, rfl, by decide, uw_Ri, tk_Ri, nm_Ri, rfl, Or.inr ⟨g_memT (g_t1 159 rfl) rfl, rfl, rfl, rfl⟩⟩
theorem lk_Ac_38 : ab_lk g_G "TurnRing$ActLog" 38 (tf_Ri 15) := Or.inl (g_memT (g_t1 160 rfl) rfl)
theorem fl_Ac_38 : ab_fl g_G "TurnRing$ActLog" 38 5 15 := ⟨"TurnRing$Ring", tf_Ri, 18, rfl, by decide, uw_Ri, lk_Ac_38⟩
theorem lk_Tu_165 : ab_lk g_G "TurnRing" 165 (tf_Ri 15) := Or.inl (g_memT (g_t1 161 rfl) rfl)
theorem fl_Tu_165 : ab_fl g_G "TurnRing" 165 5 15 := ⟨"TurnRing$Ring", tf_Ri, 18, rfl, by decide, uw_Ri, lk_Tu_165⟩
theorem lk_Ma_73 : ab_lk g_G "TurnRing$Machine" 73 (tf_Ri 15) := Or.inl (g_memT (g_t1 162 rfl) rfl)
theorem fl_Ma_73 : ab_fl g_G "TurnRing$Machine" 73 5 15 := ⟨"TurnRing$Ring", tf_Ri, 18, rfl, by decide, uw_Ri, lk_Ma_73⟩
theorem lk_Ri_31 : ab_lk g_G "TurnRing$Ring" 31 (tf_Ri 16) := Or.inl (g_memT (g_t1 163 rfl) rfl)
theorem fl_Ri_31 : ab_fl g_G "TurnRing$Ring" 31 5 16 := ⟨"TurnRing$Ring", tf_Ri, 18, rfl, by decide, uw_Ri, lk_Ri_31⟩
theorem fp_Ri_31 : ab_fp g_G "TurnRing$Ring" "<init>" 31 5 16 (ty_Ri 16) := ⟨"TurnRing$Ring", tf_Ri, 18, ty_Ri, rfl, by decide, uw_Ri, tk_Ri, nm_Ri, rfl, Or.inr ⟨g_memT (g_t1 163 rfl) rfl, rfl, rfl, rfl⟩⟩
theorem lk_Ma_76 : ab_lk g_G "TurnRing$Machine" 76 (tf_Ri 16) := Or.inl (g_memT (g_t1 164 rfl) rfl)
theorem fl_Ma_76 : ab_fl g_G "TurnRing$Machine" 76 5 16 := ⟨"TurnRing$Ring", tf_Ri, 18, rfl, by decide, uw_Ri, lk_Ma_76⟩
theorem lk_Tu_168 : ab_lk g_G "TurnRing" 168 (tf_Ri 16) := Or.inl (g_memT (g_t1 165 rfl) rfl)
theorem fl_Tu_168 : ab_fl g_G "TurnRing" 168 5 16 := ⟨"TurnRing$Ring", tf_Ri, 18, rfl, by decide, uw_Ri, lk_Tu_168⟩
theorem lk_Ri_37 : ab_lk g_G "TurnRing$Ring" 37 (tf_Ri 17) := Or.inl (g_memT (g_t1 166 rfl) rfl)
theorem fl_Ri_37 : ab_fl g_G "TurnRing$Ring" 37 5 17 := ⟨"TurnRing$Ring", tf_Ri, 18, rfl, by decide, uw_Ri, lk_Ri_37⟩
theorem fp_Ri_37 : ab_fp g_G "TurnRing$Ring" "<init>" 37 5 17 (ty_Ri 17) := ⟨"TurnRing$Ring", tf_Ri, 18, ty_Ri, rfl, by decide, uw_Ri, tk_Ri, nm_Ri, rfl, Or.inr ⟨g_memT (g_t1 166 rfl) rfl, rfl, rfl, rfl⟩⟩
theorem lk_Gu_45 : ab_lk g_G "TurnRing$Guesser" 45 (tf_Ri 17) := Or.inl (g_memT (g_t1 167 rfl) rfl)
theorem fl_Gu_45 : ab_fl g_G "TurnRing$Guesser" 45 5 17 := ⟨"TurnRing$Ring", tf_Ri, 18, rfl, by decide, uw_Ri, lk_Gu_45⟩
theorem lk_Tu_192 : ab_lk g_G "TurnRing" 192 (tf_Ri 17) := Or.inl (g_memT (g_t1 168 rfl) rfl)
theorem fl_Tu_192 : ab_fl g_G "TurnRing" 192 5 17 := ⟨"TurnRing$Ring", tf_Ri, 18, rfl, by decide, uw_Ri, lk_Tu_192⟩
theorem lk_Ac_9 : ab_lk g_G "TurnRing$ActLog" 9 (tf_Ac 0) := Or.inl (g_memT (g_t1 215 rfl) rfl)
theorem fl_Ac_9 : ab_fl g_G "TurnRing$ActLog" 9 0 0 := ⟨"TurnRing$ActLog", tf_Ac, 5, rfl, by decide, uw_Ac, lk_Ac_9⟩
theorem fp_Ac_9 : ab_fp g_G "TurnRing$ActLog" "<init>" 9 0 0 (ty_Ac 0) := ⟨"TurnRing$ActLog", tf_Ac, 5, ty_Ac, rfl, by decide, uw_Ac, tk_Ac, nm_Ac, rfl, Or.inr ⟨g_memT (g_t1 215 rfl) rfl, rfl, rfl, rfl⟩⟩
theorem lk_Ac_13 : ab_lk g_G "TurnRing$ActLog" 13 (tf_Ac 1) := Or.inl (g_memT (g_t1 216 rfl) rfl)
theorem fl_Ac_13 : ab_fl g_G "TurnRing$ActLog" 13 0 1 := ⟨"TurnRing$ActLog", tf_Ac, 5, rfl, by decide, uw_Ac, lk_Ac_13⟩
theorem fp_Ac_13 : ab_fp g_G "TurnRing$ActLog" "<init>" 13 0 1 (ty_Ac 1) := ⟨"TurnRing$ActLog", tf_Ac, 5, ty_Ac, rfl, by decide, uw_Ac, tk_Ac, nm_Ac, rfl, Or.inr ⟨g_memT (g_t1 216 rfl) rfl, rfl, rfl, rfl⟩⟩
theorem lk_Ac_16 : ab_lk g_G "TurnRing$ActLog" 16 (tf_Ac 2) := Or.inl (g_memT (g_t1 217 rfl) rfl)
theorem fl_Ac_16 : ab_fl g_G "TurnRing$ActLog" 16 0 2 := ⟨"TurnRing$ActLog", tf_Ac, 5, rfl, by decide, uw_Ac, lk_Ac_16⟩
theorem fp_Ac_16 : ab_fp g_G "TurnRing$ActLog" "<init>" 16 0 2 (ty_Ac 2) := ⟨"TurnRing$ActLog", tf_Ac, 5, ty_Ac, rfl, by decide, uw_Ac, tk_Ac, nm_Ac, rfl, Or.inr ⟨g_memT (g_t1 217 rfl) rfl, rfl, rfl, rfl⟩⟩
theorem lk_Ac_19 : ab_lk g_G "TurnRing$ActLog" 19 (tf_Ac 3) := Or.inl (g_memT (g_t1 218 rfl) rfl)
theorem fl_Ac_19 : ab_fl g_G "TurnRing$ActLog" 19 0 3 := ⟨"TurnRing$ActLog", tf_Ac, 5, rfl, by decide, uw_Ac, lk_Ac_19⟩
theorem fp_Ac_19 (nm : String) : ab_fp g_G "TurnRing$ActLog" nm 19 0 3 (ty_Ac 3) := ⟨"TurnRing$ActLog", tf_Ac, 5, ty_Ac, rfl, by decide, uw_Ac, tk_Ac, nm_Ac, rfl, Or.inl ⟨lk_Ac_19, rfl⟩⟩
theorem lk_Tu_201 : ab_lk g_G "TurnRing" 201 (tf_Ac 3) := Or.inl (g_memT (g_t1 219 rfl) rfl)
theorem fl_Tu_201 : ab_fl g_G "TurnRing" 201 0 3 := ⟨"TurnRing$ActLog", tf_Ac, 5, rfl, by decide, uw_Ac, lk_Tu_201⟩
theorem fp_Tu_201 (nm : String) : ab_fp g_G "TurnRing" nm 201 0 3 (ty_Ac 3) := ⟨"TurnRing$ActLog", tf_Ac, 5, ty_Ac, rfl, by decide, uw_Ac, tk_Ac, nm_Ac, rfl, Or.inl ⟨lk_Tu_201, rfl⟩⟩
theorem lk_Ac_23 : ab_lk g_G "TurnRing$ActLog" 23 (tf_Ac 4) := Or.inl (g_memT (g_t1 220 rfl) rfl)
theorem fl_Ac_23 : ab_fl g_G "TurnRing$ActLog" 23 0 4 := ⟨"TurnRing$ActLog", tf_Ac, 5, rfl, by decide, uw_Ac, lk_Ac_23⟩
theorem fp_Ac_23 (nm : String) : ab_fp g_G "TurnRing$ActLog" nm 23 0 4 (ty_Ac 4) := ⟨"TurnRing$ActLog", tf_Ac, 5, ty_Ac, rfl, by decide, uw_Ac, tk_Ac, nm_Ac, rfl, Or.inl ⟨lk_Ac_23, rfl⟩⟩
theorem lk_Ru_9 : ab_lk g_G "TurnRing$RuleReader" 9 (tf_Ru 0) := Or.inl (g_memT (g_t1 239 rfl) rfl)
theorem fl_Ru_9 : ab_fl g_G "TurnRing$RuleReader" 9 7 0 := ⟨"TurnRing$RuleReader", tf_Ru, 3, rfl, by decide, uw_Ru, lk_Ru_9⟩
theorem fp_Ru_9 : ab_fp g_G "TurnRing$RuleReader" "<init>" 9 7 0 (ty_Ru 0) := ⟨"TurnRing$RuleReader", tf_Ru, 3, ty_Ru, rfl, by decide, uw_Ru, tk_Ru, nm_Ru, rfl, Or.inr ⟨g_memT (g_t1 239 rfl) rfl, rfl, rfl, rfl⟩⟩
theorem lk_Ru_23 : ab_lk g_G "TurnRing$RuleReader" 23 (tf_Ru 1) := Or.inl (g_memT (g_t2 0 rfl) rfl)
theorem fl_Ru_23 : ab_fl g_G "TurnRing$RuleReader" 23 7 1 := ⟨"TurnRing$RuleReader", tf_Ru, 3, rfl, by decide, uw_Ru, lk_Ru_23⟩
theorem fp_Ru_23 (nm : String) : ab_fp g_G "TurnRing$RuleReader" nm 23 7 1 (ty_Ru 1) := ⟨"TurnRing$RuleReader", tf_Ru, 3, ty_Ru, rfl, by decide, uw_Ru, tk_Ru, nm_Ru, rfl, Or.inl ⟨lk_Ru_23, rfl⟩⟩
theorem lk_Ru_27 : ab_lk g_G "TurnRing$RuleReader" 27 (tf_Ru 2) := Or.inl (g_memT (g_t2 1 rfl) rfl)
theorem fl_Ru_27 : ab_fl g_G "TurnRing$RuleReader" 27 7 2 := ⟨"TurnRing$RuleReader", tf_Ru, 3, rfl, by decide, uw_Ru, lk_Ru_27⟩
theorem fp_Ru_27 (nm : String) : ab_fp g_G "TurnRing$RuleReader" nm 27 7 2 (ty_Ru 2) := ⟨"TurnRing$RuleReader", tf_Ru, 3, ty_Ru, rfl, by decide, uw_Ru, tk_Ru, nm_Ru, rfl, Or.inl ⟨lk_Ru_27, rfl⟩⟩
theorem lk_Ma_11 : ab_lk g_G "TurnRing$Machine" 11 (tf_Ma 0) := Or.inl (g_memT (g_t2 15 rfl) rfl)
theorem fl_Ma_11 : ab_fl g_G "TurnRing$Machine" 11 3 0 := ⟨"TurnRing$Machine", tf_Ma, 2, rfl, by decide, uw_Ma, lk_Ma_11⟩
theorem fp_Ma_11 : ab_fp g_G "TurnRing$Machine" "<init>" 11 3 0 (ty_Ma 0) := ⟨"TurnRing$Machine", tf_Ma, 2, ty_Ma, rfl, by decide, uw_Ma, tk_Ma, nm_Ma, rfl, Or.inr ⟨g_memT (g_t2 15 rfl) rfl, rfl, rfl, rfl⟩⟩
theorem lk_Ma_15 : ab_lk g_G "TurnRing$Machine" 15 (tf_Ma 1) := Or.inl (g_memT (g_t2 16 rfl) rfl)
theorem fl_Ma_15 : ab_fl g_G "TurnRing$Machine" 15 3 1 := ⟨"TurnRing$Machine", tf_Ma, 2, rfl, by decide, uw_Ma, lk_Ma_15⟩
theorem fp_Ma_15 (nm : String) : ab_fp g_G "TurnRing$Machine" nm 15 3 1 (ty_Ma 1) := ⟨"TurnRing$Machine", tf_Ma, 2, ty_Ma, rfl, by decide, uw_Ma, tk_Ma, nm_Ma, rfl, Or.inl ⟨lk_Ma_15, rfl⟩⟩
theorem lk_Pl_11 : ab_lk g_G "TurnRing$Planner" 11 (tf_Pl 0) := Or.inl (g_memT (g_t2 28 rfl) rfl)
theorem fl_Pl_11 : ab_fl g_G "TurnRing$Planner" 11 4 0 := ⟨"TurnRing$Planner", tf_Pl, 5, rfl, by decide, uw_Pl, lk_Pl_11⟩
theorem fp_Pl_11 : ab_fp g_G "TurnRing$Planner" "<init>" 11 4 0 (ty_Pl 0) := ⟨"TurnRing$Planner", tf_Pl, 5, ty_Pl, rfl, by decide, uw_Pl, tk_Pl, nm_Pl, rfl, Or.inr ⟨g_memT (g_t2 28 rfl) rfl, rfl, rfl, rfl⟩⟩
theorem lk_Pl_15 : ab_lk g_G "TurnRing$Planner" 15 (tf_Pl 1) := Or.inl (g_memT (g_t2 29 rfl) rfl)
theorem fl_Pl_15 : ab_fl g_G "TurnRing$Planner" 15 4 1 := ⟨"TurnRing$Planner", tf_Pl, 5, rfl, by decide, uw_Pl, lk_Pl_15⟩
theorem fp_Pl_15 : ab_fp g_G "TurnRing$Planner" "<init>" 15 4 1 (ty_Pl 1) := ⟨"TurnRing$Planner", tf_Pl, 5, ty_Pl, rfl, by decide, uw_Pl, tk_Pl, nm_Pl, rfl, Or.inr ⟨g_memT (g_t2 29 rfl) rfl, rfl, rfl, rfl⟩⟩
theorem lk_Tu_280 : ab_lk g_G "TurnRing" 280 (tf_Pl 1) := Or.inl (g_memT (g_t2 30 rfl) rfl)
theorem fl_Tu_280 : ab_fl g_G "TurnRing" 280 4 1 := ⟨"TurnRing$Planner", tf_Pl, 5, rfl, by decide, uw_Pl, lk_Tu_280⟩
theorem lk_Pl_47 : ab_lk g_G "TurnRing$Planner" 47 (tf_Pl 2) := Or.inl (g_memT (g_t2 31 rfl) rfl)
theorem fl_Pl_47 : ab_fl g_G "TurnRing$Planner" 47 4 2 := ⟨"TurnRing$Planner", tf_Pl, 5, rfl, by decide, uw_Pl, lk_Pl_47⟩
theorem fp_Pl_47 (nm : String) : ab_fp g_G "TurnRing$Planner" nm 47 4 2 (ty_Pl 2) := ⟨"TurnRing$Planner", tf_Pl, 5, ty_Pl, rfl, by decide, uw_Pl, tk_Pl, nm_Pl, rfl, Or.inl ⟨lk_Pl_47, rfl⟩⟩
theorem lk_Tu_277 : ab_lk g_G "TurnRing" 277 (tf_Pl 2) := Or.inl (g_memT (g_t2 32 rfl) rfl)
theorem fl_Tu_277 : ab_fl g_G "TurnRing" 277 4 2 := ⟨"TurnRing$Planner", tf_Pl, 5, rfl, by decide, uw_Pl, lk_Tu_277⟩
theorem fp_Tu_277 (nm : String) : ab_fp g_G "TurnRing" nm 277 4 2 (ty_Pl 2) := ⟨"TurnRing$Planner", tf_Pl, 5, ty_Pl, rfl, by decide, uw_Pl, tk_Pl, nm_Pl, rfl, Or.inl ⟨lk_Tu_277, rfl⟩⟩
theorem lk_Pl_18 : ab_lk g_G "TurnRing$Planner" 18 (tf_Pl 3) := Or.inl (g_memT (g_t2 33 rfl) rfl)
theorem fl_Pl_18 : ab_fl g_G "TurnRing$Planner" 18 4 3 := ⟨"TurnRing$Planner", tf_Pl, 5, rfl, by decide, uw_Pl, lk_Pl_18⟩
theorem fp_Pl_18 : ab_fp g_G "TurnRing$Planner" "<init>" 18 4 3 (ty_Pl 3) := ⟨"TurnRing$Planner", tf_Pl, 5, ty_Pl, rfl, by decide, uw_Pl, tk_Pl, nm_Pl, rfl, Or.inr ⟨g_memT (g_t2 33 rfl) rfl, rfl, rfl, rfl⟩⟩
theorem lk_Pl_21 : ab_lk g_G "TurnRing$Planner" 21 (tf_Pl 4) := Or.inl (g_memT (g_t2 34 rfl) rfl)
theorem fl_Pl_21 : ab_fl g_G "TurnRing$Planner" 21 4 4 := ⟨"TurnRing$Planner", tf_Pl, 5, rfl, by decide, uw_Pl, lk_Pl_21⟩
theorem fp_Pl_21 : ab_fp g_G "TurnRing$Planner" "<init>" 21 4 4 (ty_Pl 4) := ⟨"TurnRing$Planner", tf_Pl, 5, ty_Pl, rfl, by decide, uw_Pl, tk_Pl, nm_Pl, rfl, Or.inr ⟨g_memT (g_t2 34 rfl) rfl, rfl, rfl, rfl⟩⟩
theorem lk_Tr_9 : ab_lk g_G "TurnRing$Trader" 9 (tf_Tr 0) := Or.inl (g_memT (g_t2 52 rfl) rfl)
theorem fl_Tr_9 : ab_fl g_G "TurnRing$Trader" 9 9 0 := ⟨"TurnRing$Trader", tf_Tr, 5, rfl, by decide, uw_Tr, lk_Tr_9⟩
theorem fp_Tr_9 : ab_fp g_G "TurnRing$Trader" "<init>" 9 9 0 (ty_Tr 0) := ⟨"TurnRing$Trader", tf_Tr, 5, ty_Tr, rfl, by decide, uw_Tr, tk_Tr, nm_Tr, rfl, Or.inr ⟨g_memT (g_t2 52 rfl) rfl, rfl, rfl, rfl⟩⟩
theorem lk_Tr_15 : ab_lk g_G "TurnRing$Trader" 15 (tf_Tr 1) := Or.inl (g_memT (g_t2 53 rfl) rfl)
theorem fl_Tr_15 : ab_fl g_G "TurnRing$Trader" 15 9 1 := ⟨"TurnRing$Trader", tf_Tr, 5, rfl, by decide, uw_Tr, lk_Tr_15⟩
theorem fp_Tr_15 : ab_fp g_G "TurnRing$Trader" "<init>" 15 9 1 (ty_Tr 1) := ⟨"TurnRing$Trader", tf_Tr, 5, ty_Tr, rfl, by decide, uw_Tr, tk_Tr, nm_Tr, rfl, Or.inr ⟨g_memT (g_t2 53 rfl) rfl, rfl, rfl, rfl⟩⟩
theorem lk_Tr_18 : ab_lk g_G "TurnRing$Trader" 18 (tf_Tr 2) := Or.inl (g_memT (g_t2 54 rfl) rfl)
theorem fl_Tr_18 : ab_fl g_G "TurnRing$Trader" 18 9 2 := ⟨"TurnRing$Trader", tf_Tr, 5, rfl, by decide, uw_Tr, lk_Tr_18⟩
theorem fp_Tr_18 : ab_fp g_G "TurnRing$Trader" "<init>" 18 9 2 (ty_Tr 2) := ⟨"TurnRing$Trader", tf_Tr, 5, ty_Tr, rfl, by decide, uw_Tr, tk_Tr, nm_Tr, rfl, Or.inr ⟨g_memT (g_t2 54 rfl) rfl, rfl, rfl, rfl⟩⟩
theorem lk_Tr_21 : ab_lk g_G "TurnRing$Trader" 21 (tf_Tr 3) := Or.inl (g_memT (g_t2 55 rfl) rfl)
theorem fl_Tr_21 : ab_fl g_G "TurnRing$Trader" 21 9 3 := ⟨"TurnRing$Trader", tf_Tr, 5, rfl, by decide, uw_Tr, lk_Tr_21⟩
theorem fp_Tr_21 : ab_fp g_G "TurnRing$Trader" "<init>" 21 9 3 (ty_Tr 3) := ⟨"TurnRing$Trader", tf_Tr, 5, ty_Tr, rfl, by decide, uw_Tr, tk_Tr, nm_Tr, rfl, Or.inr ⟨g_memT (g_t2 55 rfl) rfl, rfl, rfl, rfl⟩⟩
theorem lk_Tu_286 : ab_lk g_G "TurnRing" 286 (tf_Tr 3) := Or.inl (g_memT (g_t2 56 rfl) rfl)
theorem fl_Tu_286 : ab_fl g_G "TurnRing" 286 9 3 := ⟨"TurnRing$Trader", tf_Tr, 5, rfl, by decide, uw_Tr, lk_Tu_286⟩
theorem lk_Tr_24 : ab_lk g_G "TurnRing$Trader" 24 (tf_Tr 4) := Or.inl (g_memT (g_t2 57 rfl) rfl)
theorem fl_Tr_24 : ab_fl g_G "TurnRing$Trader" 24 9 4 := ⟨"TurnRing$Trader", tf_Tr, 5, rfl, by decide, uw_Tr, lk_Tr_24⟩
theorem fp_Tr_24 : ab_fp g_G "TurnRing$Trader" "<init>" 24 9 4 (ty_Tr 4) := ⟨"TurnRing$Trader", tf_Tr, 5, ty_Tr, rfl, by decide, uw_Tr, tk_Tr, nm_Tr, rfl, Or.inr ⟨g_memT (g_t2 57 rfl) rfl, rfl, rfl, rfl⟩⟩
theorem lk_Tu_289 : ab_lk g_G "TurnRing" 289 (tf_Tr 4) := Or.inl (g_memT (g_t2 58 rfl) rfl)
theorem fl_Tu_289 : ab_fl g_G "TurnRing" 289 9 4 := ⟨"TurnRing$Trader", tf_Tr, 5, rfl, by decide, uw_Tr, lk_Tu_289⟩
theorem lk_Gu_11 : ab_lk g_G "TurnRing$Guesser" 11 (tf_Gu 0) := Or.inl (g_memT (g_t2 76 rfl) rfl)
theorem fl_Gu_11 : ab_fl g_G "TurnRing$Guesser" 11 2 0 := ⟨"TurnRing$Guesser", tf_Gu, 6, rfl, by decide, uw_Gu, lk_Gu_11⟩
theorem fp_Gu_11 : ab_fp g_G "TurnRing$Guesser" "<init>" 11 2 0 (ty_Gu 0) := ⟨"TurnRing$Guesser", tf_Gu, 6, ty_Gu, rfl, by decide, uw_Gu, tk_Gu, nm_Gu, rfl, Or.inr ⟨g_memT (g_t2 76 rfl) rfl, rfl, rfl, rfl⟩⟩
theorem lk_Tu_319 : ab_lk g_G "TurnRing" 319 (tf_Gu 0) := Or.inl (g_memT (g_t2 77 rfl) rfl)
theorem fl_Tu_319 : ab_fl g_G "TurnRing" 319 2 0 := ⟨"TurnRing$Guesser", tf_Gu, 6, rfl, by decide, uw_Gu, lk_Tu_319⟩
theorem lk_Gu_15 : ab_lk g_G "TurnRing$Guesser" 15 (tf_Gu 1) := Or.inl (g_memT (g_t2 78 rfl) rfl)
theorem fl_Gu_15 : ab_fl g_G "TurnRing$Guesser" 15 2 1 := ⟨"TurnRing$Guesser", tf_Gu, 6, rfl, by decide, uw_Gu, lk_Gu_15⟩
theorem fp_Gu_15 : ab_fp g_G "TurnRing$Guesser" "<init>" 15 2 1 (ty_Gu 1) := ⟨"TurnRing$Guesser", tf_Gu, 6, ty_Gu, rfl, by decide, uw_Gu, tk_Gu, nm_Gu, rfl, Or.inr ⟨g_memT (g_t2 78 rfl) rfl, rfl, rfl, rfl⟩⟩
theorem lk_Tu_321 : ab_lk g_G "TurnRing" 321 (tf_Gu 1) := Or.inl (g_memT (g_t2 79 rfl) rfl)
theorem fl_Tu_321 : ab_fl g_G "TurnRing" 321 2 1 := ⟨"TurnRing$Guesser", tf_Gu, 6, rfl, by decide, uw_Gu, lk_Tu_321⟩
theorem lk_Gu_21 : ab_lk g_G "TurnRing$Guesser" 21 (tf_Gu 2) := Or.inl (g_memT (g_t2 80 rfl) rfl)
theorem fl_Gu_21 : ab_fl g_G "TurnRing$Guesser" 21 2 2 := ⟨"TurnRing$Guesser", tf_Gu, 6, rfl, by decide, uw_Gu, lk_Gu_21⟩
theorem fp_Gu_21 (nm : String) : ab_fp g_G "TurnRing$Guesser" nm 21 2 2 (ty_Gu 2) := ⟨"TurnRing$Guesser", tf_Gu, 6, ty_Gu, rfl, by decide, uw_Gu, tk_Gu, nm_Gu, rfl, Or.inl ⟨lk_Gu_21, rfl⟩⟩
theorem lk_Tu_316 : ab_lk g_G "TurnRing" 316 (tf_Gu 2) := Or.inl (g_memT (g_t2 81 rfl) rfl)
theorem fl_Tu_316 : ab_fl g_G "TurnRing" 316 2 2 := ⟨"TurnRing$Guesser", tf_Gu, 6, rfl, by decide, uw_Gu, lk_Tu_316⟩
theorem fp_Tu_316 (nm : String) : ab_fp g_G "TurnRing" nm 316 2 2 (ty_Gu 2) := ⟨"TurnRing$Guesser", tf_Gu, 6, ty_Gu, rfl, by decide, uw_Gu, tk_Gu, nm_Gu, rfl, Or.inl ⟨lk_Tu_316, rfl⟩⟩
theorem lk_Gu_18 : ab_lk g_G "TurnRing$Guesser" 18 (tf_Gu 3) := Or.inl (g_memT (g_t2 82 rfl) rfl)
theorem fl_Gu_18 : ab_fl g_G "TurnRing$Guesser" 18 2 3 := ⟨"TurnRing$Guesser", tf_Gu, 6, rfl, by decide, uw_Gu, lk_Gu_18⟩
theorem fp_Gu_18 : ab_fp g_G "TurnRing$Guesser" "<init>" 18 2 3 (ty_Gu 3) := ⟨"TurnRing$Guesser", tf_Gu, 6, ty_Gu, rfl, by decide, uw_Gu, tk_Gu, nm_Gu, rfl, Or.inr ⟨g_memT (g_t2 82 rfl) rfl, rfl, rfl, rfl⟩⟩
theorem lk_Gu_87 : ab_lk g_G "TurnRing$Guesser" 87 (tf_Gu 4) := Or.inl (g_memT (g_t2 83 rfl) rfl)
theorem fl_Gu_87 : ab_fl g_G "TurnRing$Guesser" 87 2 4 := ⟨"TurnRing$Guesser", tf_Gu, 6, rfl, by decide, uw_Gu, lk_Gu_87⟩
theorem fp_Gu_87 (nm : String) : ab_fp g_G "TurnRing$Guesser" nm 87 2 4 (ty_Gu 4) := ⟨"TurnRing$Guesser", tf_Gu, 6, ty_Gu, rfl, by decide, uw_Gu, tk_Gu, nm_Gu, rfl, Or.inl ⟨lk_Gu_87, rfl⟩⟩
theorem lk_Tu_331 : ab_lk g_G "TurnRing" 331 (tf_Gu 4) := Or.inl (g_memT (g_t2 84 rfl) rfl)
theorem fl_Tu_331 : ab_fl g_G "TurnRing" 331 2 4 := ⟨"TurnRing$Guesser", tf_Gu, 6, rfl, by decide, uw_Gu, lk_Tu_331⟩
theorem fp_Tu_331 (nm : String) : ab_fp g_G "TurnRing" nm 331 2 4 (ty_Gu 4) := ⟨"TurnRing$Guesser", tf_Gu, 6, ty_Gu, rfl, by decide, uw_Gu, tk_Gu, nm_Gu, rfl, Or.inl ⟨lk_Tu_331, rfl⟩⟩
theorem lk_Gu_84 : ab_lk g_G "TurnRing$Guesser" 84 (tf_Gu 5) := Or.inl (g_memT (g_t2 85 rfl) rfl)
theorem fl_Gu_84 : ab_fl g_G "TurnRing$Guesser" 84 2 5 := ⟨"TurnRing$Guesser", tf_Gu, 6, rfl, by decide, uw_Gu, lk_Gu_84⟩
theorem fp_Gu_84 (nm : String) : ab_fp g_G "TurnRing$Guesser" nm 84 2 5 (ty_Gu 5) := ⟨"TurnRing$Guesser", tf_Gu, 6, ty_Gu, rfl, by decide, uw_Gu, tk_Gu, nm_Gu, rfl, Or.inl ⟨lk_Gu_84, rfl⟩⟩
theorem lk_Tu_328 : ab_lk g_G "TurnRing" 328 (tf_Gu 5) := Or.inl (g_memT (g_t2 86 rfl) rfl)
theorem fl_Tu_328 : ab_fl g_G "TurnRing" 328 2 5 := ⟨"TurnRing$Guesser", tf_Gu, 6, rfl, by decide, uw_Gu, lk_Tu_328⟩
theorem fp_Tu_328 (nm : String) : ab_fp g_G "TurnRing" nm 328 2 5 (ty_Gu 5) := ⟨"TurnRing$Guesser", tf_Gu, 6, ty_Gu, rfl, by decide, uw_Gu, tk_Gu, nm_Gu, rfl, Or.inl ⟨lk_Tu_328, rfl⟩⟩
theorem lk_Tu_10 : ab_lk g_G "TurnRing" 10 (tf_Tu 0) := Or.inl (g_memT (g_t2 100 rfl) rfl)
theorem fl_Tu_10 : ab_fl g_G "TurnRing" 10 10 0 := ⟨"TurnRing", tf_Tu, 13, rfl, by decide, uw_Tu, lk_Tu_10⟩
theorem fp_Tu_10 : ab_fp g_G "TurnRing" "<init>" 10 10 0 (ty_Tu 0) := ⟨"TurnRing", tf_Tu, 13, ty_Tu, rfl, by decide, uw_Tu, tk_Tu, nm_Tu, rfl, Or.inr ⟨g_memT (g_t2 100 rfl) rfl, rfl, rfl, rfl⟩⟩
theorem lk_Tu_19 : ab_lk g_G "TurnRing" 19 (tf_Tu 1) := Or.inl (g_memT (g_t2 101 rfl) rfl)
theorem fl_Tu_19 : ab_fl g_G "TurnRing" 19 10 1 := ⟨"TurnRing", tf_Tu, 13, rfl, by decide, uw_Tu, lk_Tu_19⟩
theorem fp_Tu_19 (nm : String) : ab_fp g_G "TurnRing" nm 19 10 1 (ty_Tu 1) := ⟨"TurnRing", tf_Tu, 13, ty_Tu, rfl, by decide, uw_Tu, tk_Tu, nm_Tu, rfl, Or.inl ⟨lk_Tu_19, rfl⟩⟩
theorem lk_Tu_23 : ab_lk g_G "TurnRing" 23 (tf_Tu 2) := Or.inl (g_memT (g_t2 102 rfl) rfl)
theorem fl_Tu_23 : ab_fl g_G "TurnRing" 23 10 2 := ⟨"TurnRing", tf_Tu, 13, rfl, by decide, uw_Tu, lk_Tu_23⟩
theorem fp_Tu_23 (nm : String) : ab_fp g_G "TurnRing" nm 23 10 2 (ty_Tu 2) := ⟨"TurnRing", tf_Tu, 13, ty_Tu, rfl, by decide, uw_Tu, tk_Tu, nm_Tu, rfl, Or.inl ⟨lk_Tu_23, rfl⟩⟩
theorem lk_Tu_26 : ab_lk g_G "TurnRing" 26 (tf_Tu 3) := Or.inl (g_memT (g_t2 103 rfl) rfl)
theorem fl_Tu_26 : ab_fl g_G "TurnRing" 26 10 3 := ⟨"TurnRing", tf_Tu, 13, rfl, by decide, uw_Tu, lk_Tu_26⟩
theorem fp_Tu_26 : ab_fp g_G "TurnRing" "<init>" 26 10 3 (ty_Tu 3) := ⟨"TurnRing", tf_Tu, 13, ty_Tu, rfl, by decide, uw_Tu, tk_Tu, nm_Tu, rfl, Or.inr ⟨g_memT (g_t2 103 rfl) rfl, rfl, rfl, rfl⟩⟩
theorem lk_Tu_30 : ab_lk g_G "TurnRing" 30 (tf_Tu 4) := Or.inl (g_memT (g_t2 104 rfl) rfl)
theorem fl_Tu_30 : ab_fl g_G "TurnRing" 30 10 4 := ⟨"TurnRing", tf_Tu, 13, rfl, by decide, uw_Tu, lk_Tu_30⟩
theorem fp_Tu_30 : ab_fp g_G "TurnRing" "<init>" 30 10 4 (ty_Tu 4) := ⟨"TurnRing", tf_Tu, 13, ty_Tu, rfl, by decide, uw_Tu, tk_Tu, nm_Tu, rfl, Or.inr ⟨g_memT (g_t2 104 rfl) rfl, rfl, rfl, rfl⟩⟩
theorem lk_Tu_36 : ab_lk g_G "TurnRing" 36 (tf_Tu 5) := Or.inl (g_memT (g_t2 105 rfl) rfl)
theorem fl_Tu_36 : ab_fl g_G "TurnRing" 36 10 5 := ⟨"TurnRing", tf_Tu, 13, rfl, by decide, uw_Tu, lk_Tu_36⟩
theorem fp_Tu_36 : ab_fp g_G "TurnRing" "<init>" 36 10 5 (ty_Tu 5) := ⟨"TurnRing", tf_Tu, 13, ty_Tu, rfl, by decide, uw_Tu, tk_Tu, nm_Tu, rfl, Or.inr ⟨g_memT (g_t2 105 rfl) rfl, rfl, rfl, rfl⟩⟩
theorem lk_Tu_105 : ab_lk g_G "TurnRing" 105 (tf_Tu 6) := Or.inl (g_memT (g_t2 106 rfl) rfl)
theorem fl_Tu_105 : ab_fl g_G "TurnRing" 105 10 6 := ⟨"TurnRing", tf_Tu, 13, rfl, by decide, uw_Tu, lk_Tu_105⟩
theorem fp_Tu_105 (nm : String) : ab_fp g_G "TurnRing" nm 105 10 6 (ty_Tu 6) := ⟨"TurnRing", tf_Tu, 13, ty_Tu, rfl, by decide, uw_Tu, tk_Tu, nm_Tu, rfl, Or.inl ⟨lk_Tu_105, rfl⟩⟩
theorem lk_Tu_43 : ab_lk g_G "TurnRing" 43 (tf_Tu 7) := Or.inl (g_memT (g_t2 107 rfl) rfl)
theorem fl_Tu_43 : ab_fl g_G "TurnRing" 43 10 7 := ⟨"TurnRing", tf_Tu, 13, rfl, by decide, uw_Tu, lk_Tu_43⟩
theorem fp_Tu_43 : ab_fp g_G "TurnRing" "<init>" 43 10 7 (ty_Tu 7) := ⟨"TurnRing", tf_Tu, 13, ty_Tu, rfl, by decide, uw_Tu, tk_Tu, nm_Tu, rfl, Or.inr ⟨g_memT (g_t2 107 rfl) rfl, rfl, rfl, rfl⟩⟩
theorem lk_Tu_50 : ab_lk g_G "TurnRing" 50 (tf_Tu 8) := Or.inl (g_memT (g_t2 108 rfl) rfl)
theorem fl_Tu_50 : ab_fl g_G "TurnRing" 50 10 8 := ⟨"TurnRing", tf_Tu, 13, rfl, by decide, uw_Tu, lk_Tu_50⟩
theorem fp_Tu_50 : ab_fp g_G "TurnRing" "<init>" 50 10 8 (ty_Tu 8) := ⟨"TurnRing", tf_Tu, 13, ty_Tu, rfl, by decide, uw_Tu, tk_Tu, nm_Tu, rfl, Or.inr ⟨g_memT (g_t2 108 rfl) rfl, rfl, rfl, rfl⟩⟩
theorem lk_Tu_57 : ab_lk g_G "TurnRing" 57 (tf_Tu 9) := Or.inl (g_memT (g_t2 109 rfl) rfl)
theorem fl_Tu_57 : ab_fl g_G "TurnRing" 57 10 9 := ⟨"TurnRing", tf_Tu, 13, rfl, by decide, uw_Tu, lk_Tu_57⟩
theorem fp_Tu_57 : ab_fp g_G "TurnRing" "<init>" 57 10 9 (ty_Tu 9) := ⟨"TurnRing", tf_Tu, 13, ty_Tu, rfl, by decide, uw_Tu, tk_Tu, nm_Tu, rfl, Or.inr ⟨g_memT (g_t2 109 rfl) rfl, rfl, rfl, rfl⟩⟩
theorem lk_Tu_64 : ab_lk g_G "TurnRing" 64 (tf_Tu 10) := Or.inl (g_memT (g_t2 110 rfl) rfl)
theorem fl_Tu_64 : ab_fl g_G "TurnRing" 64 10 10 := ⟨"TurnRing", tf_Tu, 13, rfl, by decide, uw_Tu, lk_Tu_64⟩
theorem fp_Tu_64 : ab_fp g_G "TurnRing" "<init>" 64 10 10 (ty_Tu 10) := ⟨"TurnRing", tf_Tu, 13, ty_Tu, rfl, by decide, uw_Tu, tk_Tu, nm_Tu, rfl, Or.inr ⟨g_memT (g_t2 110 rfl) rfl, rfl, rfl, rfl⟩⟩
theorem lk_Tu_71 : ab_lk g_G "TurnRing" 71 (tf_Tu 11) := Or.inl (g_memT (g_t2 111 rfl) rfl)
theorem fl_Tu_71 : ab_fl g_G "TurnRing" 71 10 11 := ⟨"TurnRing", tf_Tu, 13, rfl, by decide, uw_Tu, lk_Tu_71⟩
theorem fp_Tu_71 : ab_fp g_G "TurnRing" "<init>" 71 10 11 (ty_Tu 11) := ⟨"TurnRing", tf_Tu, 13, ty_Tu, rfl, by decide, uw_Tu, tk_Tu, nm_Tu, rfl, Or.inr ⟨g_memT (g_t2 111 rfl) rfl, rfl, rfl, rfl⟩⟩
theorem lk_Tu_78 : ab_lk g_G "TurnRing" 78 (tf_Tu 12) := Or.inl (g_memT (g_t2 112 rfl) rfl)
theorem fl_Tu_78 : ab_fl g_G "TurnRing" 78 10 12 := ⟨"TurnRing", tf_Tu, 13, rfl, by decide, uw_Tu, lk_Tu_78⟩
theorem fp_Tu_78 : ab_fp g_G "TurnRing" "<init>" 78 10 12 (ty_Tu 12) := ⟨"TurnRing", tf_Tu, 13, ty_Tu, rfl, by decide, uw_Tu, tk_Tu, nm_Tu, rfl, Or.inr ⟨g_memT (g_t2 112 rfl) rfl, rfl, rfl, rfl⟩⟩
theorem lk_Ro_7 : ab_lk g_G "TurnRing$Rule" 7 (tf_Ro 0) := Or.inl (g_memT (g_t3 122 rfl) rfl)
theorem fl_Ro_7 : ab_fl g_G "TurnRing$Rule" 7 6 0 := ⟨"TurnRing$Rule", tf_Ro, 1, rfl, by decide, uw_Ro, lk_Ro_7⟩
theorem fp_Ro_7 : ab_fp g_G "TurnRing$Rule" "<init>" 7 6 0 (ty_Ro 0) := ⟨"TurnRing$Rule", tf_Ro, 1, ty_Ro, rfl, by decide, uw_Ro, tk_Ro, nm_Ro, rfl, Or.inr ⟨g_memT (g_t3 122 rfl) rfl, rfl, rfl, rfl⟩⟩
theorem lk_Ma_19 : ab_lk g_G "TurnRing$Machine" 19 (tf_Ro 0) := Or.inl (g_memT (g_t3 123 rfl) rfl)
theorem fl_Ma_19 : ab_fl g_G "TurnRing$Machine" 19 6 0 := ⟨"TurnRing$Rule", tf_Ro, 1, rfl, by decide, uw_Ro, lk_Ma_19⟩
theorem lk_Mo_7 : ab_lk g_G "TurnRingModel" 7 (tf_Mo 0) := Or.inl (g_memT (g_t5 58 rfl) rfl)
theorem fl_Mo_7 : ab_fl g_G "TurnRingModel" 7 11 0 := ⟨"TurnRingModel", tf_Mo, 37, rfl, by decide, uw_Mo, lk_Mo_7⟩
theorem fp_Mo_7 : ab_fp g_G "TurnRingModel" "<init>" 7 11 0 (ty_Mo 0) := ⟨"TurnRingModel", tf_Mo, 37, ty_Mo, rfl, by decide, uw_Mo, tk_Mo, nm_Mo, rfl, Or.inr ⟨g_memT (g_t5 58 rfl) rfl, rfl, rfl, rfl⟩⟩
theorem lk_Mo_76 : ab_lk g_G "TurnRingModel" 76 (tf_Mo 1) := Or.inl (g_memT (g_t5 59 rfl) rfl)
theorem fl_Mo_76 : ab_fl g_G "TurnRingModel" 76 11 1 := ⟨"TurnRingModel", tf_Mo, 37, rfl, by decide, uw_Mo, lk_Mo_76⟩
theorem fp_Mo_76 (nm : String) : ab_fp g_G "TurnRingModel" nm 76 11 1 (ty_Mo 1) := ⟨"TurnRingModel", tf_Mo, 37, ty_Mo, rfl, by decide, uw_Mo, tk_Mo, nm_Mo, rfl, Or.inl ⟨lk_Mo_76, rfl⟩⟩
theorem lk_Mo_266 : ab_lk g_G "TurnRingModel" 266 (tf_Mo 2) := Or.inl (g_memT (g_t5 60 rfl) rfl)
theorem fl_Mo_266 : ab_fl g_G "TurnRingModel" 266 11 2 := ⟨"TurnRingModel", tf_Mo, 37, rfl, by decide, uw_Mo, lk_Mo_266⟩
theorem fp_Mo_266 (nm : String) : ab_fp g_G "TurnRingModel" nm 266 11 2 (ty_Mo 2) := ⟨"TurnRingModel", tf_Mo, 37, ty_Mo, rfl, by decide, uw_Mo, tk_Mo, nm_Mo, rfl, Or.inl ⟨lk_Mo_266, rfl⟩⟩
theorem lk_Mo_13 : ab_lk g_G "TurnRingModel" 13 (tf_Mo 3) := Or.inl (g_memT (g_t5 61 rfl) rfl)
theorem fl_Mo_13 : ab_fl g_G "TurnRingModel" 13 11 3 := ⟨"TurnRingModel", tf_Mo, 37, rfl, by decide, uw_Mo, lk_Mo_13⟩
theorem fp_Mo_13 : ab_fp g_G "TurnRingModel" "<init>" 13 11 3 (ty_Mo 3) := ⟨"TurnRingModel", tf_Mo, 37, ty_Mo, rfl, by decide, uw_Mo, tk_Mo, nm_Mo, rfl, Or.inr ⟨g_memT (g_t5 61 rfl) rfl, rfl, rfl, rfl⟩⟩
theorem lk_Mo_17 : ab_lk g_G "TurnRingModel" 17 (tf_Mo 4) := Or.inl (g_memT (g_t5 62 rfl) rfl)
theorem fl_Mo_17 : ab_fl g_G "TurnRingModel" 17 11 4 := ⟨"TurnRingModel", tf_Mo, 37, rfl, by decide, uw_Mo, lk_Mo_17⟩
theorem fp_Mo_17 : ab_fp g_G "TurnRingModel" "<init>" 17 11 4 (ty_Mo 4) := ⟨"TurnRingModel", tf_Mo, 37, ty_Mo, rfl, by decide, uw_Mo, tk_Mo, nm_Mo, rfl, Or.inr ⟨g_memT (g_t5 62 rfl) rfl, rfl, rfl, rfl⟩⟩
theorem lk_Mo_20 : ab_lk g_G "TurnRingModel" 20 (tf_Mo 5) := Or.inl (g_memT (g_t5 63 rfl) rfl)
theorem fl_Mo_20 : ab_fl g_G "TurnRingModel" 20 11 5 := ⟨"TurnRingModel", tf_Mo, 37, rfl, by decide, uw_Mo, lk_Mo_20⟩
theorem fp_Mo_20 : ab_fp g_G "TurnRingModel" "<init>" 20 11 5 (ty_Mo 5) := ⟨"TurnRingModel", tf_Mo, 37, ty_Mo, rfl, by decide, uw_Mo, tk_Mo, nm_Mo, rfl, Or.inr ⟨g_memT (g_t5 63 rfl) rfl, rfl, rfl, rfl⟩⟩
theorem lk_Mo_23 : ab_lk g_G "TurnRingModel" 23 (tf_Mo 6) := Or.inl (g_memT (g_t5 64 rfl) rfl)
theorem fl_Mo_23 : ab_fl g_G "TurnRingModel" 23 11 6 := ⟨"TurnRingModel", tf_Mo, 37, rfl, by decide, uw_Mo, lk_Mo_23⟩
theorem fp_Mo_23 : ab_fp g_G "TurnRingModel" "<init>" 23 11 6 (ty_Mo 6) := ⟨"TurnRingModel", tf_Mo, 37, ty_Mo, rfl, by decide, uw_Mo, tk_Mo, nm_Mo, rfl, Or.inr ⟨g_memT (g_t5 64 rfl) rfl, rfl, rfl, rfl⟩⟩
theorem lk_Mo_26 : ab_lk g_G "TurnRingModel" 26 (tf_Mo 7) := Or.inl (g_memT (g_t5 65 rfl) rfl)
theorem fl_Mo_26 : ab_fl g_G "TurnRingModel" 26 11 7 := ⟨"TurnRingModel", tf_Mo, 37, rfl, by decide, uw_Mo, lk_Mo_26⟩
theorem fp_Mo_26 : ab_fp g_G "TurnRingModel" "<init>" 26 11 7 (ty_Mo 7) := ⟨"TurnRingModel", tf_Mo, 37, ty_Mo, rfl, by decide, uw_Mo, tk_Mo, nm_Mo, rfl, Or.inr ⟨g_memT (g_t5 65 rfl) rfl, rfl, rfl, rfl⟩⟩
theorem lk_Mo_87 : ab_lk g_G "TurnRingModel" 87 (tf_Mo 8) := Or.inl (g_memT (g_t5 66 rfl) rfl)
theorem fl_Mo_87 : ab_fl g_G "TurnRingModel" 87 11 8 := ⟨"TurnRingModel", tf_Mo, 37, rfl, by decide, uw_Mo, lk_Mo_87⟩
theorem fp_Mo_87 (nm : String) : ab_fp g_G "TurnRingModel" nm 87 11 8 (ty_Mo 8) := ⟨"TurnRingModel", tf_Mo, 37, ty_Mo, rfl, by decide, uw_Mo, tk_Mo, nm_Mo, rfl, Or.inl ⟨lk_Mo_87, rfl⟩⟩
theorem lk_Mo_84 : ab_lk g_G "TurnRingModel" 84 (tf_Mo 9) := Or.inl (g_memT (g_t5 67 rfl) rfl)
theorem fl_Mo_84 : ab_fl g_G "TurnRingModel" 84 11 9 := ⟨"TurnRingModel", tf_Mo, 37, rfl, by decide, uw_Mo, lk_Mo_84⟩
theorem fp_Mo_84 (nm : String) : ab_fp g_G "TurnRingModel" nm 84 11 9 (ty_Mo 9) := ⟨"TurnRingModel", tf_Mo, 37, ty_Mo, rfl, by decide, uw_Mo, tk_Mo, nm_Mo, rfl, Or.inl ⟨lk_Mo_84, rfl⟩⟩
theorem lk_Mo_112 : ab_lk g_G "TurnRingModel" 112 (tf_Mo 10) := Or.inl (g_memT (g_t5 68 rfl) rfl)
theorem fl_Mo_112 : ab_fl g_G "TurnRingModel" 112 11 10 := ⟨"TurnRingModel", tf_Mo, 37, rfl, by decide, uw_Mo, lk_Mo_112⟩
theorem fp_Mo_112 (nm : String) : ab_fp g_G "TurnRingModel" nm 112 11 10 (ty_Mo 10) := ⟨"TurnRingModel", tf_Mo, 37, ty_Mo, rfl, by decide, uw_Mo, tk_Mo, nm_Mo, rfl, Or.inl ⟨lk_Mo_112, rfl⟩⟩
theorem lk_Mo_143 : ab_lk g_G "TurnRingModel" 143 (tf_Mo 11) := Or.inl (g_memT (g_t5 69 rfl) rfl)
theorem fl_Mo_143 : ab_fl g_G "TurnRingModel" 143 11 11 := ⟨"TurnRingModel", tf_Mo, 37, rfl, by decide, uw_Mo, lk_Mo_143⟩
theorem fp_Mo_143 (nm : String) : ab_fp g_G "TurnRingModel" nm 143 11 11 (ty_Mo 11) := ⟨"TurnRingModel", tf_Mo, 37, ty_Mo, rfl, by decide, uw_Mo, tk_Mo, nm_Mo, rfl, Or.inl ⟨lk_Mo_143, rfl⟩⟩
theorem lk_Mo_146 : ab_lk g_G "TurnRingModel" 146 (tf_Mo 12) := Or.inl (g_memT (g_t5 70 rfl) rfl)
theorem fl_Mo_146 : ab_fl g_G "TurnRingModel" 146 11 12 := ⟨"TurnRingModel", tf_Mo, 37, rfl, by decide, uw_Mo, lk_Mo_146⟩
theorem fp_Mo_146 (nm : String) : ab_fp g_G "TurnRingModel" nm 146 11 12 (ty_Mo 12) := ⟨"TurnRingModel", tf_Mo, 37, ty_Mo, rfl, by decide, uw_Mo, tk_Mo, nm_Mo, rfl, Or.inl ⟨lk_Mo_146, rfl⟩⟩
theorem lk_Mo_149 : ab_lk g_G "TurnRingModel" 149 (tf_Mo 13) := Or.inl (g_memT (g_t5 71 rfl) rfl)
theorem fl_Mo_149 : ab_fl g_G "TurnRingModel" 149 11 13 := ⟨"TurnRingModel", tf_Mo, 37, rfl, by decide, uw_Mo, lk_Mo_149⟩
theorem fp_Mo_149 (nm : String) : ab_fp g_G "TurnRingModel" nm 149 11 13 (ty_Mo 13) := ⟨"TurnRingModel", tf_Mo, 37, ty_Mo, rfl, by decide, uw_Mo, tk_Mo, nm_Mo, rfl, Or.inl ⟨lk_Mo_149, rfl⟩⟩
theorem lk_Mo_254 : ab_lk g_G "TurnRingModel" 254 (tf_Mo 14) := Or.inl (g_memT (g_t5 72 rfl) rfl)
theorem fl_Mo_254 : ab_fl g_G "TurnRingModel" 254 11 14 := ⟨"TurnRingModel", tf_Mo, 37, rfl, by decide, uw_Mo, lk_Mo_254⟩
theorem fp_Mo_254 (nm : String) : ab_fp g_G "TurnRingModel" nm 254 11 14 (ty_Mo 14) := ⟨"TurnRingModel", tf_Mo, 37, ty_Mo, rfl, by decide, uw_Mo, tk_Mo, nm_Mo, rfl, Or.inl ⟨lk_Mo_254, rfl⟩⟩
theorem lk_Mo_29 : ab_lk g_G "TurnRingModel" 29 (tf_Mo 15) := Or.inl (g_memT (g_t5 73 rfl) rfl)
theorem fl_Mo_29 : ab_fl g_G "TurnRingModel" 29 11 15 := ⟨"TurnRingModel", tf_Mo, 37, rfl, by decide, uw_Mo, lk_Mo_29⟩
theorem fp_Mo_29 : ab_fp g_G "TurnRingModel" "<init>" 29 11 15 (ty_Mo 15) := ⟨"TurnRingModel", tf_Mo, 37, ty_Mo, rfl, by decide, uw_Mo, tk_Mo, nm_Mo, rfl, Or.inr ⟨g_memT (g_t5 73 rfl) rfl, rfl, rfl, rfl⟩⟩
theorem lk_Mo_152 : ab_lk g_G "TurnRingModel" 152 (tf_Mo 16) := Or.inl (g_memT (g_t5 74 rfl) rfl)
theorem fl_Mo_152 : ab_fl g_G "TurnRingModel" 152 11 16 := ⟨"TurnRingModel", tf_Mo, 37, rfl, by decide, uw_Mo, lk_Mo_152⟩
theorem fp_Mo_152 (nm : String) : ab_fp g_G "TurnRingModel" nm 152 11 16 (ty_Mo 16) := ⟨"TurnRingModel", tf_Mo, 37, ty_Mo, rfl, by decide, uw_Mo, tk_Mo, nm_Mo, rfl, Or.inl ⟨lk_Mo_152, rfl⟩⟩
theorem lk_Mo_32 : ab_lk g_G "TurnRingModel" 32 (tf_Mo 17) := Or.inl (g_memT (g_t5 75 rfl) rfl)
theorem fl_Mo_32 : ab_fl g_G "TurnRingModel" 32 11 17 := ⟨"TurnRingModel", tf_Mo, 37, rfl, by decide, uw_Mo, lk_Mo_32⟩
theorem fp_Mo_32 : ab_fp g_G "TurnRingModel" "<init>" 32 11 17 (ty_Mo 17) := ⟨"TurnRingModel", tf_Mo, 37, ty_Mo, rfl, by decide, uw_Mo, tk_Mo, nm_Mo, rfl, Or.inr ⟨g_memT (g_t5 75 rfl) rfl, rfl, rfl, rfl⟩⟩
theorem lk_Mo_275 : ab_lk g_G "TurnRingModel" 275 (tf_Mo 18) := Or.inl (g_memT (g_t5 76 rfl) rfl)
theorem fl_Mo_275 : ab_fl g_G "TurnRingModel" 275 11 18 := ⟨"TurnRingModel", tf_Mo, 37, rfl, by decide, uw_Mo, lk_Mo_275⟩
theorem fp_Mo_275 (nm : String) : ab_fp g_G "TurnRingModel" nm 275 11 18 (ty_Mo 18) := ⟨"TurnRingModel", tf_Mo, 37, ty_Mo, rfl, by decide, uw_Mo, tk_Mo, nm_Mo, rfl, Or.inl ⟨lk_Mo_275, rfl⟩⟩
theorem lk_Mo_36 : ab_lk g_G "TurnRingModel" 36 (tf_Mo 19) := Or.inl (g_memT (g_t5 77 rfl) rfl)
theorem fl_Mo_36 : ab_fl g_G "TurnRingModel" 36 11 19 := ⟨"TurnRingModel", tf_Mo, 37, rfl, by decide, uw_Mo, lk_Mo_36⟩
theorem fp_Mo_36 : ab_fp g_G "TurnRingModel" "<init>" 36 11 19 (ty_Mo 19) := ⟨"TurnRingModel", tf_Mo, 37, ty_Mo, rfl, by decide, uw_Mo, tk_Mo, nm_Mo, rfl, Or.inr ⟨g_memT (g_t5 77 rfl) rfl, rfl, rfl, rfl⟩⟩
theorem lk_Mo_39 : ab_lk g_G "TurnRingModel" 39 (tf_Mo 20) := Or.inl (g_memT (g_t5 78 rfl) rfl)
theorem fl_Mo_39 : ab_fl g_G "TurnRingModel" 39 11 20 := ⟨"TurnRingModel", tf_Mo, 37, rfl, by decide, uw_Mo, lk_Mo_39⟩
theorem fp_Mo_39 : ab_fp g_G "TurnRingModel" "<init>" 39 11 20 (ty_Mo 20) := ⟨"TurnRingModel", tf_Mo, 37, ty_Mo, rfl, by decide, uw_Mo, tk_Mo, nm_Mo, rfl, Or.inr ⟨g_memT (g_t5 78 rfl) rfl, rfl, rfl, rfl⟩⟩
theorem lk_Mo_465 : ab_lk g_G "TurnRingModel" 465 (tf_Mo 21) := Or.inl (g_memT (g_t5 79 rfl) rfl)
theorem fl_Mo_465 : ab_fl g_G "TurnRingModel" 465 11 21 := ⟨"TurnRingModel", tf_Mo, 37, rfl, by decide, uw_Mo, lk_Mo_465⟩
theorem fp_Mo_465 (nm : String) : ab_fp g_G "TurnRingModel" nm 465 11 21 (ty_Mo 21) := ⟨"TurnRingModel", tf_Mo, 37, ty_Mo, rfl, by decide, uw_Mo, tk_Mo, nm_Mo, rfl, Or.inl ⟨lk_Mo_465, rfl⟩⟩
theorem lk_Mo_42 : ab_lk g_G "TurnRingModel" 42 (tf_Mo 22) := Or.inl (g_memT (g_t5 80 rfl) rfl)
theorem fl_Mo_42 : ab_fl g_G "TurnRingModel" 42 11 22 := ⟨"TurnRingModel", tf_Mo, 37, rfl, by decide, uw_Mo, lk_Mo_42⟩
theorem fp_Mo_42 : ab_fp g_G "TurnRingModel" "<init>" 42 11 22 (ty_Mo 22) := ⟨"TurnRingModel", tf_Mo, 37, ty_Mo, rfl, by decide, uw_Mo, tk_Mo, nm_Mo, rfl, Or.inr ⟨g_memT (g_t5 80 rfl) rfl, rfl, rfl, rfl⟩⟩
theorem lk_Mo_272 : ab_lk g_G "TurnRingModel" 272 (tf_Mo 23) := Or.inl (g_memT (g_t5 81 rfl) rfl)
theorem fl_Mo_272 : ab_fl g_G "TurnRingModel" 272 11 23 := ⟨"TurnRingModel", tf_Mo, 37, rfl, by decide, uw_Mo, lk_Mo_272⟩
theorem fp_Mo_272 (nm : String) : ab_fp g_G "TurnRingModel" nm 272 11 23 (ty_Mo 23) := ⟨"TurnRingModel", tf_Mo, 37, ty_Mo, rfl, by decide, uw_Mo, tk_Mo, nm_Mo, rfl, Or.inl ⟨lk_Mo_272, rfl⟩⟩
theorem lk_Mo_45 : ab_lk g_G "TurnRingModel" 45 (tf_Mo 24) := Or.inl (g_memT (g_t5 82 rfl) rfl)
theorem fl_Mo_45 : ab_fl g_G "TurnRingModel" 45 11 24 := ⟨"TurnRingModel", tf_Mo, 37, rfl, by decide, uw_Mo, lk_Mo_45⟩
theorem fp_Mo_45 : ab_fp g_G "TurnRingModel" "<init>" 45 11 24 (ty_Mo 24) := ⟨"TurnRingModel", tf_Mo, 37, ty_Mo, rfl, by decide, uw_Mo, tk_Mo, nm_Mo, rfl, Or.inr ⟨g_memT (g_t5 82 rfl) rfl, rfl, rfl, rfl⟩⟩
theorem lk_Mo_48 : ab_lk g_G "TurnRingModel" 48 (tf_Mo 25) := Or.inl (g_memT (g_t5 83 rfl) rfl)
theorem fl_Mo_48 : ab_fl g_G "TurnRingModel" 48 11 25 := ⟨"TurnRingModel", tf_Mo, 37, rfl, by decide, uw_Mo, lk_Mo_48⟩
theorem fp_Mo_48 : ab_fp g_G "TurnRingModel" "<init>" 48 11 25 (ty_Mo 25) := ⟨"TurnRingModel", tf_Mo, 37, ty_Mo, rfl, by decide, uw_Mo, tk_Mo, nm_Mo, rfl, Or.inr ⟨g_memT (g_t5 83 rfl) rfl, rfl, rfl, rfl⟩⟩
theorem lk_Mo_51 : ab_lk g_G "TurnRingModel" 51 (tf_Mo 26) := Or.inl (g_memT (g_t5 84 rfl) rfl)
theorem fl_Mo_51 : ab_fl g_G "TurnRingModel" 51 11 26 := ⟨"TurnRingModel", tf_Mo, 37, rfl, by decide, uw_Mo, lk_Mo_51⟩
theorem fp_Mo_51 : ab_fp g_G "TurnRingModel" "<init>" 51 11 26 (ty_Mo 26) := ⟨"TurnRingModel", tf_Mo, 37, ty_Mo, rfl, by decide, uw_Mo, tk_Mo, nm_Mo, rfl, Or.inr ⟨g_memT (g_t5 84 rfl) rfl, rfl, rfl, rfl⟩⟩
theorem lk_Mo_54 : ab_lk g_G "TurnRingModel" 54 (tf_Mo 27) := Or.inl (g_memT (g_t5 85 rfl) rfl)
theorem fl_Mo_54 : ab_fl g_G "TurnRingModel" 54 11 27 := ⟨"TurnRingModel", tf_Mo, 37, rfl, by decide, uw_Mo, lk_Mo_54⟩
theorem fp_Mo_54 : ab_fp g_G "TurnRingModel" "<init>" 54 11 27 (ty_Mo 27) := ⟨"TurnRingModel", tf_Mo, 37, ty_Mo, rfl, by decide, uw_Mo, tk_Mo, nm_Mo, rfl, Or.inr ⟨g_memT (g_t5 85 rfl) rfl, rfl, rfl, rfl⟩⟩
theorem lk_Mo_57 : ab_lk g_G "TurnRingModel" 57 (tf_Mo 28) := Or.inl (g_memT (g_t5 86 rfl) rfl)
theorem fl_Mo_57 : ab_fl g_G "TurnRingModel" 57 11 28 := ⟨"TurnRingModel", tf_Mo, 37, rfl, by decide, uw_Mo, lk_Mo_57⟩
theorem fp_Mo_57 : ab_fp g_G "TurnRingModel" "<init>" 57 11 28 (ty_Mo 28) := ⟨"TurnRingModel", tf_Mo, 37, ty_Mo, rfl, by decide, uw_Mo, tk_Mo, nm_Mo, rfl, Or.inr ⟨g_memT (g_t5 86 rfl) rfl, rfl, rfl, rfl⟩⟩
theorem lk_Mo_60 : ab_lk g_G "TurnRingModel" 60 (tf_Mo 29) := Or.inl (g_memT (g_t5 87 rfl) rfl)
theorem fl_Mo_60 : ab_fl g_G "TurnRingModel" 60 11 29 := ⟨"TurnRingModel", tf_Mo, 37, rfl, by decide, uw_Mo, lk_Mo_60⟩
theorem fp_Mo_60 : ab_fp g_G "TurnRingModel" "<init>" 60 11 29 (ty_Mo 29) := ⟨"TurnRingModel", tf_Mo, 37, ty_Mo, rfl, by decide, uw_Mo, tk_Mo, nm_Mo, rfl, Or.inr ⟨g_memT (g_t5 87 rfl) rfl, rfl, rfl, rfl⟩⟩
theorem lk_Mo_63 : ab_lk g_G "TurnRingModel" 63 (tf_Mo 30) := Or.inl (g_memT (g_t5 88 rfl) rfl)
theorem fl_Mo_63 : ab_fl g_G "TurnRingModel" 63 11 30 := ⟨"TurnRingModel", tf_Mo, 37, rfl, by decide, uw_Mo, lk_Mo_63⟩
theorem fp_Mo_63 : ab_fp g_G "TurnRingModel" "<init>" 63 11 30 (ty_Mo 30) := ⟨"TurnRingModel", tf_Mo, 37, ty_Mo, rfl, by decide, uw_Mo, tk_Mo, nm_Mo, rfl, Or.inr ⟨g_memT (g_t5 88 rfl) rfl, rfl, rfl, rfl⟩⟩
theorem lk_Mo_420 : ab_lk g_G "TurnRingModel" 420 (tf_Mo 31) := Or.inl (g_memT (g_t5 89 rfl) rfl)
theorem fl_Mo_420 : ab_fl g_G "TurnRingModel" 420 11 31 := ⟨"TurnRingModel", tf_Mo, 37, rfl, by decide, uw_Mo, lk_Mo_420⟩
theorem fp_Mo_420 (nm : String) : ab_fp g_G "TurnRingModel" nm 420 11 31 (ty_Mo 31) := ⟨"TurnRingModel", tf_Mo, 37, ty_Mo, rfl, by decide, uw_Mo, tk_Mo, nm_Mo, rfl, Or.inl ⟨lk_Mo_420, rfl⟩⟩
theorem lk_Mo_423 : ab_lk g_G "TurnRingModel" 423 (tf_Mo 32) := Or.inl (g_memT (g_t5 90 rfl) rfl)
theorem fl_Mo_423 : ab_fl g_G "TurnRingModel" 423 11 32 := ⟨"TurnRingModel", tf_Mo, 37, rfl, by decide, uw_Mo, lk_Mo_423⟩
theorem fp_Mo_423 (nm : String) : ab_fp g_G "TurnRingModel" nm 423 11 32 (ty_Mo 32) := ⟨"TurnRingModel", tf_Mo, 37, ty_Mo, rfl, by decide, uw_Mo, tk_Mo, nm_Mo, rfl, Or.inl ⟨lk_Mo_423, rfl⟩⟩
theorem lk_Mo_468 : ab_lk g_G "TurnRingModel" 468 (tf_Mo 33) := Or.inl (g_memT (g_t5 91 rfl) rfl)
theorem fl_Mo_468 : ab_fl g_G "TurnRingModel" 468 11 33 := ⟨"TurnRingModel", tf_Mo, 37, rfl, by decide, uw_Mo, lk_Mo_468⟩
theorem fp_Mo_468 (nm : String) : ab_fp g_G "TurnRingModel" nm 468 11 33 (ty_Mo 33) := ⟨"TurnRingModel", tf_Mo, 37, ty_Mo, rfl, by decide, uw_Mo, tk_Mo, nm_Mo, rfl, Or.inl ⟨lk_Mo_468, rfl⟩⟩
theorem lk_Mo_66 : ab_lk g_G "TurnRingModel" 66 (tf_Mo 34) := Or.inl (g_memT (g_t5 92 rfl) rfl)
theorem fl_Mo_66 : ab_fl g_G "TurnRingModel" 66 11 34 := ⟨"TurnRingModel", tf_Mo, 37, rfl, by decide, uw_Mo, lk_Mo_66⟩
theorem fp_Mo_66 : ab_fp g_G "TurnRingModel" "<init>" 66 11 34 (ty_Mo 34) := ⟨"TurnRingModel", tf_Mo, 37, ty_Mo, rfl, by decide, uw_Mo, tk_Mo, nm_Mo, rfl, Or.inr ⟨g_memT (g_t5 92 rfl) rfl, rfl, rfl, rfl⟩⟩
theorem lk_Mo_69 : ab_lk g_G "TurnRingModel" 69 (tf_Mo 35) := Or.inl (g_memT (g_t5 93 rfl) rfl)
theorem fl_Mo_69 : ab_fl g_G "TurnRingModel" 69 11 35 := ⟨"TurnRingModel", tf_Mo, 37, rfl, by decide, uw_Mo, lk_Mo_69⟩
theorem fp_Mo_69 : ab_fp g_G "TurnRingModel" "<init>" 69 11 35 (ty_Mo 35) := ⟨"TurnRingModel", tf_Mo, 37, ty_Mo, rfl, by decide, uw_Mo, tk_Mo, nm_Mo, rfl, Or.inr ⟨g_memT (g_t5 93 rfl) rfl, rfl, rfl, rfl⟩⟩
theorem lk_Mo_72 : ab_lk g_G "TurnRingModel" 72 (tf_Mo 36) := Or.inl (g_memT (g_t5 94 rfl) rfl)
theorem fl_Mo_72 : ab_fl g_G "TurnRingModel" 72 11 36 := ⟨"TurnRingModel", tf_Mo, 37, rfl, by decide, uw_Mo, lk_Mo_72⟩
theorem fp_Mo_72 : ab_fp g_G "TurnRingModel" "<init>" 72 11 36 (ty_Mo 36) := ⟨"TurnRingModel", tf_Mo, 37, ty_Mo, rfl, by decide, uw_Mo, tk_Mo, nm_Mo, rfl, Or.inr ⟨g_memT (g_t5 94 rfl) rfl, rfl, rfl, rfl⟩⟩
theorem cd_Tu_init : Cond.code mt_Tu_init.1 mt_Tu_init.2.1 mt_Tu_init.2.2.1 mt_Tu_init.2.2.2 ∈ g_G.2.1 := g_memT (g_t1 26 rfl) rfl
theorem im_Tu_init : Cond.instanceMethod mt_Tu_init.1 ∈ g_G.2.1 := g_memT (g_t1 25 rfl) rfl
theorem cd_Ta_init : Cond.code mt_Ta_init.1 mt_Ta_init.2.1 mt_Ta_init.2.2.1 mt_Ta_init.2.2.2 ∈ g_G.2.1 := g_memT (g_t1 34 rfl) rfl
theorem im_Ta_init : Cond.instanceMethod mt_Ta_init.1 ∈ g_G.2.1 := g_memT (g_t1 33 rfl) rfl
theorem cd_Ri_init : Cond.code mt_Ri_init.1 mt_Ri_init.2.1 mt_Ri_init.2.2.1 mt_Ri_init.2.2.2 ∈ g_G.2.1 := g_memT (g_t1 79 rfl) rfl
theorem im_Ri_init : Cond.instanceMethod mt_Ri_init.1 ∈ g_G.2.1 := g_memT (g_t1 78 rfl) rfl
theorem cd_Di_init : Cond.code mt_Di_init.1 mt_Di_init.2.1 mt_Di_init.2.2.1 mt_Di_init.2.2.2 ∈ g_G.2.1 := g_memT (g_t1 85 rfl) rfl
theorem im_Di_init : Cond.instanceMethod mt_Di_init.1 ∈ g_G.2.1 := g_memT (g_t1 84 rfl) rfl
theorem cd_Ac_init : Cond.code mt_Ac_init.1 mt_Ac_init.2.1 mt_Ac_init.2.2.1 mt_Ac_init.2.2.2 ∈ g_G.2.1 := g_memT (g_t1 213 rfl) rfl
theorem im_Ac_init : Cond.instanceMethod mt_Ac_init.1 ∈ g_G.2.1 := g_memT (g_t1 212 rfl) rfl
theorem cd_Ru_init : Cond.code mt_Ru_init.1 mt_Ru_init.2.1 mt_Ru_init.2.2.1 mt_Ru_init.2.2.2 ∈ g_G.2.1 := g_memT (g_t1 237 rfl) rfl
theorem im_Ru_init : Cond.instanceMethod mt_Ru_init.1 ∈ g_G.2.1 := g_memT (g_t1 236 rfl) rfl
theorem cd_Ma_init : Cond.code mt_Ma_init.1 mt_Ma_init.2.1 mt_Ma_init.2.2.1 mt_Ma_init.2.2.2 ∈ g_G.2.1 := g_memT (g_t2 13 rfl) rfl
theorem im_Ma_init : Cond.instanceMethod mt_Ma_init.1 ∈ g_G.2.1 := g_memT (g_t2 12 rfl) rfl
theorem cd_Pl_init : Cond.code mt_Pl_init.1 mt_Pl_init.2.1 mt_Pl_init.2.2.1 mt_Pl_init.2.2.2 ∈ g_G.2.1 := g_memT (g_t2 26 rfl) rfl
theorem im_Pl_init : Cond.instanceMethod mt_Pl_init.1 ∈ g_G.2.1 := g_memT (g_t2 25 rfl) rfl
theorem cd_Tr_init : Cond.code mt_Tr_init.1 mt_Tr_init.2.1 mt_Tr_init.2.2.1 mt_Tr_init.2.2.2 ∈ g_G.2.1 := g_memT (g_t2 50 rfl) rfl
theorem im_Tr_init : Cond.instanceMethod mt_Tr_init.1 ∈ g_G.2.1 := g_memT (g_t2 49 rfl) rfl
theorem cd_Gu_init : Cond.code mt_Gu_init.1 mt_Gu_init.2.1 mt_Gu_init.2.2.1 mt_Gu_init.2.2.2 ∈ g_G.2.1 := g_memT (g_t2 74 rfl) rfl
theorem im_Gu_init : Cond.instanceMethod mt_Gu_init.1 ∈ g_G.2.1 := g_memT (g_t2 73 rfl) rfl
theorem cd_Tu_feed : Cond.code mt_Tu_feed.1 mt_Tu_feed.2.1 mt_Tu_feed.2.2.1 mt_Tu_feed.2.2.2 ∈ g_G.2.1 := g_memT (g_t2 143 rfl) rfl
theorem im_Tu_feed : Cond.instanceMethod mt_Tu_feed.1 ∈ g_G.2.1 := g_memT (g_t2 141 rfl) rfl
theorem se_Tu_feed : Cond.selects mt_Tu_feed.1.cls mt_Tu_feed.1 mt_Tu_feed.1 ∈ g_G.2.1 := g_memT (g_t2 142 rfl) rfl
theorem cd_Ta_putBytes : Cond.code mt_Ta_putBytes.1 mt_Ta_putBytes.2.1 mt_Ta_putBytes.2.2.1 mt_Ta_putBytes.2.2.2 ∈ g_G.2.1 := g_memT (g_t2 147 rfl) rfl
theorem im_Ta_putBytes : Cond.instanceMethod mt_Ta_putBytes.1 ∈ g_G.2.1 := g_memT (g_t2 145 rfl) rfl
theorem se_Ta_putBytes : Cond.selects mt_Ta_putBytes.1.cls mt_Ta_putBytes.1 mt_Ta_putBytes.1 ∈ g_G.2.1 := g_memT (g_t2 146 rfl) rfl
theorem cd_Tu_end : Cond.code mt_Tu_end.1 mt_Tu_end.2.1 mt_Tu_end.2.2.1 mt_Tu_end.2.2.2 ∈ g_G.2.1 := g_memT (g_t2 151 rfl) rfl
theorem im_Tu_end : Cond.instanceMethod mt_Tu_end.1 ∈ g_G.2.1 := g_memT (g_t2 149 rfl) rfl
theorem se_Tu_end : Cond.selects mt_Tu_end.1.cls mt_Tu_end.1 mt_Tu_end.1 ∈ g_G.2.1 := g_memT (g_t2 150 rfl) rfl
theorem cd_Tu_ring : Cond.code mt_Tu_ring.1 mt_Tu_ring.2.1 mt_Tu_ring.2.2.1 mt_Tu_ring.2.2.2 ∈ g_G.2.1 := g_memT (g_t2 155 rfl) rfl
theorem im_Tu_ring : Cond.instanceMethod mt_Tu_ring.1 ∈ g_G.2.1 := g_memT (g_t2 153 rfl) rfl
theorem se_Tu_ring : Cond.selects mt_Tu_ring.1.cls mt_Tu_ring.1 mt_Tu_ring.1 ∈ g_G.2.1 := g_memT (g_t2 154 rfl) rfl
theorem cd_Rr_readAll : Cond.code mt_Rr_readAll.1 mt_Rr_readAll.2.1 mt_Rr_readAll.2.2.1 mt_Rr_readAll.2.2.2 ∈ g_G.2.1 := g_memT (g_t2 158 rfl) rfl
theorem sc_Rr_readAll : Cond.static mt_Rr_readAll.1 ∈ g_G.2.1 := g_memT (g_t2 157 rfl) rfl
theorem cd_Ta_begin : Cond.code mt_Ta_begin.1 mt_Ta_begin.2.1 mt_Ta_begin.2.2.1 mt_Ta_begin.2.2.2 ∈ g_G.2.1 := g_memT (g_t2 163 rfl) rfl
theorem im_Ta_begin : Cond.instanceMethod mt_Ta_begin.1 ∈ g_G.2.1 := g_memT (g_t2 161 rfl) rfl
theorem se_Ta_begin : Cond.selects mt_Ta_begin.1.cls mt_Ta_begin.1 mt_Ta_begin.1 ∈ g_G.2.1 := g_memT (g_t2 162 rfl) rfl
theorem cd_Ta_advance : Cond.code mt_Ta_advance.1 mt_Ta_advance.2.1 mt_Ta_advance.2.2.1 mt_Ta_advance.2.2.2 ∈ g_G.2.1 := g_memT (g_t2 167 rfl) rfl
theorem im_Ta_advance : Cond.instanceMethod mt_Ta_advance.1 ∈ g_G.2.1 := g_memT (g_t2 165 rfl) rfl
theorem se_Ta_advance : Cond.selects mt_Ta_advance.1.cls mt_Ta_advance.1 mt_Ta_advance.1 ∈ g_G.2.1 := g_memT (g_t2 166 rfl) rfl
theorem cd_Ta_readNumber : Cond.code mt_Ta_readNumber.1 mt_Ta_readNumber.2.1 mt_Ta_readNumber.2.2.1 mt_Ta_readNumber.2.2.2 ∈ g_G.2.1 := g_memT (g_t2 171 rfl) rfl
theorem im_Ta_readNumber : Cond.instanceMethod mt_Ta_readNumber.1 ∈ g_G.2.1 := g_memT (g_t2 170 rfl) rfl
theorem se_Ta_readNumber : Cond.selects mt_Ta_readNumber.1.cls mt_Ta_readNumber.1 mt_Ta_readNumber.1 ∈ g_G.2.1 := g_memT (g_t0 0 rfl) rfl
theorem cd_Ta_readWord : Cond.code mt_Ta_readWord.1 mt_Ta_readWord.2.1 mt_Ta_readWord.2.2.1 mt_Ta_readWord.2.2.2 ∈ g_G.2.1 := g_memT (g_t2 175 rfl) rfl
theorem im_Ta_readWord : Cond.instanceMethod mt_Ta_readWord.1 ∈ g_G.2.1 := g_memT (g_t2 174 rfl) rfl
theorem se_Ta_readWord : Cond.selects mt_Ta_readWord.1.cls mt_Ta_readWord.1 mt_Ta_readWord.1 ∈ g_G.2.1 := g_memT (g_t0 1 rfl) rfl
theorem cd_St_length : Cond.code mt_St_length.1 mt_St_length.2.1 mt_St_length.2.2.1 mt_St_length.2.2.2 ∈ g_G.2.1 := g_memT (g_t2 179 rfl) rfl
theorem im_St_length : Cond.instanceMethod mt_St_length.1 ∈ g_G.2.1 := g_memT (g_t2 177 rfl) rfl
theorem se_St_length : Cond.selects mt_St_length.1.cls mt_St_length.1 mt_St_length.1 ∈ g_G.2.1 := g_memT (g_t2 178 rfl) rfl
theorem cd_St_coder : Cond.code mt_St_coder.1 mt_St_coder.2.1 mt_St_coder.2.2.1 mt_St_coder.2.2.2 ∈ g_G.2.1 := g_memT (g_t2 183 rfl) rfl
theorem im_St_coder : Cond.instanceMethod mt_St_coder.1 ∈ g_G.2.1 := g_memT (g_t2 181 rfl) rfl
theorem se_St_coder : Cond.selects mt_St_coder.1.cls mt_St_coder.1 mt_St_coder.1 ∈ g_G.2.1 := g_memT (g_t2 182 rfl) rfl
theorem cd_St_charAt : Cond.code mt_St_charAt.1 mt_St_charAt.2.1 mt_St_charAt.2.2.1 mt_St_charAt.2.2.2 ∈ g_G.2.1 := g_memT (g_t2 189 rfl) rfl
theorem im_St_charAt : Cond.instanceMethod mt_St_charAt.1 ∈ g_G.2.1 := g_memT (g_t2 187 rfl) rfl
theorem se_St_charAt : Cond.selects mt_St_charAt.1.cls mt_St_charAt.1 mt_St_charAt.1 ∈ g_G.2.1 := g_memT (g_t2 188 rfl) rfl
theorem cd_St_isLatin1 : Cond.code mt_St_isLatin1.1 mt_St_isLatin1.2.1 mt_St_isLatin1.2.2.1 mt_St_isLatin1.2.2.2 ∈ g_G.2.1 := g_memT (g_t2 193 rfl) rfl
theorem im_St_isLatin1 : Cond.instanceMethod mt_St_isLatin1.1 ∈ g_G.2.1 := g_memT (g_t2 191 rfl) rfl
theorem se_St_isLatin1 : Cond.selects mt_St_isLatin1.1.cls mt_St_isLatin1.1 mt_St_isLatin1.1 ∈ g_G.2.1 := g_memT (g_t2 192 rfl) rfl
theorem cd_Sl_charAt : Cond.code mt_Sl_charAt.1 mt_Sl_charAt.2.1 mt_Sl_charAt.2.2.1 mt_Sl_charAt.2.2.2 ∈ g_G.2.1 := g_memT (g_t2 196 rfl) rfl
theorem sc_Sl_charAt : Cond.static mt_Sl_charAt.1 ∈ g_G.2.1 := g_memT (g_t2 195 rfl) rfl
theorem cd_St_checkIndex : Cond.code mt_St_checkIndex.1 mt_St_checkIndex.2.1 mt_St_checkIndex.2.2.1 mt_St_checkIndex.2.2.2 ∈ g_G.2.1 := g_memT (g_t2 199 rfl) rfl
theorem sc_St_checkIndex : Cond.static mt_St_checkIndex.1 ∈ g_G.2.1 := g_memT (g_t2 198 rfl) rfl
theorem cd_Zz_checkIndex : Cond.code mt_Zz_checkIndex.1 mt_Zz_checkIndex.2.1 mt_Zz_checkIndex.2.2.1 mt_Zz_checkIndex.2.2.2 ∈ g_G.2.1 := g_memT (g_t2 204 rfl) rfl
theorem sc_Zz_checkIndex : Cond.static mt_Zz_checkIndex.1 ∈ g_G.2.1 := g_memT (g_t2 203 rfl) rfl
theorem cd_Su_charAt : Cond.code mt_Su_charAt.1 mt_Su_charAt.2.1 mt_Su_charAt.2.2.1 mt_Su_charAt.2.2.2 ∈ g_G.2.1 := g_memT (g_t2 207 rfl) rfl
theorem sc_Su_charAt : Cond.static mt_Su_charAt.1 ∈ g_G.2.1 := g_memT (g_t2 206 rfl) rfl
theorem cd_Su_checkIndex : Cond.code mt_Su_checkIndex.1 mt_Su_checkIndex.2.1 mt_Su_checkIndex.2.2.1 mt_Su_checkIndex.2.2.2 ∈ g_G.2.1 := g_memT (g_t2 210 rfl) rfl
theorem sc_Su_checkIndex : Cond.static mt_Su_checkIndex.1 ∈ g_G.2.1 := g_memT (g_t2 209 rfl) rfl
theorem cd_Su_length : Cond.code mt_Su_length.1 mt_Su_length.2.1 mt_Su_length.2.2.1 mt_Su_length.2.2.2 ∈ g_G.2.1 := g_memT (g_t2 213 rfl) rfl
theorem sc_Su_length : Cond.static mt_Su_length.1 ∈ g_G.2.1 := g_memT (g_t2 212 rfl) rfl
theorem cd_Su_getChar : Cond.code mt_Su_getChar.1 mt_Su_getChar.2.1 mt_Su_getChar.2.2.1 mt_Su_getChar.2.2.2 ∈ g_G.2.1 := g_memT (g_t2 217 rfl) rfl
theorem sc_Su_getChar : Cond.static mt_Su_getChar.1 ∈ g_G.2.1 := g_memT (g_t2 216 rfl) rfl
theorem cd_Ta_readSign : Cond.code mt_Ta_readSign.1 mt_Ta_readSign.2.1 mt_Ta_readSign.2.2.1 mt_Ta_readSign.2.2.2 ∈ g_G.2.1 := g_memT (g_t2 227 rfl) rfl
theorem im_Ta_readSign : Cond.instanceMethod mt_Ta_readSign.1 ∈ g_G.2.1 := g_memT (g_t2 226 rfl) rfl
theorem se_Ta_readSign : Cond.selects mt_Ta_readSign.1.cls mt_Ta_readSign.1 mt_Ta_readSign.1 ∈ g_G.2.1 := g_memT (g_t0 2 rfl) rfl
theorem cd_Ri_clear : Cond.code mt_Ri_clear.1 mt_Ri_clear.2.1 mt_Ri_clear.2.2.1 mt_Ri_clear.2.2.2 ∈ g_G.2.1 := g_memT (g_t2 231 rfl) rfl
theorem im_Ri_clear : Cond.instanceMethod mt_Ri_clear.1 ∈ g_G.2.1 := g_memT (g_t2 229 rfl) rfl
theorem se_Ri_clear : Cond.selects mt_Ri_clear.1.cls mt_Ri_clear.1 mt_Ri_clear.1 ∈ g_G.2.1 := g_memT (g_t2 230 rfl) rfl
theorem cd_Ar_fill_AIIV : Cond.code mt_Ar_fill_AIIV.1 mt_Ar_fill_AIIV.2.1 mt_Ar_fill_AIIV.2.2.1 mt_Ar_fill_AIIV.2.2.2 ∈ g_G.2.1 := g_memT (g_t2 234 rfl) rfl
theorem sc_Ar_fill_AIIV : Cond.static mt_Ar_fill_AIIV.1 ∈ g_G.2.1 := g_memT (g_t2 233 rfl) rfl
theorem cd_Ar_fill_AJJV : Cond.code mt_Ar_fill_AJJV.1 mt_Ar_fill_AJJV.2.1 mt_Ar_fill_AJJV.2.2.1 mt_Ar_fill_AJJV.2.2.2 ∈ g_G.2.1 := g_memT (g_t2 237 rfl) rfl
theorem sc_Ar_fill_AJJV : Cond.static mt_Ar_fill_AJJV.1 ∈ g_G.2.1 := g_memT (g_t2 236 rfl) rfl
theorem cd_Ta_fail : Cond.code mt_Ta_fail.1 mt_Ta_fail.2.1 mt_Ta_fail.2.2.1 mt_Ta_fail.2.2.2 ∈ g_G.2.1 := g_memT (g_t3 1 rfl) rfl
theorem im_Ta_fail : Cond.instanceMethod mt_Ta_fail.1 ∈ g_G.2.1 := g_memT (g_t2 239 rfl) rfl
theorem se_Ta_fail : Cond.selects mt_Ta_fail.1.cls mt_Ta_fail.1 mt_Ta_fail.1 ∈ g_G.2.1 := g_memT (g_t3 0 rfl) rfl
theorem cd_Rr_mayFollow : Cond.code mt_Rr_mayFollow.1 mt_Rr_mayFollow.2.1 mt_Rr_mayFollow.2.2.1 mt_Rr_mayFollow.2.2.2 ∈ g_G.2.1 := g_memT (g_t3 4 rfl) rfl
theorem sc_Rr_mayFollow : Cond.static mt_Rr_mayFollow.1 ∈ g_G.2.1 := g_memT (g_t3 3 rfl) rfl
theorem cd_Rr_readRest : Cond.code mt_Rr_readRest.1 mt_Rr_readRest.2.1 mt_Rr_readRest.2.2.1 mt_Rr_readRest.2.2.2 ∈ g_G.2.1 := g_memT (g_t3 8 rfl) rfl
theorem sc_Rr_readRest : Cond.static mt_Rr_readRest.1 ∈ g_G.2.1 := g_memT (g_t3 7 rfl) rfl
theorem cd_Ta_takeNumber : Cond.code mt_Ta_takeNumber.1 mt_Ta_takeNumber.2.1 mt_Ta_takeNumber.2.2.1 mt_Ta_takeNumber.2.2.2 ∈ g_G.2.1 := g_memT (g_t3 12 rfl) rfl
theorem im_Ta_takeNumber : Cond.instanceMethod mt_Ta_takeNumber.1 ∈ g_G.2.1 := g_memT (g_t3 10 rfl) rfl
theorem se_Ta_takeNumber : Cond.selects mt_Ta_takeNumber.1.cls mt_Ta_takeNumber.1 mt_Ta_takeNumber.1 ∈ g_G.2.1 := g_memT (g_t3 11 rfl) rfl
theorem cd_Mh_max_III : Cond.code mt_Mh_max_III.1 mt_Mh_max_III.2.1 mt_Mh_max_III.2.2.1 mt_Mh_max_III.2.2.2 ∈ g_G.2.1 := g_memT (g_t3 16 rfl) rfl
theorem sc_Mh_max_III : Cond.static mt_Mh_max_III.1 ∈ g_G.2.1 := g_memT (g_t3 15 rfl) rfl
theorem cd_Rr_readHouse : Cond.code mt_Rr_readHouse.1 mt_Rr_readHouse.2.1 mt_Rr_readHouse.2.2.1 mt_Rr_readHouse.2.2.2 ∈ g_G.2.1 := g_memT (g_t3 19 rfl) rfl
theorem sc_Rr_readHouse : Cond.static mt_Rr_readHouse.1 ∈ g_G.2.1 := g_memT (g_t3 18 rfl) rfl
theorem cd_Ri_slotTaken : Cond.code mt_Ri_slotTaken.1 mt_Ri_slotTaken.2.1 mt_Ri_slotTaken.2.2.1 mt_Ri_slotTaken.2.2.2 ∈ g_G.2.1 := g_memT (g_t3 23 rfl) rfl
theorem im_Ri_slotTaken : Cond.instanceMethod mt_Ri_slotTaken.1 ∈ g_G.2.1 := g_memT (g_t3 21 rfl) rfl
theorem se_Ri_slotTaken : Cond.selects mt_Ri_slotTaken.1.cls mt_Ri_slotTaken.1 mt_Ri_slotTaken.1 ∈ g_G.2.1 := g_memT (g_t3 22 rfl) rfl
theorem cd_Ri_addHouse : Cond.code mt_Ri_addHouse.1 mt_Ri_addHouse.2.1 mt_Ri_addHouse.2.2.1 mt_Ri_addHouse.2.2.2 ∈ g_G.2.1 := g_memT (g_t3 27 rfl) rfl
theorem im_Ri_addHouse : Cond.instanceMethod mt_Ri_addHouse.1 ∈ g_G.2.1 := g_memT (g_t3 25 rfl) rfl
theorem se_Ri_addHouse : Cond.selects mt_Ri_addHouse.1.cls mt_Ri_addHouse.1 mt_Ri_addHouse.1 ∈ g_G.2.1 := g_memT (g_t3 26 rfl) rfl
theorem cd_Rr_readSight : Cond.code mt_Rr_readSight.1 mt_Rr_readSight.2.1 mt_Rr_readSight.2.2.1 mt_Rr_readSight.2.2.2 ∈ g_G.2.1 := g_memT (g_t3 30 rfl) rfl
theorem sc_Rr_readSight : Cond.static mt_Rr_readSight.1 ∈ g_G.2.1 := g_memT (g_t3 29 rfl) rfl
theorem cd_Ri_addSight : Cond.code mt_Ri_addSight.1 mt_Ri_addSight.2.1 mt_Ri_addSight.2.2.1 mt_Ri_addSight.2.2.2 ∈ g_G.2.1 := g_memT (g_t3 34 rfl) rfl
theorem im_Ri_addSight : Cond.instanceMethod mt_Ri_addSight.1 ∈ g_G.2.1 := g_memT (g_t3 32 rfl) rfl
theorem se_Ri_addSight : Cond.selects mt_Ri_addSight.1.cls mt_Ri_addSight.1 mt_Ri_addSight.1 ∈ g_G.2.1 := g_memT (g_t3 33 rfl) rfl
theorem cd_Rr_readLiking : Cond.code mt_Rr_readLiking.1 mt_Rr_readLiking.2.1 mt_Rr_readLiking.2.2.1 mt_Rr_readLiking.2.2.2 ∈ g_G.2.1 := g_memT (g_t3 37 rfl) rfl
theorem sc_Rr_readLiking : Cond.static mt_Rr_readLiking.1 ∈ g_G.2.1 := g_memT (g_t3 36 rfl) rfl
theorem cd_Rr_readGate : Cond.code mt_Rr_readGate.1 mt_Rr_readGate.2.1 mt_Rr_readGate.2.2.1 mt_Rr_readGate.2.2.2 ∈ g_G.2.1 := g_memT (g_t3 40 rfl) rfl
theorem sc_Rr_readGate : Cond.static mt_Rr_readGate.1 ∈ g_G.2.1 := g_memT (g_t3 39 rfl) rfl
theorem cd_Rr_readRate : Cond.code mt_Rr_readRate.1 mt_Rr_readRate.2.1 mt_Rr_readRate.2.2.1 mt_Rr_readRate.2.2.2 ∈ g_G.2.1 := g_memT (g_t3 43 rfl) rfl
theorem sc_Rr_readRate : Cond.static mt_Rr_readRate.1 ∈ g_G.2.1 := g_memT (g_t3 42 rfl) rfl
theorem cd_Ri_setRates : Cond.code mt_Ri_setRates.1 mt_Ri_setRates.2.1 mt_Ri_setRates.2.2.1 mt_Ri_setRates.2.2.2 ∈ g_G.2.1 := g_memT (g_t3 47 rfl) rfl
theorem im_Ri_setRates : Cond.instanceMethod mt_Ri_setRates.1 ∈ g_G.2.1 := g_memT (g_t3 45 rfl) rfl
theorem se_Ri_setRates : Cond.selects mt_Ri_setRates.1.cls mt_Ri_setRates.1 mt_Ri_setRates.1 ∈ g_G.2.1 := g_memT (g_t3 46 rfl) rfl
theorem cd_Ac_forget : Cond.code mt_Ac_forget.1 mt_Ac_forget.2.1 mt_Ac_forget.2.2.1 mt_Ac_forget.2.2.2 ∈ g_G.2.1 := g_memT (g_t3 51 rfl) rfl
theorem im_Ac_forget : Cond.instanceMethod mt_Ac_forget.1 ∈ g_G.2.1 := g_memT (g_t3 49 rfl) rfl
theorem se_Ac_forget : Cond.selects mt_Ac_forget.1.cls mt_Ac_forget.1 mt_Ac_forget.1 ∈ g_G.2.1 := g_memT (g_t3 50 rfl) rfl
theorem cd_Tu_rule : Cond.code mt_Tu_rule.1 mt_Tu_rule.2.1 mt_Tu_rule.2.2.1 mt_Tu_rule.2.2.2 ∈ g_G.2.1 := g_memT (g_t3 55 rfl) rfl
theorem im_Tu_rule : Cond.instanceMethod mt_Tu_rule.1 ∈ g_G.2.1 := g_memT (g_t3 53 rfl) rfl
theorem se_Tu_rule : Cond.selects mt_Tu_rule.1.cls mt_Tu_rule.1 mt_Tu_rule.1 ∈ g_G.2.1 := g_memT (g_t3 54 rfl) rfl
theorem cd_Ru_readAll : Cond.code mt_Ru_readAll.1 mt_Ru_readAll.2.1 mt_Ru_readAll.2.2.1 mt_Ru_readAll.2.2.2 ∈ g_G.2.1 := g_memT (g_t3 59 rfl) rfl
theorem im_Ru_readAll : Cond.instanceMethod mt_Ru_readAll.1 ∈ g_G.2.1 := g_memT (g_t3 57 rfl) rfl
theorem se_Ru_readAll : Cond.selects mt_Ru_readAll.1.cls mt_Ru_readAll.1 mt_Ru_readAll.1 ∈ g_G.2.1 := g_memT (g_t3 58 rfl) rfl
theorem cd_Ru_readSum : Cond.code mt_Ru_readSum.1 mt_Ru_readSum.2.1 mt_Ru_readSum.2.2.1 mt_Ru_readSum.2.2.2 ∈ g_G.2.1 := g_memT (g_t3 67 rfl) rfl
theorem im_Ru_readSum : Cond.instanceMethod mt_Ru_readSum.1 ∈ g_G.2.1 := g_memT (g_t3 66 rfl) rfl
theorem se_Ru_readSum : Cond.selects mt_Ru_readSum.1.cls mt_Ru_readSum.1 mt_Ru_readSum.1 ∈ g_G.2.1 := g_memT (g_t0 3 rfl) rfl
theorem cd_Ru_checkValue : Cond.code mt_Ru_checkValue.1 mt_Ru_checkValue.2.1 mt_Ru_checkValue.2.2.1 mt_Ru_checkValue.2.2.2 ∈ g_G.2.1 := g_memT (g_t3 71 rfl) rfl
theorem im_Ru_checkValue : Cond.instanceMethod mt_Ru_checkValue.1 ∈ g_G.2.1 := g_memT (g_t3 70 rfl) rfl
theorem se_Ru_checkValue : Cond.selects mt_Ru_checkValue.1.cls mt_Ru_checkValue.1 mt_Ru_checkValue.1 ∈ g_G.2.1 := g_memT (g_t0 4 rfl) rfl
theorem cd_Ru_countToken : Cond.code mt_Ru_countToken.1 mt_Ru_countToken.2.1 mt_Ru_countToken.2.2.1 mt_Ru_countToken.2.2.2 ∈ g_G.2.1 := g_memT (g_t3 75 rfl) rfl
theorem im_Ru_countToken : Cond.instanceMethod mt_Ru_countToken.1 ∈ g_G.2.1 := g_memT (g_t3 74 rfl) rfl
theorem se_Ru_countToken : Cond.selects mt_Ru_countToken.1.cls mt_Ru_countToken.1 mt_Ru_countToken.1 ∈ g_G.2.1 := g_memT (g_t0 5 rfl) rfl
theorem cd_Ru_emit : Cond.code mt_Ru_emit.1 mt_Ru_emit.2.1 mt_Ru_emit.2.2.1 mt_Ru_emit.2.2.2 ∈ g_G.2.1 := g_memT (g_t3 79 rfl) rfl
theorem im_Ru_emit : Cond.instanceMethod mt_Ru_emit.1 ∈ g_G.2.1 := g_memT (g_t3 78 rfl) rfl
theorem se_Ru_emit : Cond.selects mt_Ru_emit.1.cls mt_Ru_emit.1 mt_Ru_emit.1 ∈ g_G.2.1 := g_memT (g_t0 6 rfl) rfl
theorem cd_Ru_timingOf : Cond.code mt_Ru_timingOf.1 mt_Ru_timingOf.2.1 mt_Ru_timingOf.2.2.1 mt_Ru_timingOf.2.2.2 ∈ g_G.2.1 := g_memT (g_t3 82 rfl) rfl
theorem sc_Ru_timingOf : Cond.static mt_Ru_timingOf.1 ∈ g_G.2.1 := g_memT (g_t3 81 rfl) rfl
theorem cd_Ru_addingOf : Cond.code mt_Ru_addingOf.1 mt_Ru_addingOf.2.1 mt_Ru_addingOf.2.2.1 mt_Ru_addingOf.2.2.2 ∈ g_G.2.1 := g_memT (g_t3 85 rfl) rfl
theorem sc_Ru_addingOf : Cond.static mt_Ru_addingOf.1 ∈ g_G.2.1 := g_memT (g_t3 84 rfl) rfl
theorem cd_Ru_readTest : Cond.code mt_Ru_readTest.1 mt_Ru_readTest.2.1 mt_Ru_readTest.2.2.1 mt_Ru_readTest.2.2.2 ∈ g_G.2.1 := g_memT (g_t3 89 rfl) rfl
theorem im_Ru_readTest : Cond.instanceMethod mt_Ru_readTest.1 ∈ g_G.2.1 := g_memT (g_t3 88 rfl) rfl
theorem se_Ru_readTest : Cond.selects mt_Ru_readTest.1.cls mt_Ru_readTest.1 mt_Ru_readTest.1 ∈ g_G.2.1 := g_memT (g_t0 7 rfl) rfl
theorem cd_Ru_readFact : Cond.code mt_Ru_readFact.1 mt_Ru_readFact.2.1 mt_Ru_readFact.2.2.1 mt_Ru_readFact.2.2.2 ∈ g_G.2.1 := g_memT (g_t3 93 rfl) rfl
theorem im_Ru_readFact : Cond.instanceMethod mt_Ru_readFact.1 ∈ g_G.2.1 := g_memT (g_t3 92 rfl) rfl
theorem se_Ru_readFact : Cond.selects mt_Ru_readFact.1.cls mt_Ru_readFact.1 mt_Ru_readFact.1 ∈ g_G.2.1 := g_memT (g_t0 8 rfl) rfl
theorem cd_Ru_comparisonOf : Cond.code mt_Ru_comparisonOf.1 mt_Ru_comparisonOf.2.1 mt_Ru_comparisonOf.2.2.1 mt_Ru_comparisonOf.2.2.2 ∈ g_G.2.1 := g_memT (g_t3 96 rfl) rfl
theorem sc_Ru_comparisonOf : Cond.static mt_Ru_comparisonOf.1 ∈ g_G.2.1 := g_memT (g_t3 95 rfl) rfl
theorem cd_Ru_codeRead : Cond.code mt_Ru_codeRead.1 mt_Ru_codeRead.2.1 mt_Ru_codeRead.2.2.1 mt_Ru_codeRead.2.2.2 ∈ g_G.2.1 := g_memT (g_t3 101 rfl) rfl
theorem im_Ru_codeRead : Cond.instanceMethod mt_Ru_codeRead.1 ∈ g_G.2.1 := g_memT (g_t3 99 rfl) rfl
theorem se_Ru_codeRead : Cond.selects mt_Ru_codeRead.1.cls mt_Ru_codeRead.1 mt_Ru_codeRead.1 ∈ g_G.2.1 := g_memT (g_t3 100 rfl) rfl
theorem cd_Ar_copyOf : Cond.code mt_Ar_copyOf.1 mt_Ar_copyOf.2.1 mt_Ar_copyOf.2.2.1 mt_Ar_copyOf.2.2.2 ∈ g_G.2.1 := g_memT (g_t3 104 rfl) rfl
theorem sc_Ar_copyOf : Cond.static mt_Ar_copyOf.1 ∈ g_G.2.1 := g_memT (g_t3 103 rfl) rfl
theorem cd_Mh_min_III : Cond.code mt_Mh_min_III.1 mt_Mh_min_III.2.1 mt_Mh_min_III.2.2.1 mt_Mh_min_III.2.2.2 ∈ g_G.2.1 := g_memT (g_t3 114 rfl) rfl
theorem sc_Mh_min_III : Cond.static mt_Mh_min_III.1 ∈ g_G.2.1 := g_memT (g_t3 113 rfl) rfl
theorem cd_Ro_init : Cond.code mt_Ro_init.1 mt_Ro_init.2.1 mt_Ro_init.2.2.1 mt_Ro_init.2.2.2 ∈ g_G.2.1 := g_memT (g_t3 120 rfl) rfl
theorem im_Ro_init : Cond.instanceMethod mt_Ro_init.1 ∈ g_G.2.1 := g_memT (g_t3 119 rfl) rfl
theorem cd_Tu_house : Cond.code mt_Tu_house.1 mt_Tu_house.2.1 mt_Tu_house.2.2.1 mt_Tu_house.2.2.2 ∈ g_G.2.1 := g_memT (g_t3 130 rfl) rfl
theorem im_Tu_house : Cond.instanceMethod mt_Tu_house.1 ∈ g_G.2.1 := g_memT (g_t3 128 rfl) rfl
theorem se_Tu_house : Cond.selects mt_Tu_house.1.cls mt_Tu_house.1 mt_Tu_house.1 ∈ g_G.2.1 := g_memT (g_t3 129 rfl) rfl
theorem cd_Tu_hasHouse : Cond.code mt_Tu_hasHouse.1 mt_Tu_hasHouse.2.1 mt_Tu_hasHouse.2.2.1 mt_Tu_hasHouse.2.2.2 ∈ g_G.2.1 := g_memT (g_t3 134 rfl) rfl
theorem im_Tu_hasHouse : Cond.instanceMethod mt_Tu_hasHouse.1 ∈ g_G.2.1 := g_memT (g_t3 133 rfl) rfl
theorem se_Tu_hasHouse : Cond.selects mt_Tu_hasHouse.1.cls mt_Tu_hasHouse.1 mt_Tu_hasHouse.1 ∈ g_G.2.1 := g_memT (g_t0 9 rfl) rfl
theorem cd_Ri_facing : Cond.code mt_Ri_facing.1 mt_Ri_facing.2.1 mt_Ri_facing.2.2.1 mt_Ri_facing.2.2.2 ∈ g_G.2.1 := g_memT (g_t3 138 rfl) rfl
theorem im_Ri_facing : Cond.instanceMethod mt_Ri_facing.1 ∈ g_G.2.1 := g_memT (g_t3 136 rfl) rfl
theorem se_Ri_facing : Cond.selects mt_Ri_facing.1.cls mt_Ri_facing.1 mt_Ri_facing.1 ∈ g_G.2.1 := g_memT (g_t3 137 rfl) rfl
theorem cd_Tu_facedBy : Cond.code mt_Tu_facedBy.1 mt_Tu_facedBy.2.1 mt_Tu_facedBy.2.2.1 mt_Tu_facedBy.2.2.2 ∈ g_G.2.1 := g_memT (g_t3 141 rfl) rfl
theorem sc_Tu_facedBy : Cond.static mt_Tu_facedBy.1 ∈ g_G.2.1 := g_memT (g_t3 140 rfl) rfl
theorem cd_Ri_sortsAt : Cond.code mt_Ri_sortsAt.1 mt_Ri_sortsAt.2.1 mt_Ri_sortsAt.2.2.1 mt_Ri_sortsAt.2.2.2 ∈ g_G.2.1 := g_memT (g_t3 145 rfl) rfl
theorem im_Ri_sortsAt : Cond.instanceMethod mt_Ri_sortsAt.1 ∈ g_G.2.1 := g_memT (g_t3 143 rfl) rfl
theorem se_Ri_sortsAt : Cond.selects mt_Ri_sortsAt.1.cls mt_Ri_sortsAt.1 mt_Ri_sortsAt.1 ∈ g_G.2.1 := g_memT (g_t3 144 rfl) rfl
theorem cd_Ri_likesNow : Cond.code mt_Ri_likesNow.1 mt_Ri_likesNow.2.1 mt_Ri_likesNow.2.2.1 mt_Ri_likesNow.2.2.2 ∈ g_G.2.1 := g_memT (g_t3 149 rfl) rfl
theorem im_Ri_likesNow : Cond.instanceMethod mt_Ri_likesNow.1 ∈ g_G.2.1 := g_memT (g_t3 147 rfl) rfl
theorem se_Ri_likesNow : Cond.selects mt_Ri_likesNow.1.cls mt_Ri_likesNow.1 mt_Ri_likesNow.1 ∈ g_G.2.1 := g_memT (g_t3 148 rfl) rfl
theorem cd_Ri_likesIn : Cond.code mt_Ri_likesIn.1 mt_Ri_likesIn.2.1 mt_Ri_likesIn.2.2.1 mt_Ri_likesIn.2.2.2 ∈ g_G.2.1 := g_memT (g_t3 153 rfl) rfl
theorem im_Ri_likesIn : Cond.instanceMethod mt_Ri_likesIn.1 ∈ g_G.2.1 := g_memT (g_t3 151 rfl) rfl
theorem se_Ri_likesIn : Cond.selects mt_Ri_likesIn.1.cls mt_Ri_likesIn.1 mt_Ri_likesIn.1 ∈ g_G.2.1 := g_memT (g_t3 152 rfl) rfl
theorem cd_Ri_isGate : Cond.code mt_Ri_isGate.1 mt_Ri_isGate.2.1 mt_Ri_isGate.2.2.1 mt_Ri_isGate.2.2.2 ∈ g_G.2.1 := g_memT (g_t3 158 rfl) rfl
theorem im_Ri_isGate : Cond.instanceMethod mt_Ri_isGate.1 ∈ g_G.2.1 := g_memT (g_t3 156 rfl) rfl
theorem se_Ri_isGate : Cond.selects mt_Ri_isGate.1.cls mt_Ri_isGate.1 mt_Ri_isGate.1 ∈ g_G.2.1 := g_memT (g_t3 157 rfl) rfl
theorem cd_Ri_wantsStay : Cond.code mt_Ri_wantsStay.1 mt_Ri_wantsStay.2.1 mt_Ri_wantsStay.2.2.1 mt_Ri_wantsStay.2.2.2 ∈ g_G.2.1 := g_memT (g_t3 162 rfl) rfl
theorem im_Ri_wantsStay : Cond.instanceMethod mt_Ri_wantsStay.1 ∈ g_G.2.1 := g_memT (g_t3 160 rfl) rfl
theorem se_Ri_wantsStay : Cond.selects mt_Ri_wantsStay.1.cls mt_Ri_wantsStay.1 mt_Ri_wantsStay.1 ∈ g_G.2.1 := g_memT (g_t3 161 rfl) rfl
theorem cd_Tu_wrapped : Cond.code mt_Tu_wrapped.1 mt_Tu_wrapped.2.1 mt_Tu_wrapped.2.2.1 mt_Tu_wrapped.2.2.2 ∈ g_G.2.1 := g_memT (g_t3 165 rfl) rfl
theorem sc_Tu_wrapped : Cond.static mt_Tu_wrapped.1 ∈ g_G.2.1 := g_memT (g_t3 164 rfl) rfl
theorem cd_Tu_direction : Cond.code mt_Tu_direction.1 mt_Tu_direction.2.1 mt_Tu_direction.2.2.1 mt_Tu_direction.2.2.2 ∈ g_G.2.1 := g_memT (g_t3 169 rfl) rfl
theorem im_Tu_direction : Cond.instanceMethod mt_Tu_direction.1 ∈ g_G.2.1 := g_memT (g_t3 167 rfl) rfl
theorem se_Tu_direction : Cond.selects mt_Tu_direction.1.cls mt_Tu_direction.1 mt_Tu_direction.1 ∈ g_G.2.1 := g_memT (g_t3 168 rfl) rfl
theorem cd_Tu_isDirection : Cond.code mt_Tu_isDirection.1 mt_Tu_isDirection.2.1 mt_Tu_isDirection.2.2.1 mt_Tu_isDirection.2.2.2 ∈ g_G.2.1 := g_memT (g_t3 172 rfl) rfl
theorem sc_Tu_isDirection : Cond.static mt_Tu_isDirection.1 ∈ g_G.2.1 := g_memT (g_t3 171 rfl) rfl
theorem cd_Ri_houseFacing : Cond.code mt_Ri_houseFacing.1 mt_Ri_houseFacing.2.1 mt_Ri_houseFacing.2.2.1 mt_Ri_houseFacing.2.2.2 ∈ g_G.2.1 := g_memT (g_t3 176 rfl) rfl
theorem im_Ri_houseFacing : Cond.instanceMethod mt_Ri_houseFacing.1 ∈ g_G.2.1 := g_memT (g_t3 174 rfl) rfl
theorem se_Ri_houseFacing : Cond.selects mt_Ri_houseFacing.1.cls mt_Ri_houseFacing.1 mt_Ri_houseFacing.1 ∈ g_G.2.1 := g_memT (g_t3 175 rfl) rfl
theorem cd_Tu_rateOf : Cond.code mt_Tu_rateOf.1 mt_Tu_rateOf.2.1 mt_Tu_rateOf.2.2.1 mt_Tu_rateOf.2.2.2 ∈ g_G.2.1 := g_memT (g_t3 181 rfl) rfl
theorem im_Tu_rateOf : Cond.instanceMethod mt_Tu_rateOf.1 ∈ g_G.2.1 := g_memT (g_t3 179 rfl) rfl
theorem se_Tu_rateOf : Cond.selects mt_Tu_rateOf.1.cls mt_Tu_rateOf.1 mt_Tu_rateOf.1 ∈ g_G.2.1 := g_memT (g_t3 180 rfl) rfl
theorem cd_Tu_isHour : Cond.code mt_Tu_isHour.1 mt_Tu_isHour.2.1 mt_Tu_isHour.2.2.1 mt_Tu_isHour.2.2.2 ∈ g_G.2.1 := g_memT (g_t3 184 rfl) rfl
theorem sc_Tu_isHour : Cond.static mt_Tu_isHour.1 ∈ g_G.2.1 := g_memT (g_t3 183 rfl) rfl
theorem cd_Tu_worn : Cond.code mt_Tu_worn.1 mt_Tu_worn.2.1 mt_Tu_worn.2.2.1 mt_Tu_worn.2.2.2 ∈ g_G.2.1 := g_memT (g_t3 188 rfl) rfl
theorem im_Tu_worn : Cond.instanceMethod mt_Tu_worn.1 ∈ g_G.2.1 := g_memT (g_t3 186 rfl) rfl
theorem se_Tu_worn : Cond.selects mt_Tu_worn.1.cls mt_Tu_worn.1 mt_Tu_worn.1 ∈ g_G.2.1 := g_memT (g_t3 187 rfl) rfl
theorem cd_Tu_count : Cond.code mt_Tu_count.1 mt_Tu_count.2.1 mt_Tu_count.2.2.1 mt_Tu_count.2.2.2 ∈ g_G.2.1 := g_memT (g_t3 192 rfl) rfl
theorem im_Tu_count : Cond.instanceMethod mt_Tu_count.1 ∈ g_G.2.1 := g_memT (g_t3 190 rfl) rfl
theorem se_Tu_count : Cond.selects mt_Tu_count.1.cls mt_Tu_count.1 mt_Tu_count.1 ∈ g_G.2.1 := g_memT (g_t3 191 rfl) rfl
theorem cd_Ri_allLike : Cond.code mt_Ri_allLike.1 mt_Ri_allLike.2.1 mt_Ri_allLike.2.2.1 mt_Ri_allLike.2.2.2 ∈ g_G.2.1 := g_memT (g_t3 196 rfl) rfl
theorem im_Ri_allLike : Cond.instanceMethod mt_Ri_allLike.1 ∈ g_G.2.1 := g_memT (g_t3 194 rfl) rfl
theorem se_Ri_allLike : Cond.selects mt_Ri_allLike.1.cls mt_Ri_allLike.1 mt_Ri_allLike.1 ∈ g_G.2.1 := g_memT (g_t3 195 rfl) rfl
theorem cd_Ri_allVotes : Cond.code mt_Ri_allVotes.1 mt_Ri_allVotes.2.1 mt_Ri_allVotes.2.2.1 mt_Ri_allVotes.2.2.2 ∈ g_G.2.1 := g_memT (g_t3 200 rfl) rfl
theorem im_Ri_allVotes : Cond.instanceMethod mt_Ri_allVotes.1 ∈ g_G.2.1 := g_memT (g_t3 198 rfl) rfl
theorem se_Ri_allVotes : Cond.selects mt_Ri_allVotes.1.cls mt_Ri_allVotes.1 mt_Ri_allVotes.1 ∈ g_G.2.1 := g_memT (g_t3 199 rfl) rfl
theorem cd_Ri_votesOf : Cond.code mt_Ri_votesOf.1 mt_Ri_votesOf.2.1 mt_Ri_votesOf.2.2.1 mt_Ri_votesOf.2.2.2 ∈ g_G.2.1 := g_memT (g_t3 204 rfl) rfl
theorem im_Ri_votesOf : Cond.instanceMethod mt_Ri_votesOf.1 ∈ g_G.2.1 := g_memT (g_t3 202 rfl) rfl
theorem se_Ri_votesOf : Cond.selects mt_Ri_votesOf.1.cls mt_Ri_votesOf.1 mt_Ri_votesOf.1 ∈ g_G.2.1 := g_memT (g_t3 203 rfl) rfl
theorem cd_Tu_hour : Cond.code mt_Tu_hour.1 mt_Tu_hour.2.1 mt_Tu_hour.2.2.1 mt_Tu_hour.2.2.2 ∈ g_G.2.1 := g_memT (g_t3 209 rfl) rfl
theorem im_Tu_hour : Cond.instanceMethod mt_Tu_hour.1 ∈ g_G.2.1 := g_memT (g_t3 207 rfl) rfl
theorem se_Tu_hour : Cond.selects mt_Tu_hour.1.cls mt_Tu_hour.1 mt_Tu_hour.1 ∈ g_G.2.1 := g_memT (g_t3 208 rfl) rfl
theorem cd_Ri_hoursBehind : Cond.code mt_Ri_hoursBehind.1 mt_Ri_hoursBehind.2.1 mt_Ri_hoursBehind.2.2.1 mt_Ri_hoursBehind.2.2.2 ∈ g_G.2.1 := g_memT (g_t3 213 rfl) rfl
theorem im_Ri_hoursBehind : Cond.instanceMethod mt_Ri_hoursBehind.1 ∈ g_G.2.1 := g_memT (g_t3 211 rfl) rfl
theorem se_Ri_hoursBehind : Cond.selects mt_Ri_hoursBehind.1.cls mt_Ri_hoursBehind.1 mt_Ri_hoursBehind.1 ∈ g_G.2.1 := g_memT (g_t3 212 rfl) rfl
theorem cd_Tu_lastHour : Cond.code mt_Tu_lastHour.1 mt_Tu_lastHour.2.1 mt_Tu_lastHour.2.2.1 mt_Tu_lastHour.2.2.2 ∈ g_G.2.1 := g_memT (g_t3 216 rfl) rfl
theorem sc_Tu_lastHour : Cond.static mt_Tu_lastHour.1 ∈ g_G.2.1 := g_memT (g_t3 215 rfl) rfl
theorem cd_Ri_passHour : Cond.code mt_Ri_passHour.1 mt_Ri_passHour.2.1 mt_Ri_passHour.2.2.1 mt_Ri_passHour.2.2.2 ∈ g_G.2.1 := g_memT (g_t3 220 rfl) rfl
theorem im_Ri_passHour : Cond.instanceMethod mt_Ri_passHour.1 ∈ g_G.2.1 := g_memT (g_t3 218 rfl) rfl
theorem se_Ri_passHour : Cond.selects mt_Ri_passHour.1.cls mt_Ri_passHour.1 mt_Ri_passHour.1 ∈ g_G.2.1 := g_memT (g_t3 219 rfl) rfl
theorem cd_Mh_abs : Cond.code mt_Mh_abs.1 mt_Mh_abs.2.1 mt_Mh_abs.2.2.1 mt_Mh_abs.2.2.2 ∈ g_G.2.1 := g_memT (g_t3 223 rfl) rfl
theorem sc_Mh_abs : Cond.static mt_Mh_abs.1 ∈ g_G.2.1 := g_memT (g_t3 222 rfl) rfl
theorem cd_Ac_keep : Cond.code mt_Ac_keep.1 mt_Ac_keep.2.1 mt_Ac_keep.2.2.1 mt_Ac_keep.2.2.2 ∈ g_G.2.1 := g_memT (g_t3 228 rfl) rfl
theorem im_Ac_keep : Cond.instanceMethod mt_Ac_keep.1 ∈ g_G.2.1 := g_memT (g_t3 226 rfl) rfl
theorem se_Ac_keep : Cond.selects mt_Ac_keep.1.cls mt_Ac_keep.1 mt_Ac_keep.1 ∈ g_G.2.1 := g_memT (g_t3 227 rfl) rfl
theorem cd_Tu_rate : Cond.code mt_Tu_rate.1 mt_Tu_rate.2.1 mt_Tu_rate.2.2.1 mt_Tu_rate.2.2.2 ∈ g_G.2.1 := g_memT (g_t3 233 rfl) rfl
theorem im_Tu_rate : Cond.instanceMethod mt_Tu_rate.1 ∈ g_G.2.1 := g_memT (g_t3 231 rfl) rfl
theorem se_Tu_rate : Cond.selects mt_Tu_rate.1.cls mt_Tu_rate.1 mt_Tu_rate.1 ∈ g_G.2.1 := g_memT (g_t3 232 rfl) rfl
theorem cd_Tu_swap : Cond.code mt_Tu_swap.1 mt_Tu_swap.2.1 mt_Tu_swap.2.2.1 mt_Tu_swap.2.2.2 ∈ g_G.2.1 := g_memT (g_t3 237 rfl) rfl
theorem im_Tu_swap : Cond.instanceMethod mt_Tu_swap.1 ∈ g_G.2.1 := g_memT (g_t3 235 rfl) rfl
theorem se_Tu_swap : Cond.selects mt_Tu_swap.1.cls mt_Tu_swap.1 mt_Tu_swap.1 ∈ g_G.2.1 := g_memT (g_t3 236 rfl) rfl
theorem cd_Ri_swapSlots : Cond.code mt_Ri_swapSlots.1 mt_Ri_swapSlots.2.1 mt_Ri_swapSlots.2.2.1 mt_Ri_swapSlots.2.2.2 ∈ g_G.2.1 := g_memT (g_t4 1 rfl) rfl
theorem im_Ri_swapSlots : Cond.instanceMethod mt_Ri_swapSlots.1 ∈ g_G.2.1 := g_memT (g_t3 239 rfl) rfl
theorem se_Ri_swapSlots : Cond.selects mt_Ri_swapSlots.1.cls mt_Ri_swapSlots.1 mt_Ri_swapSlots.1 ∈ g_G.2.1 := g_memT (g_t4 0 rfl) rfl
theorem cd_Tu_stop : Cond.code mt_Tu_stop.1 mt_Tu_stop.2.1 mt_Tu_stop.2.2.1 mt_Tu_stop.2.2.2 ∈ g_G.2.1 := g_memT (g_t4 5 rfl) rfl
theorem im_Tu_stop : Cond.instanceMethod mt_Tu_stop.1 ∈ g_G.2.1 := g_memT (g_t4 3 rfl) rfl
theorem se_Tu_stop : Cond.selects mt_Tu_stop.1.cls mt_Tu_stop.1 mt_Tu_stop.1 ∈ g_G.2.1 := g_memT (g_t4 4 rfl) rfl
theorem cd_Tu_undo : Cond.code mt_Tu_undo.1 mt_Tu_undo.2.1 mt_Tu_undo.2.2.1 mt_Tu_undo.2.2.2 ∈ g_G.2.1 := g_memT (g_t4 9 rfl) rfl
theorem im_Tu_undo : Cond.instanceMethod mt_Tu_undo.1 ∈ g_G.2.1 := g_memT (g_t4 7 rfl) rfl
theorem se_Tu_undo : Cond.selects mt_Tu_undo.1.cls mt_Tu_undo.1 mt_Tu_undo.1 ∈ g_G.2.1 := g_memT (g_t4 8 rfl) rfl
theorem cd_Ac_undoLast : Cond.code mt_Ac_undoLast.1 mt_Ac_undoLast.2.1 mt_Ac_undoLast.2.2.1 mt_Ac_undoLast.2.2.2 ∈ g_G.2.1 := g_memT (g_t4 13 rfl) rfl
theorem im_Ac_undoLast : Cond.instanceMethod mt_Ac_undoLast.1 ∈ g_G.2.1 := g_memT (g_t4 11 rfl) rfl
theorem se_Ac_undoLast : Cond.selects mt_Ac_undoLast.1.cls mt_Ac_undoLast.1 mt_Ac_undoLast.1 ∈ g_G.2.1 := g_memT (g_t4 12 rfl) rfl
theorem cd_Ri_takeHourBack : Cond.code mt_Ri_takeHourBack.1 mt_Ri_takeHourBack.2.1 mt_Ri_takeHourBack.2.2.1 mt_Ri_takeHourBack.2.2.2 ∈ g_G.2.1 := g_memT (g_t4 17 rfl) rfl
theorem im_Ri_takeHourBack : Cond.instanceMethod mt_Ri_takeHourBack.1 ∈ g_G.2.1 := g_memT (g_t4 15 rfl) rfl
theorem se_Ri_takeHourBack : Cond.selects mt_Ri_takeHourBack.1.cls mt_Ri_takeHourBack.1 mt_Ri_takeHourBack.1 ∈ g_G.2.1 := g_memT (g_t4 16 rfl) rfl
theorem cd_Tu_run : Cond.code mt_Tu_run.1 mt_Tu_run.2.1 mt_Tu_run.2.2.1 mt_Tu_run.2.2.2 ∈ g_G.2.1 := g_memT (g_t4 22 rfl) rfl
theorem im_Tu_run : Cond.instanceMethod mt_Tu_run.1 ∈ g_G.2.1 := g_memT (g_t4 20 rfl) rfl
theorem se_Tu_run : Cond.selects mt_Tu_run.1.cls mt_Tu_run.1 mt_Tu_run.1 ∈ g_G.2.1 := g_memT (g_t4 21 rfl) rfl
theorem cd_Tu_hasRule : Cond.code mt_Tu_hasRule.1 mt_Tu_hasRule.2.1 mt_Tu_hasRule.2.2.1 mt_Tu_hasRule.2.2.2 ∈ g_G.2.1 := g_memT (g_t4 26 rfl) rfl
theorem im_Tu_hasRule : Cond.instanceMethod mt_Tu_hasRule.1 ∈ g_G.2.1 := g_memT (g_t4 25 rfl) rfl
theorem se_Tu_hasRule : Cond.selects mt_Tu_hasRule.1.cls mt_Tu_hasRule.1 mt_Tu_hasRule.1 ∈ g_G.2.1 := g_memT (g_t0 10 rfl) rfl
theorem cd_Ma_rateBy : Cond.code mt_Ma_rateBy.1 mt_Ma_rateBy.2.1 mt_Ma_rateBy.2.2.1 mt_Ma_rateBy.2.2.2 ∈ g_G.2.1 := g_memT (g_t4 30 rfl) rfl
theorem im_Ma_rateBy : Cond.instanceMethod mt_Ma_rateBy.1 ∈ g_G.2.1 := g_memT (g_t4 28 rfl) rfl
theorem se_Ma_rateBy : Cond.selects mt_Ma_rateBy.1.cls mt_Ma_rateBy.1 mt_Ma_rateBy.1 ∈ g_G.2.1 := g_memT (g_t4 29 rfl) rfl
theorem cd_Ma_push : Cond.code mt_Ma_push.1 mt_Ma_push.2.1 mt_Ma_push.2.2.1 mt_Ma_push.2.2.2 ∈ g_G.2.1 := g_memT (g_t4 34 rfl) rfl
theorem im_Ma_push : Cond.instanceMethod mt_Ma_push.1 ∈ g_G.2.1 := g_memT (g_t4 33 rfl) rfl
theorem se_Ma_push : Cond.selects mt_Ma_push.1.cls mt_Ma_push.1 mt_Ma_push.1 ∈ g_G.2.1 := g_memT (g_t0 11 rfl) rfl
theorem cd_Ma_wordOf : Cond.code mt_Ma_wordOf.1 mt_Ma_wordOf.2.1 mt_Ma_wordOf.2.2.1 mt_Ma_wordOf.2.2.2 ∈ g_G.2.1 := g_memT (g_t4 37 rfl) rfl
theorem sc_Ma_wordOf : Cond.static mt_Ma_wordOf.1 ∈ g_G.2.1 := g_memT (g_t4 36 rfl) rfl
theorem cd_Ri_bestLike : Cond.code mt_Ri_bestLike.1 mt_Ri_bestLike.2.1 mt_Ri_bestLike.2.2.1 mt_Ri_bestLike.2.2.2 ∈ g_G.2.1 := g_memT (g_t4 42 rfl) rfl
theorem im_Ri_bestLike : Cond.instanceMethod mt_Ri_bestLike.1 ∈ g_G.2.1 := g_memT (g_t4 40 rfl) rfl
theorem se_Ri_bestLike : Cond.selects mt_Ri_bestLike.1.cls mt_Ri_bestLike.1 mt_Ri_bestLike.1 ∈ g_G.2.1 := g_memT (g_t4 41 rfl) rfl
theorem cd_Ri_leastLike : Cond.code mt_Ri_leastLike.1 mt_Ri_leastLike.2.1 mt_Ri_leastLike.2.2.1 mt_Ri_leastLike.2.2.2 ∈ g_G.2.1 := g_memT (g_t4 48 rfl) rfl
theorem im_Ri_leastLike : Cond.instanceMethod mt_Ri_leastLike.1 ∈ g_G.2.1 := g_memT (g_t4 46 rfl) rfl
theorem se_Ri_leastLike : Cond.selects mt_Ri_leastLike.1.cls mt_Ri_leastLike.1 mt_Ri_leastLike.1 ∈ g_G.2.1 := g_memT (g_t4 47 rfl) rfl
theorem cd_Ri_stayVotes : Cond.code mt_Ri_stayVotes.1 mt_Ri_stayVotes.2.1 mt_Ri_stayVotes.2.2.1 mt_Ri_stayVotes.2.2.2 ∈ g_G.2.1 := g_memT (g_t4 52 rfl) rfl
theorem im_Ri_stayVotes : Cond.instanceMethod mt_Ri_stayVotes.1 ∈ g_G.2.1 := g_memT (g_t4 50 rfl) rfl
theorem se_Ri_stayVotes : Cond.selects mt_Ri_stayVotes.1.cls mt_Ri_stayVotes.1 mt_Ri_stayVotes.1 ∈ g_G.2.1 := g_memT (g_t4 51 rfl) rfl
theorem cd_Ri_atGates : Cond.code mt_Ri_atGates.1 mt_Ri_atGates.2.1 mt_Ri_atGates.2.2.1 mt_Ri_atGates.2.2.2 ∈ g_G.2.1 := g_memT (g_t4 58 rfl) rfl
theorem im_Ri_atGates : Cond.instanceMethod mt_Ri_atGates.1 ∈ g_G.2.1 := g_memT (g_t4 56 rfl) rfl
theorem se_Ri_atGates : Cond.selects mt_Ri_atGates.1.cls mt_Ri_atGates.1 mt_Ri_atGates.1 ∈ g_G.2.1 := g_memT (g_t4 57 rfl) rfl
theorem cd_Ma_pop : Cond.code mt_Ma_pop.1 mt_Ma_pop.2.1 mt_Ma_pop.2.2.1 mt_Ma_pop.2.2.2 ∈ g_G.2.1 := g_memT (g_t4 63 rfl) rfl
theorem im_Ma_pop : Cond.instanceMethod mt_Ma_pop.1 ∈ g_G.2.1 := g_memT (g_t4 62 rfl) rfl
theorem se_Ma_pop : Cond.selects mt_Ma_pop.1.cls mt_Ma_pop.1 mt_Ma_pop.1 ∈ g_G.2.1 := g_memT (g_t0 12 rfl) rfl
theorem cd_Ma_truth : Cond.code mt_Ma_truth.1 mt_Ma_truth.2.1 mt_Ma_truth.2.2.1 mt_Ma_truth.2.2.2 ∈ g_G.2.1 := g_memT (g_t4 66 rfl) rfl
theorem sc_Ma_truth : Cond.static mt_Ma_truth.1 ∈ g_G.2.1 := g_memT (g_t4 65 rfl) rfl
theorem cd_Ma_held : Cond.code mt_Ma_held.1 mt_Ma_held.2.1 mt_Ma_held.2.2.1 mt_Ma_held.2.2.2 ∈ g_G.2.1 := g_memT (g_t4 69 rfl) rfl
theorem sc_Ma_held : Cond.static mt_Ma_held.1 ∈ g_G.2.1 := g_memT (g_t4 68 rfl) rfl
theorem cd_Mh_min_JJJ : Cond.code mt_Mh_min_JJJ.1 mt_Mh_min_JJJ.2.1 mt_Mh_min_JJJ.2.2.1 mt_Mh_min_JJJ.2.2.2 ∈ g_G.2.1 := g_memT (g_t4 74 rfl) rfl
theorem sc_Mh_min_JJJ : Cond.static mt_Mh_min_JJJ.1 ∈ g_G.2.1 := g_memT (g_t4 73 rfl) rfl
theorem cd_Mh_max_JJJ : Cond.code mt_Mh_max_JJJ.1 mt_Mh_max_JJJ.2.1 mt_Mh_max_JJJ.2.2.1 mt_Mh_max_JJJ.2.2.2 ∈ g_G.2.1 := g_memT (g_t4 77 rfl) rfl
theorem sc_Mh_max_JJJ : Cond.static mt_Mh_max_JJJ.1 ∈ g_G.2.1 := g_memT (g_t4 76 rfl) rfl
theorem cd_Ma_joined : Cond.code mt_Ma_joined.1 mt_Ma_joined.2.1 mt_Ma_joined.2.2.1 mt_Ma_joined.2.2.2 ∈ g_G.2.1 := g_memT (g_t4 80 rfl) rfl
theorem sc_Ma_joined : Cond.static mt_Ma_joined.1 ∈ g_G.2.1 := g_memT (g_t4 79 rfl) rfl
theorem cd_Tu_seed : Cond.code mt_Tu_seed.1 mt_Tu_seed.2.1 mt_Tu_seed.2.2.1 mt_Tu_seed.2.2.2 ∈ g_G.2.1 := g_memT (g_t4 84 rfl) rfl
theorem im_Tu_seed : Cond.instanceMethod mt_Tu_seed.1 ∈ g_G.2.1 := g_memT (g_t4 82 rfl) rfl
theorem se_Tu_seed : Cond.selects mt_Tu_seed.1.cls mt_Tu_seed.1 mt_Tu_seed.1 ∈ g_G.2.1 := g_memT (g_t4 83 rfl) rfl
theorem cd_Tu_image : Cond.code mt_Tu_image.1 mt_Tu_image.2.1 mt_Tu_image.2.2.1 mt_Tu_image.2.2.2 ∈ g_G.2.1 := g_memT (g_t4 88 rfl) rfl
theorem im_Tu_image : Cond.instanceMethod mt_Tu_image.1 ∈ g_G.2.1 := g_memT (g_t4 86 rfl) rfl
theorem se_Tu_image : Cond.selects mt_Tu_image.1.cls mt_Tu_image.1 mt_Tu_image.1 ∈ g_G.2.1 := g_memT (g_t4 87 rfl) rfl
theorem cd_Ri_copyFrom : Cond.code mt_Ri_copyFrom.1 mt_Ri_copyFrom.2.1 mt_Ri_copyFrom.2.2.1 mt_Ri_copyFrom.2.2.2 ∈ g_G.2.1 := g_memT (g_t4 92 rfl) rfl
theorem im_Ri_copyFrom : Cond.instanceMethod mt_Ri_copyFrom.1 ∈ g_G.2.1 := g_memT (g_t4 90 rfl) rfl
theorem se_Ri_copyFrom : Cond.selects mt_Ri_copyFrom.1.cls mt_Ri_copyFrom.1 mt_Ri_copyFrom.1 ∈ g_G.2.1 := g_memT (g_t4 91 rfl) rfl
theorem cd_Di_copyFrom : Cond.code mt_Di_copyFrom.1 mt_Di_copyFrom.2.1 mt_Di_copyFrom.2.2.1 mt_Di_copyFrom.2.2.2 ∈ g_G.2.1 := g_memT (g_t4 97 rfl) rfl
theorem im_Di_copyFrom : Cond.instanceMethod mt_Di_copyFrom.1 ∈ g_G.2.1 := g_memT (g_t4 95 rfl) rfl
theorem se_Di_copyFrom : Cond.selects mt_Di_copyFrom.1.cls mt_Di_copyFrom.1 mt_Di_copyFrom.1 ∈ g_G.2.1 := g_memT (g_t4 96 rfl) rfl
theorem cd_Tu_back : Cond.code mt_Tu_back.1 mt_Tu_back.2.1 mt_Tu_back.2.2.1 mt_Tu_back.2.2.2 ∈ g_G.2.1 := g_memT (g_t4 102 rfl) rfl
theorem im_Tu_back : Cond.instanceMethod mt_Tu_back.1 ∈ g_G.2.1 := g_memT (g_t4 100 rfl) rfl
theorem se_Tu_back : Cond.selects mt_Tu_back.1.cls mt_Tu_back.1 mt_Tu_back.1 ∈ g_G.2.1 := g_memT (g_t4 101 rfl) rfl
theorem cd_Tu_faces : Cond.code mt_Tu_faces.1 mt_Tu_faces.2.1 mt_Tu_faces.2.2.1 mt_Tu_faces.2.2.2 ∈ g_G.2.1 := g_memT (g_t4 106 rfl) rfl
theorem im_Tu_faces : Cond.instanceMethod mt_Tu_faces.1 ∈ g_G.2.1 := g_memT (g_t4 104 rfl) rfl
theorem se_Tu_faces : Cond.selects mt_Tu_faces.1.cls mt_Tu_faces.1 mt_Tu_faces.1 ∈ g_G.2.1 := g_memT (g_t4 105 rfl) rfl
theorem cd_Ri_angleOn : Cond.code mt_Ri_angleOn.1 mt_Ri_angleOn.2.1 mt_Ri_angleOn.2.2.1 mt_Ri_angleOn.2.2.2 ∈ g_G.2.1 := g_memT (g_t4 110 rfl) rfl
theorem im_Ri_angleOn : Cond.instanceMethod mt_Ri_angleOn.1 ∈ g_G.2.1 := g_memT (g_t4 108 rfl) rfl
theorem se_Ri_angleOn : Cond.selects mt_Ri_angleOn.1.cls mt_Ri_angleOn.1 mt_Ri_angleOn.1 ∈ g_G.2.1 := g_memT (g_t4 109 rfl) rfl
theorem cd_Ri_angleBehind : Cond.code mt_Ri_angleBehind.1 mt_Ri_angleBehind.2.1 mt_Ri_angleBehind.2.2.1 mt_Ri_angleBehind.2.2.2 ∈ g_G.2.1 := g_memT (g_t4 114 rfl) rfl
theorem im_Ri_angleBehind : Cond.instanceMethod mt_Ri_angleBehind.1 ∈ g_G.2.1 := g_memT (g_t4 112 rfl) rfl
theorem se_Ri_angleBehind : Cond.selects mt_Ri_angleBehind.1.cls mt_Ri_angleBehind.1 mt_Ri_angleBehind.1 ∈ g_G.2.1 := g_memT (g_t4 113 rfl) rfl
theorem cd_Ri_hourOn : Cond.code mt_Ri_hourOn.1 mt_Ri_hourOn.2.1 mt_Ri_hourOn.2.2.1 mt_Ri_hourOn.2.2.2 ∈ g_G.2.1 := g_memT (g_t4 118 rfl) rfl
theorem im_Ri_hourOn : Cond.instanceMethod mt_Ri_hourOn.1 ∈ g_G.2.1 := g_memT (g_t4 116 rfl) rfl
theorem se_Ri_hourOn : Cond.selects mt_Ri_hourOn.1.cls mt_Ri_hourOn.1 mt_Ri_hourOn.1 ∈ g_G.2.1 := g_memT (g_t4 117 rfl) rfl
theorem cd_Tu_sees : Cond.code mt_Tu_sees.1 mt_Tu_sees.2.1 mt_Tu_sees.2.2.1 mt_Tu_sees.2.2.2 ∈ g_G.2.1 := g_memT (g_t4 123 rfl) rfl
theorem im_Tu_sees : Cond.instanceMethod mt_Tu_sees.1 ∈ g_G.2.1 := g_memT (g_t4 121 rfl) rfl
theorem se_Tu_sees : Cond.selects mt_Tu_sees.1.cls mt_Tu_sees.1 mt_Tu_sees.1 ∈ g_G.2.1 := g_memT (g_t4 122 rfl) rfl
theorem cd_Tu_day : Cond.code mt_Tu_day.1 mt_Tu_day.2.1 mt_Tu_day.2.2.1 mt_Tu_day.2.2.2 ∈ g_G.2.1 := g_memT (g_t4 128 rfl) rfl
theorem im_Tu_day : Cond.instanceMethod mt_Tu_day.1 ∈ g_G.2.1 := g_memT (g_t4 126 rfl) rfl
theorem se_Tu_day : Cond.selects mt_Tu_day.1.cls mt_Tu_day.1 mt_Tu_day.1 ∈ g_G.2.1 := g_memT (g_t4 127 rfl) rfl
theorem cd_Ri_dayIn : Cond.code mt_Ri_dayIn.1 mt_Ri_dayIn.2.1 mt_Ri_dayIn.2.2.1 mt_Ri_dayIn.2.2.2 ∈ g_G.2.1 := g_memT (g_t4 132 rfl) rfl
theorem im_Ri_dayIn : Cond.instanceMethod mt_Ri_dayIn.1 ∈ g_G.2.1 := g_memT (g_t4 130 rfl) rfl
theorem se_Ri_dayIn : Cond.selects mt_Ri_dayIn.1.cls mt_Ri_dayIn.1 mt_Ri_dayIn.1 ∈ g_G.2.1 := g_memT (g_t4 131 rfl) rfl
theorem cd_Tu_errand : Cond.code mt_Tu_errand.1 mt_Tu_errand.2.1 mt_Tu_errand.2.2.1 mt_Tu_errand.2.2.2 ∈ g_G.2.1 := g_memT (g_t4 136 rfl) rfl
theorem im_Tu_errand : Cond.instanceMethod mt_Tu_errand.1 ∈ g_G.2.1 := g_memT (g_t4 134 rfl) rfl
theorem se_Tu_errand : Cond.selects mt_Tu_errand.1.cls mt_Tu_errand.1 mt_Tu_errand.1 ∈ g_G.2.1 := g_memT (g_t4 135 rfl) rfl
theorem cd_Tu_wayBetween : Cond.code mt_Tu_wayBetween.1 mt_Tu_wayBetween.2.1 mt_Tu_wayBetween.2.2.1 mt_Tu_wayBetween.2.2.2 ∈ g_G.2.1 := g_memT (g_t4 139 rfl) rfl
theorem sc_Tu_wayBetween : Cond.static mt_Tu_wayBetween.1 ∈ g_G.2.1 := g_memT (g_t4 138 rfl) rfl
theorem cd_Tu_stay : Cond.code mt_Tu_stay.1 mt_Tu_stay.2.1 mt_Tu_stay.2.2.1 mt_Tu_stay.2.2.2 ∈ g_G.2.1 := g_memT (g_t4 146 rfl) rfl
theorem im_Tu_stay : Cond.instanceMethod mt_Tu_stay.1 ∈ g_G.2.1 := g_memT (g_t4 144 rfl) rfl
theorem se_Tu_stay : Cond.selects mt_Tu_stay.1.cls mt_Tu_stay.1 mt_Tu_stay.1 ∈ g_G.2.1 := g_memT (g_t4 145 rfl) rfl
theorem cd_Tu_swings : Cond.code mt_Tu_swings.1 mt_Tu_swings.2.1 mt_Tu_swings.2.2.1 mt_Tu_swings.2.2.2 ∈ g_G.2.1 := g_memT (g_t4 151 rfl) rfl
theorem im_Tu_swings : Cond.instanceMethod mt_Tu_swings.1 ∈ g_G.2.1 := g_memT (g_t4 149 rfl) rfl
theorem se_Tu_swings : Cond.selects mt_Tu_swings.1.cls mt_Tu_swings.1 mt_Tu_swings.1 ∈ g_G.2.1 := g_memT (g_t4 150 rfl) rfl
theorem cd_Tu_plan : Cond.code mt_Tu_plan.1 mt_Tu_plan.2.1 mt_Tu_plan.2.2.1 mt_Tu_plan.2.2.2 ∈ g_G.2.1 := g_memT (g_t4 156 rfl) rfl
theorem im_Tu_plan : Cond.instanceMethod mt_Tu_plan.1 ∈ g_G.2.1 := g_memT (g_t4 154 rfl) rfl
theorem se_Tu_plan : Cond.selects mt_Tu_plan.1.cls mt_Tu_plan.1 mt_Tu_plan.1 ∈ g_G.2.1 := g_memT (g_t4 155 rfl) rfl
theorem cd_Pl_findBest : Cond.code mt_Pl_findBest.1 mt_Pl_findBest.2.1 mt_Pl_findBest.2.2.1 mt_Pl_findBest.2.2.2 ∈ g_G.2.1 := g_memT (g_t4 160 rfl) rfl
theorem im_Pl_findBest : Cond.instanceMethod mt_Pl_findBest.1 ∈ g_G.2.1 := g_memT (g_t4 158 rfl) rfl
theorem se_Pl_findBest : Cond.selects mt_Pl_findBest.1.cls mt_Pl_findBest.1 mt_Pl_findBest.1 ∈ g_G.2.1 := g_memT (g_t4 159 rfl) rfl
theorem cd_Pl_weighFrom : Cond.code mt_Pl_weighFrom.1 mt_Pl_weighFrom.2.1 mt_Pl_weighFrom.2.2.1 mt_Pl_weighFrom.2.2.2 ∈ g_G.2.1 := g_memT (g_t4 165 rfl) rfl
theorem im_Pl_weighFrom : Cond.instanceMethod mt_Pl_weighFrom.1 ∈ g_G.2.1 := g_memT (g_t4 164 rfl) rfl
theorem se_Pl_weighFrom : Cond.selects mt_Pl_weighFrom.1.cls mt_Pl_weighFrom.1 mt_Pl_weighFrom.1 ∈ g_G.2.1 := g_memT (g_t0 13 rfl) rfl
theorem cd_Pl_leastHad : Cond.code mt_Pl_leastHad.1 mt_Pl_leastHad.2.1 mt_Pl_leastHad.2.2.1 mt_Pl_leastHad.2.2.2 ∈ g_G.2.1 := g_memT (g_t4 172 rfl) rfl
theorem im_Pl_leastHad : Cond.instanceMethod mt_Pl_leastHad.1 ∈ g_G.2.1 := g_memT (g_t4 171 rfl) rfl
theorem se_Pl_leastHad : Cond.selects mt_Pl_leastHad.1.cls mt_Pl_leastHad.1 mt_Pl_leastHad.1 ∈ g_G.2.1 := g_memT (g_t0 14 rfl) rfl
theorem cd_Pl_allHad : Cond.code mt_Pl_allHad.1 mt_Pl_allHad.2.1 mt_Pl_allHad.2.2.1 mt_Pl_allHad.2.2.2 ∈ g_G.2.1 := g_memT (g_t4 177 rfl) rfl
theorem im_Pl_allHad : Cond.instanceMethod mt_Pl_allHad.1 ∈ g_G.2.1 := g_memT (g_t4 176 rfl) rfl
theorem se_Pl_allHad : Cond.selects mt_Pl_allHad.1.cls mt_Pl_allHad.1 mt_Pl_allHad.1 ∈ g_G.2.1 := g_memT (g_t0 15 rfl) rfl
theorem cd_Pl_nextRow : Cond.code mt_Pl_nextRow.1 mt_Pl_nextRow.2.1 mt_Pl_nextRow.2.2.1 mt_Pl_nextRow.2.2.2 ∈ g_G.2.1 := g_memT (g_t4 182 rfl) rfl
theorem im_Pl_nextRow : Cond.instanceMethod mt_Pl_nextRow.1 ∈ g_G.2.1 := g_memT (g_t4 181 rfl) rfl
theorem se_Pl_nextRow : Cond.selects mt_Pl_nextRow.1.cls mt_Pl_nextRow.1 mt_Pl_nextRow.1 ∈ g_G.2.1 := g_memT (g_t0 16 rfl) rfl
theorem cd_Tu_trade : Cond.code mt_Tu_trade.1 mt_Tu_trade.2.1 mt_Tu_trade.2.2.1 mt_Tu_trade.2.2.2 ∈ g_G.2.1 := g_memT (g_t4 186 rfl) rfl
theorem im_Tu_trade : Cond.instanceMethod mt_Tu_trade.1 ∈ g_G.2.1 := g_memT (g_t4 184 rfl) rfl
theorem se_Tu_trade : Cond.selects mt_Tu_trade.1.cls mt_Tu_trade.1 mt_Tu_trade.1 ∈ g_G.2.1 := g_memT (g_t4 185 rfl) rfl
theorem cd_Tr_findRows : Cond.code mt_Tr_findRows.1 mt_Tr_findRows.2.1 mt_Tr_findRows.2.2.1 mt_Tr_findRows.2.2.2 ∈ g_G.2.1 := g_memT (g_t4 190 rfl) rfl
theorem im_Tr_findRows : Cond.instanceMethod mt_Tr_findRows.1 ∈ g_G.2.1 := g_memT (g_t4 188 rfl) rfl
theorem se_Tr_findRows : Cond.selects mt_Tr_findRows.1.cls mt_Tr_findRows.1 mt_Tr_findRows.1 ∈ g_G.2.1 := g_memT (g_t4 189 rfl) rfl
theorem cd_Tr_sortSlots : Cond.code mt_Tr_sortSlots.1 mt_Tr_sortSlots.2.1 mt_Tr_sortSlots.2.2.1 mt_Tr_sortSlots.2.2.2 ∈ g_G.2.1 := g_memT (g_t4 194 rfl) rfl
theorem im_Tr_sortSlots : Cond.instanceMethod mt_Tr_sortSlots.1 ∈ g_G.2.1 := g_memT (g_t4 193 rfl) rfl
theorem se_Tr_sortSlots : Cond.selects mt_Tr_sortSlots.1.cls mt_Tr_sortSlots.1 mt_Tr_sortSlots.1 ∈ g_G.2.1 := g_memT (g_t0 17 rfl) rfl
theorem cd_Tr_weighSet : Cond.code mt_Tr_weighSet.1 mt_Tr_weighSet.2.1 mt_Tr_weighSet.2.2.1 mt_Tr_weighSet.2.2.2 ∈ g_G.2.1 := g_memT (g_t4 200 rfl) rfl
theorem im_Tr_weighSet : Cond.instanceMethod mt_Tr_weighSet.1 ∈ g_G.2.1 := g_memT (g_t4 199 rfl) rfl
theorem se_Tr_weighSet : Cond.selects mt_Tr_weighSet.1.cls mt_Tr_weighSet.1 mt_Tr_weighSet.1 ∈ g_G.2.1 := g_memT (g_t0 18 rfl) rfl
theorem cd_In_bitCount : Cond.code mt_In_bitCount.1 mt_In_bitCount.2.1 mt_In_bitCount.2.2.1 mt_In_bitCount.2.2.2 ∈ g_G.2.1 := g_memT (g_t4 203 rfl) rfl
theorem sc_In_bitCount : Cond.static mt_In_bitCount.1 ∈ g_G.2.1 := g_memT (g_t4 202 rfl) rfl
theorem cd_Tr_mayTake : Cond.code mt_Tr_mayTake.1 mt_Tr_mayTake.2.1 mt_Tr_mayTake.2.2.1 mt_Tr_mayTake.2.2.2 ∈ g_G.2.1 := g_memT (g_t4 210 rfl) rfl
theorem im_Tr_mayTake : Cond.instanceMethod mt_Tr_mayTake.1 ∈ g_G.2.1 := g_memT (g_t4 209 rfl) rfl
theorem se_Tr_mayTake : Cond.selects mt_Tr_mayTake.1.cls mt_Tr_mayTake.1 mt_Tr_mayTake.1 ∈ g_G.2.1 := g_memT (g_t0 19 rfl) rfl
theorem cd_Tr_sumWith : Cond.code mt_Tr_sumWith.1 mt_Tr_sumWith.2.1 mt_Tr_sumWith.2.2.1 mt_Tr_sumWith.2.2.2 ∈ g_G.2.1 := g_memT (g_t4 214 rfl) rfl
theorem im_Tr_sumWith : Cond.instanceMethod mt_Tr_sumWith.1 ∈ g_G.2.1 := g_memT (g_t4 213 rfl) rfl
theorem se_Tr_sumWith : Cond.selects mt_Tr_sumWith.1.cls mt_Tr_sumWith.1 mt_Tr_sumWith.1 ∈ g_G.2.1 := g_memT (g_t0 20 rfl) rfl
theorem cd_Tr_firstSlotOf : Cond.code mt_Tr_firstSlotOf.1 mt_Tr_firstSlotOf.2.1 mt_Tr_firstSlotOf.2.2.1 mt_Tr_firstSlotOf.2.2.2 ∈ g_G.2.1 := g_memT (g_t4 219 rfl) rfl
theorem im_Tr_firstSlotOf : Cond.instanceMethod mt_Tr_firstSlotOf.1 ∈ g_G.2.1 := g_memT (g_t4 217 rfl) rfl
theorem se_Tr_firstSlotOf : Cond.selects mt_Tr_firstSlotOf.1.cls mt_Tr_firstSlotOf.1 mt_Tr_firstSlotOf.1 ∈ g_G.2.1 := g_memT (g_t4 218 rfl) rfl
theorem cd_Tr_firstChoice : Cond.code mt_Tr_firstChoice.1 mt_Tr_firstChoice.2.1 mt_Tr_firstChoice.2.2.1 mt_Tr_firstChoice.2.2.2 ∈ g_G.2.1 := g_memT (g_t4 223 rfl) rfl
theorem im_Tr_firstChoice : Cond.instanceMethod mt_Tr_firstChoice.1 ∈ g_G.2.1 := g_memT (g_t4 222 rfl) rfl
theorem se_Tr_firstChoice : Cond.selects mt_Tr_firstChoice.1.cls mt_Tr_firstChoice.1 mt_Tr_firstChoice.1 ∈ g_G.2.1 := g_memT (g_t0 21 rfl) rfl
theorem cd_Tu_spare : Cond.code mt_Tu_spare.1 mt_Tu_spare.2.1 mt_Tu_spare.2.2.1 mt_Tu_spare.2.2.2 ∈ g_G.2.1 := g_memT (g_t4 227 rfl) rfl
theorem im_Tu_spare : Cond.instanceMethod mt_Tu_spare.1 ∈ g_G.2.1 := g_memT (g_t4 225 rfl) rfl
theorem se_Tu_spare : Cond.selects mt_Tu_spare.1.cls mt_Tu_spare.1 mt_Tu_spare.1 ∈ g_G.2.1 := g_memT (g_t4 226 rfl) rfl
theorem cd_Ri_mostWornBehind : Cond.code mt_Ri_mostWornBehind.1 mt_Ri_mostWornBehind.2.1 mt_Ri_mostWornBehind.2.2.1 mt_Ri_mostWornBehind.2.2.2 ∈ g_G.2.1 := g_memT (g_t4 231 rfl) rfl
theorem im_Ri_mostWornBehind : Cond.instanceMethod mt_Ri_mostWornBehind.1 ∈ g_G.2.1 := g_memT (g_t4 229 rfl) rfl
theorem se_Ri_mostWornBehind : Cond.selects mt_Ri_mostWornBehind.1.cls mt_Ri_mostWornBehind.1 mt_Ri_mostWornBehind.1 ∈ g_G.2.1 := g_memT (g_t4 230 rfl) rfl
theorem cd_Tu_apart : Cond.code mt_Tu_apart.1 mt_Tu_apart.2.1 mt_Tu_apart.2.2.1 mt_Tu_apart.2.2.2 ∈ g_G.2.1 := g_memT (g_t4 236 rfl) rfl
theorem im_Tu_apart : Cond.instanceMethod mt_Tu_apart.1 ∈ g_G.2.1 := g_memT (g_t4 234 rfl) rfl
theorem se_Tu_apart : Cond.selects mt_Tu_apart.1.cls mt_Tu_apart.1 mt_Tu_apart.1 ∈ g_G.2.1 := g_memT (g_t4 235 rfl) rfl
theorem cd_Tu_isSort : Cond.code mt_Tu_isSort.1 mt_Tu_isSort.2.1 mt_Tu_isSort.2.2.1 mt_Tu_isSort.2.2.2 ∈ g_G.2.1 := g_memT (g_t4 239 rfl) rfl
theorem sc_Tu_isSort : Cond.static mt_Tu_isSort.1 ∈ g_G.2.1 := g_memT (g_t4 238 rfl) rfl
theorem cd_Tu_hoursSeen : Cond.code mt_Tu_hoursSeen.1 mt_Tu_hoursSeen.2.1 mt_Tu_hoursSeen.2.2.1 mt_Tu_hoursSeen.2.2.2 ∈ g_G.2.1 := g_memT (g_t5 3 rfl) rfl
theorem im_Tu_hoursSeen : Cond.instanceMethod mt_Tu_hoursSeen.1 ∈ g_G.2.1 := g_memT (g_t5 2 rfl) rfl
theorem se_Tu_hoursSeen : Cond.selects mt_Tu_hoursSeen.1.cls mt_Tu_hoursSeen.1 mt_Tu_hoursSeen.1 ∈ g_G.2.1 := g_memT (g_t0 22 rfl) rfl
theorem cd_Tu_diary : Cond.code mt_Tu_diary.1 mt_Tu_diary.2.1 mt_Tu_diary.2.2.1 mt_Tu_diary.2.2.2 ∈ g_G.2.1 := g_memT (g_t5 7 rfl) rfl
theorem im_Tu_diary : Cond.instanceMethod mt_Tu_diary.1 ∈ g_G.2.1 := g_memT (g_t5 5 rfl) rfl
theorem se_Tu_diary : Cond.selects mt_Tu_diary.1.cls mt_Tu_diary.1 mt_Tu_diary.1 ∈ g_G.2.1 := g_memT (g_t5 6 rfl) rfl
theorem cd_Di_write : Cond.code mt_Di_write.1 mt_Di_write.2.1 mt_Di_write.2.2.1 mt_Di_write.2.2.2 ∈ g_G.2.1 := g_memT (g_t5 11 rfl) rfl
theorem im_Di_write : Cond.instanceMethod mt_Di_write.1 ∈ g_G.2.1 := g_memT (g_t5 9 rfl) rfl
theorem se_Di_write : Cond.selects mt_Di_write.1.cls mt_Di_write.1 mt_Di_write.1 ∈ g_G.2.1 := g_memT (g_t5 10 rfl) rfl
theorem cd_Tu_turned : Cond.code mt_Tu_turned.1 mt_Tu_turned.2.1 mt_Tu_turned.2.2.1 mt_Tu_turned.2.2.2 ∈ g_G.2.1 := g_memT (g_t5 15 rfl) rfl
theorem im_Tu_turned : Cond.instanceMethod mt_Tu_turned.1 ∈ g_G.2.1 := g_memT (g_t5 13 rfl) rfl
theorem se_Tu_turned : Cond.selects mt_Tu_turned.1.cls mt_Tu_turned.1 mt_Tu_turned.1 ∈ g_G.2.1 := g_memT (g_t5 14 rfl) rfl
theorem cd_Gu_findTurns : Cond.code mt_Gu_findTurns.1 mt_Gu_findTurns.2.1 mt_Gu_findTurns.2.2.1 mt_Gu_findTurns.2.2.2 ∈ g_G.2.1 := g_memT (g_t5 19 rfl) rfl
theorem im_Gu_findTurns : Cond.instanceMethod mt_Gu_findTurns.1 ∈ g_G.2.1 := g_memT (g_t5 17 rfl) rfl
theorem se_Gu_findTurns : Cond.selects mt_Gu_findTurns.1.cls mt_Gu_findTurns.1 mt_Gu_findTurns.1 ∈ g_G.2.1 := g_memT (g_t5 18 rfl) rfl
theorem cd_Gu_fitsDiary : Cond.code mt_Gu_fitsDiary.1 mt_Gu_fitsDiary.2.1 mt_Gu_fitsDiary.2.2.1 mt_Gu_fitsDiary.2.2.2 ∈ g_G.2.1 := g_memT (g_t5 22 rfl) rfl
theorem sc_Gu_fitsDiary : Cond.static mt_Gu_fitsDiary.1 ∈ g_G.2.1 := g_memT (g_t5 21 rfl) rfl
theorem cd_Gu_sortsSeen : Cond.code mt_Gu_sortsSeen.1 mt_Gu_sortsSeen.2.1 mt_Gu_sortsSeen.2.2.1 mt_Gu_sortsSeen.2.2.2 ∈ g_G.2.1 := g_memT (g_t5 25 rfl) rfl
theorem sc_Gu_sortsSeen : Cond.static mt_Gu_sortsSeen.1 ∈ g_G.2.1 := g_memT (g_t5 24 rfl) rfl
theorem cd_Tu_look : Cond.code mt_Tu_look.1 mt_Tu_look.2.1 mt_Tu_look.2.2.1 mt_Tu_look.2.2.2 ∈ g_G.2.1 := g_memT (g_t5 32 rfl) rfl
theorem im_Tu_look : Cond.instanceMethod mt_Tu_look.1 ∈ g_G.2.1 := g_memT (g_t5 30 rfl) rfl
theorem se_Tu_look : Cond.selects mt_Tu_look.1.cls mt_Tu_look.1 mt_Tu_look.1 ∈ g_G.2.1 := g_memT (g_t5 31 rfl) rfl
theorem cd_Gu_findLook : Cond.code mt_Gu_findLook.1 mt_Gu_findLook.2.1 mt_Gu_findLook.2.2.1 mt_Gu_findLook.2.2.2 ∈ g_G.2.1 := g_memT (g_t5 36 rfl) rfl
theorem im_Gu_findLook : Cond.instanceMethod mt_Gu_findLook.1 ∈ g_G.2.1 := g_memT (g_t5 34 rfl) rfl
theorem se_Gu_findLook : Cond.selects mt_Gu_findLook.1.cls mt_Gu_findLook.1 mt_Gu_findLook.1 ∈ g_G.2.1 := g_memT (g_t5 35 rfl) rfl
theorem cd_Tu_days : Cond.code mt_Tu_days.1 mt_Tu_days.2.1 mt_Tu_days.2.2.1 mt_Tu_days.2.2.2 ∈ g_G.2.1 := g_memT (g_t5 42 rfl) rfl
theorem im_Tu_days : Cond.instanceMethod mt_Tu_days.1 ∈ g_G.2.1 := g_memT (g_t5 40 rfl) rfl
theorem se_Tu_days : Cond.selects mt_Tu_days.1.cls mt_Tu_days.1 mt_Tu_days.1 ∈ g_G.2.1 := g_memT (g_t5 41 rfl) rfl
theorem cd_Tu_nextDraw : Cond.code mt_Tu_nextDraw.1 mt_Tu_nextDraw.2.1 mt_Tu_nextDraw.2.2.1 mt_Tu_nextDraw.2.2.2 ∈ g_G.2.1 := g_memT (g_t5 46 rfl) rfl
theorem sc_Tu_nextDraw : Cond.static mt_Tu_nextDraw.1 ∈ g_G.2.1 := g_memT (g_t5 45 rfl) rfl
theorem cd_Mo_init : Cond.code mt_Mo_init.1 mt_Mo_init.2.1 mt_Mo_init.2.2.1 mt_Mo_init.2.2.2 ∈ g_G.2.1 := g_memT (g_t5 56 rfl) rfl
theorem im_Mo_init : Cond.instanceMethod mt_Mo_init.1 ∈ g_G.2.1 := g_memT (g_t5 55 rfl) rfl
theorem cd_Mo_feed : Cond.code mt_Mo_feed.1 mt_Mo_feed.2.1 mt_Mo_feed.2.2.1 mt_Mo_feed.2.2.2 ∈ g_G.2.1 := g_memT (g_t5 173 rfl) rfl
theorem im_Mo_feed : Cond.instanceMethod mt_Mo_feed.1 ∈ g_G.2.1 := g_memT (g_t5 171 rfl) rfl
theorem se_Mo_feed : Cond.selects mt_Mo_feed.1.cls mt_Mo_feed.1 mt_Mo_feed.1 ∈ g_G.2.1 := g_memT (g_t5 172 rfl) rfl
theorem cd_Mo_four : Cond.code mt_Mo_four.1 mt_Mo_four.2.1 mt_Mo_four.2.2.1 mt_Mo_four.2.2.2 ∈ g_G.2.1 := g_memT (g_t5 177 rfl) rfl
theorem im_Mo_four : Cond.instanceMethod mt_Mo_four.1 ∈ g_G.2.1 := g_memT (g_t5 176 rfl) rfl
theorem se_Mo_four : Cond.selects mt_Mo_four.1.cls mt_Mo_four.1 mt_Mo_four.1 ∈ g_G.2.1 := g_memT (g_t0 23 rfl) rfl
theorem cd_Mo_end : Cond.code mt_Mo_end.1 mt_Mo_end.2.1 mt_Mo_end.2.2.1 mt_Mo_end.2.2.2 ∈ g_G.2.1 := g_memT (g_t5 181 rfl) rfl
theorem im_Mo_end : Cond.instanceMethod mt_Mo_end.1 ∈ g_G.2.1 := g_memT (g_t5 179 rfl) rfl
theorem se_Mo_end : Cond.selects mt_Mo_end.1.cls mt_Mo_end.1 mt_Mo_end.1 ∈ g_G.2.1 := g_memT (g_t5 180 rfl) rfl
theorem cd_Mo_rule : Cond.code mt_Mo_rule.1 mt_Mo_rule.2.1 mt_Mo_rule.2.2.1 mt_Mo_rule.2.2.2 ∈ g_G.2.1 := g_memT (g_t5 185 rfl) rfl
theorem im_Mo_rule : Cond.instanceMethod mt_Mo_rule.1 ∈ g_G.2.1 := g_memT (g_t5 183 rfl) rfl
theorem se_Mo_rule : Cond.selects mt_Mo_rule.1.cls mt_Mo_rule.1 mt_Mo_rule.1 ∈ g_G.2.1 := g_memT (g_t5 184 rfl) rfl
theorem cd_Mo_readsAll : Cond.code mt_Mo_readsAll.1 mt_Mo_readsAll.2.1 mt_Mo_readsAll.2.2.1 mt_Mo_readsAll.2.2.2 ∈ g_G.2.1 := g_memT (g_t5 189 rfl) rfl
theorem im_Mo_readsAll : Cond.instanceMethod mt_Mo_readsAll.1 ∈ g_G.2.1 := g_memT (g_t5 188 rfl) rfl
theorem se_Mo_readsAll : Cond.selects mt_Mo_readsAll.1.cls mt_Mo_readsAll.1 mt_Mo_readsAll.1 ∈ g_G.2.1 := g_memT (g_t0 24 rfl) rfl
theorem cd_Mo_clauseHere : Cond.code mt_Mo_clauseHere.1 mt_Mo_clauseHere.2.1 mt_Mo_clauseHere.2.2.1 mt_Mo_clauseHere.2.2.2 ∈ g_G.2.1 := g_memT (g_t5 193 rfl) rfl
theorem im_Mo_clauseHere : Cond.instanceMethod mt_Mo_clauseHere.1 ∈ g_G.2.1 := g_memT (g_t5 192 rfl) rfl
theorem se_Mo_clauseHere : Cond.selects mt_Mo_clauseHere.1.cls mt_Mo_clauseHere.1 mt_Mo_clauseHere.1 ∈ g_G.2.1 := g_memT (g_t0 25 rfl) rfl
theorem cd_Mo_see : Cond.code mt_Mo_see.1 mt_Mo_see.2.1 mt_Mo_see.2.2.1 mt_Mo_see.2.2.2 ∈ g_G.2.1 := g_memT (g_t5 197 rfl) rfl
theorem im_Mo_see : Cond.instanceMethod mt_Mo_see.1 ∈ g_G.2.1 := g_memT (g_t5 196 rfl) rfl
theorem se_Mo_see : Cond.selects mt_Mo_see.1.cls mt_Mo_see.1 mt_Mo_see.1 ∈ g_G.2.1 := g_memT (g_t0 26 rfl) rfl
theorem cd_Mo_isRingWord : Cond.code mt_Mo_isRingWord.1 mt_Mo_isRingWord.2.1 mt_Mo_isRingWord.2.2.1 mt_Mo_isRingWord.2.2.2 ∈ g_G.2.1 := g_memT (g_t5 201 rfl) rfl
theorem im_Mo_isRingWord : Cond.instanceMethod mt_Mo_isRingWord.1 ∈ g_G.2.1 := g_memT (g_t5 200 rfl) rfl
theorem se_Mo_isRingWord : Cond.selects mt_Mo_isRingWord.1.cls mt_Mo_isRingWord.1 mt_Mo_isRingWord.1 ∈ g_G.2.1 := g_memT (g_t0 27 rfl) rfl
theorem cd_Mo_isWord : Cond.code mt_Mo_isWord.1 mt_Mo_isWord.2.1 mt_Mo_isWord.2.2.1 mt_Mo_isWord.2.2.2 ∈ g_G.2.1 := g_memT (g_t5 206 rfl) rfl
theorem im_Mo_isWord : Cond.instanceMethod mt_Mo_isWord.1 ∈ g_G.2.1 := g_memT (g_t5 205 rfl) rfl
theorem se_Mo_isWord : Cond.selects mt_Mo_isWord.1.cls mt_Mo_isWord.1 mt_Mo_isWord.1 ∈ g_G.2.1 := g_memT (g_t0 28 rfl) rfl
theorem cd_Mo_isLetter : Cond.code mt_Mo_isLetter.1 mt_Mo_isLetter.2.1 mt_Mo_isLetter.2.2.1 mt_Mo_isLetter.2.2.2 ∈ g_G.2.1 := g_memT (g_t5 210 rfl) rfl
theorem im_Mo_isLetter : Cond.instanceMethod mt_Mo_isLetter.1 ∈ g_G.2.1 := g_memT (g_t5 209 rfl) rfl
theorem se_Mo_isLetter : Cond.selects mt_Mo_isLetter.1.cls mt_Mo_isLetter.1 mt_Mo_isLetter.1 ∈ g_G.2.1 := g_memT (g_t0 29 rfl) rfl
theorem cd_Mo_fails : Cond.code mt_Mo_fails.1 mt_Mo_fails.2.1 mt_Mo_fails.2.2.1 mt_Mo_fails.2.2.2 ∈ g_G.2.1 := g_memT (g_t5 221 rfl) rfl
theorem im_Mo_fails : Cond.instanceMethod mt_Mo_fails.1 ∈ g_G.2.1 := g_memT (g_t5 220 rfl) rfl
theorem se_Mo_fails : Cond.selects mt_Mo_fails.1.cls mt_Mo_fails.1 mt_Mo_fails.1 ∈ g_G.2.1 := g_memT (g_t0 30 rfl) rfl
theorem cd_Mo_ringLineHere : Cond.code mt_Mo_ringLineHere.1 mt_Mo_ringLineHere.2.1 mt_Mo_ringLineHere.2.2.1 mt_Mo_ringLineHere.2.2.2 ∈ g_G.2.1 := g_memT (g_t5 225 rfl) rfl
theorem im_Mo_ringLineHere : Cond.instanceMethod mt_Mo_ringLineHere.1 ∈ g_G.2.1 := g_memT (g_t5 224 rfl) rfl
theorem se_Mo_ringLineHere : Cond.selects mt_Mo_ringLineHere.1.cls mt_Mo_ringLineHere.1 mt_Mo_ringLineHere.1 ∈ g_G.2.1 := g_memT (g_t0 31 rfl) rfl
theorem cd_Mo_isRingHere : Cond.code mt_Mo_isRingHere.1 mt_Mo_isRingHere.2.1 mt_Mo_isRingHere.2.2.1 mt_Mo_isRingHere.2.2.2 ∈ g_G.2.1 := g_memT (g_t5 229 rfl) rfl
theorem im_Mo_isRingHere : Cond.instanceMethod mt_Mo_isRingHere.1 ∈ g_G.2.1 := g_memT (g_t5 228 rfl) rfl
theorem se_Mo_isRingHere : Cond.selects mt_Mo_isRingHere.1.cls mt_Mo_isRingHere.1 mt_Mo_isRingHere.1 ∈ g_G.2.1 := g_memT (g_t0 32 rfl) rfl
theorem cd_Mo_passWord : Cond.code mt_Mo_passWord.1 mt_Mo_passWord.2.1 mt_Mo_passWord.2.2.1 mt_Mo_passWord.2.2.2 ∈ g_G.2.1 := g_memT (g_t5 233 rfl) rfl
theorem im_Mo_passWord : Cond.instanceMethod mt_Mo_passWord.1 ∈ g_G.2.1 := g_memT (g_t5 232 rfl) rfl
theorem se_Mo_passWord : Cond.selects mt_Mo_passWord.1.cls mt_Mo_passWord.1 mt_Mo_passWord.1 ∈ g_G.2.1 := g_memT (g_t0 33 rfl) rfl
theorem cd_Mo_cellHere : Cond.code mt_Mo_cellHere.1 mt_Mo_cellHere.2.1 mt_Mo_cellHere.2.2.1 mt_Mo_cellHere.2.2.2 ∈ g_G.2.1 := g_memT (g_t5 237 rfl) rfl
theorem im_Mo_cellHere : Cond.instanceMethod mt_Mo_cellHere.1 ∈ g_G.2.1 := g_memT (g_t5 236 rfl) rfl
theorem se_Mo_cellHere : Cond.selects mt_Mo_cellHere.1.cls mt_Mo_cellHere.1 mt_Mo_cellHere.1 ∈ g_G.2.1 := g_memT (g_t0 34 rfl) rfl
theorem cd_Mo_numberHere : Cond.code mt_Mo_numberHere.1 mt_Mo_numberHere.2.1 mt_Mo_numberHere.2.2.1 mt_Mo_numberHere.2.2.2 ∈ g_G.2.1 := g_memT (g_t6 1 rfl) rfl
theorem im_Mo_numberHere : Cond.instanceMethod mt_Mo_numberHere.1 ∈ g_G.2.1 := g_memT (g_t6 0 rfl) rfl
theorem se_Mo_numberHere : Cond.selects mt_Mo_numberHere.1.cls mt_Mo_numberHere.1 mt_Mo_numberHere.1 ∈ g_G.2.1 := g_memT (g_t0 35 rfl) rfl
theorem cd_Mo_isDigit : Cond.code mt_Mo_isDigit.1 mt_Mo_isDigit.2.1 mt_Mo_isDigit.2.2.1 mt_Mo_isDigit.2.2.2 ∈ g_G.2.1 := g_memT (g_t6 5 rfl) rfl
theorem im_Mo_isDigit : Cond.instanceMethod mt_Mo_isDigit.1 ∈ g_G.2.1 := g_memT (g_t6 4 rfl) rfl
theorem se_Mo_isDigit : Cond.selects mt_Mo_isDigit.1.cls mt_Mo_isDigit.1 mt_Mo_isDigit.1 ∈ g_G.2.1 := g_memT (g_t0 36 rfl) rfl
theorem cd_Mo_in : Cond.code mt_Mo_in.1 mt_Mo_in.2.1 mt_Mo_in.2.2.1 mt_Mo_in.2.2.2 ∈ g_G.2.1 := g_memT (g_t6 8 rfl) rfl
theorem sc_Mo_in : Cond.static mt_Mo_in.1 ∈ g_G.2.1 := g_memT (g_t6 7 rfl) rfl
theorem cd_Mo_isHouseHere : Cond.code mt_Mo_isHouseHere.1 mt_Mo_isHouseHere.2.1 mt_Mo_isHouseHere.2.2.1 mt_Mo_isHouseHere.2.2.2 ∈ g_G.2.1 := g_memT (g_t6 12 rfl) rfl
theorem im_Mo_isHouseHere : Cond.instanceMethod mt_Mo_isHouseHere.1 ∈ g_G.2.1 := g_memT (g_t6 11 rfl) rfl
theorem se_Mo_isHouseHere : Cond.selects mt_Mo_isHouseHere.1.cls mt_Mo_isHouseHere.1 mt_Mo_isHouseHere.1 ∈ g_G.2.1 := g_memT (g_t0 37 rfl) rfl
theorem cd_Mo_isSightHere : Cond.code mt_Mo_isSightHere.1 mt_Mo_isSightHere.2.1 mt_Mo_isSightHere.2.2.1 mt_Mo_isSightHere.2.2.2 ∈ g_G.2.1 := g_memT (g_t6 16 rfl) rfl
theorem im_Mo_isSightHere : Cond.instanceMethod mt_Mo_isSightHere.1 ∈ g_G.2.1 := g_memT (g_t6 15 rfl) rfl
theorem se_Mo_isSightHere : Cond.selects mt_Mo_isSightHere.1.cls mt_Mo_isSightHere.1 mt_Mo_isSightHere.1 ∈ g_G.2.1 := g_memT (g_t0 38 rfl) rfl
theorem cd_Mo_isLikeHere : Cond.code mt_Mo_isLikeHere.1 mt_Mo_isLikeHere.2.1 mt_Mo_isLikeHere.2.2.1 mt_Mo_isLikeHere.2.2.2 ∈ g_G.2.1 := g_memT (g_t6 20 rfl) rfl
theorem im_Mo_isLikeHere : Cond.instanceMethod mt_Mo_isLikeHere.1 ∈ g_G.2.1 := g_memT (g_t6 19 rfl) rfl
theorem se_Mo_isLikeHere : Cond.selects mt_Mo_isLikeHere.1.cls mt_Mo_isLikeHere.1 mt_Mo_isLikeHere.1 ∈ g_G.2.1 := g_memT (g_t0 39 rfl) rfl
theorem cd_Mo_isGateHere : Cond.code mt_Mo_isGateHere.1 mt_Mo_isGateHere.2.1 mt_Mo_isGateHere.2.2.1 mt_Mo_isGateHere.2.2.2 ∈ g_G.2.1 := g_memT (g_t6 24 rfl) rfl
theorem im_Mo_isGateHere : Cond.instanceMethod mt_Mo_isGateHere.1 ∈ g_G.2.1 := g_memT (g_t6 23 rfl) rfl
theorem se_Mo_isGateHere : Cond.selects mt_Mo_isGateHere.1.cls mt_Mo_isGateHere.1 mt_Mo_isGateHere.1 ∈ g_G.2.1 := g_memT (g_t0 40 rfl) rfl
theorem cd_Mo_isRateHere : Cond.code mt_Mo_isRateHere.1 mt_Mo_isRateHere.2.1 mt_Mo_isRateHere.2.2.1 mt_Mo_isRateHere.2.2.2 ∈ g_G.2.1 := g_memT (g_t6 28 rfl) rfl
theorem im_Mo_isRateHere : Cond.instanceMethod mt_Mo_isRateHere.1 ∈ g_G.2.1 := g_memT (g_t6 27 rfl) rfl
theorem se_Mo_isRateHere : Cond.selects mt_Mo_isRateHere.1.cls mt_Mo_isRateHere.1 mt_Mo_isRateHere.1 ∈ g_G.2.1 := g_memT (g_t0 41 rfl) rfl
theorem cd_Mo_isTurnHere : Cond.code mt_Mo_isTurnHere.1 mt_Mo_isTurnHere.2.1 mt_Mo_isTurnHere.2.2.1 mt_Mo_isTurnHere.2.2.2 ∈ g_G.2.1 := g_memT (g_t6 32 rfl) rfl
theorem im_Mo_isTurnHere : Cond.instanceMethod mt_Mo_isTurnHere.1 ∈ g_G.2.1 := g_memT (g_t6 31 rfl) rfl
theorem se_Mo_isTurnHere : Cond.selects mt_Mo_isTurnHere.1.cls mt_Mo_isTurnHere.1 mt_Mo_isTurnHere.1 ∈ g_G.2.1 := g_memT (g_t0 42 rfl) rfl
theorem cd_Mo_sum : Cond.code mt_Mo_sum.1 mt_Mo_sum.2.1 mt_Mo_sum.2.2.1 mt_Mo_sum.2.2.2 ∈ g_G.2.1 := g_memT (g_t6 36 rfl) rfl
theorem im_Mo_sum : Cond.instanceMethod mt_Mo_sum.1 ∈ g_G.2.1 := g_memT (g_t6 35 rfl) rfl
theorem se_Mo_sum : Cond.selects mt_Mo_sum.1.cls mt_Mo_sum.1 mt_Mo_sum.1 ∈ g_G.2.1 := g_memT (g_t0 43 rfl) rfl
theorem cd_Mo_term : Cond.code mt_Mo_term.1 mt_Mo_term.2.1 mt_Mo_term.2.2.1 mt_Mo_term.2.2.2 ∈ g_G.2.1 := g_memT (g_t6 40 rfl) rfl
theorem im_Mo_term : Cond.instanceMethod mt_Mo_term.1 ∈ g_G.2.1 := g_memT (g_t6 39 rfl) rfl
theorem se_Mo_term : Cond.selects mt_Mo_term.1.cls mt_Mo_term.1 mt_Mo_term.1 ∈ g_G.2.1 := g_memT (g_t0 44 rfl) rfl
theorem cd_Mo_value : Cond.code mt_Mo_value.1 mt_Mo_value.2.1 mt_Mo_value.2.2.1 mt_Mo_value.2.2.2 ∈ g_G.2.1 := g_memT (g_t6 44 rfl) rfl
theorem im_Mo_value : Cond.instanceMethod mt_Mo_value.1 ∈ g_G.2.1 := g_memT (g_t6 43 rfl) rfl
theorem se_Mo_value : Cond.selects mt_Mo_value.1.cls mt_Mo_value.1 mt_Mo_value.1 ∈ g_G.2.1 := g_memT (g_t0 45 rfl) rfl
theorem cd_Mo_makes : Cond.code mt_Mo_makes.1 mt_Mo_makes.2.1 mt_Mo_makes.2.2.1 mt_Mo_makes.2.2.2 ∈ g_G.2.1 := g_memT (g_t6 49 rfl) rfl
theorem im_Mo_makes : Cond.instanceMethod mt_Mo_makes.1 ∈ g_G.2.1 := g_memT (g_t6 48 rfl) rfl
theorem se_Mo_makes : Cond.selects mt_Mo_makes.1.cls mt_Mo_makes.1 mt_Mo_makes.1 ∈ g_G.2.1 := g_memT (g_t0 46 rfl) rfl
theorem cd_Mo_puts : Cond.code mt_Mo_puts.1 mt_Mo_puts.2.1 mt_Mo_puts.2.2.1 mt_Mo_puts.2.2.2 ∈ g_G.2.1 := g_memT (g_t6 53 rfl) rfl
theorem im_Mo_puts : Cond.instanceMethod mt_Mo_puts.1 ∈ g_G.2.1 := g_memT (g_t6 52 rfl) rfl
theorem se_Mo_puts : Cond.selects mt_Mo_puts.1.cls mt_Mo_puts.1 mt_Mo_puts.1 ∈ g_G.2.1 := g_memT (g_t0 47 rfl) rfl
theorem cd_Mo_wordHere : Cond.code mt_Mo_wordHere.1 mt_Mo_wordHere.2.1 mt_Mo_wordHere.2.2.1 mt_Mo_wordHere.2.2.2 ∈ g_G.2.1 := g_memT (g_t6 57 rfl) rfl
theorem im_Mo_wordHere : Cond.instanceMethod mt_Mo_wordHere.1 ∈ g_G.2.1 := g_memT (g_t6 56 rfl) rfl
theorem se_Mo_wordHere : Cond.selects mt_Mo_wordHere.1.cls mt_Mo_wordHere.1 mt_Mo_wordHere.1 ∈ g_G.2.1 := g_memT (g_t0 48 rfl) rfl
theorem cd_Mo_takesWord : Cond.code mt_Mo_takesWord.1 mt_Mo_takesWord.2.1 mt_Mo_takesWord.2.2.1 mt_Mo_takesWord.2.2.2 ∈ g_G.2.1 := g_memT (g_t6 73 rfl) rfl
theorem im_Mo_takesWord : Cond.instanceMethod mt_Mo_takesWord.1 ∈ g_G.2.1 := g_memT (g_t6 72 rfl) rfl
theorem se_Mo_takesWord : Cond.selects mt_Mo_takesWord.1.cls mt_Mo_takesWord.1 mt_Mo_takesWord.1 ∈ g_G.2.1 := g_memT (g_t0 49 rfl) rfl
theorem cd_Mo_tested : Cond.code mt_Mo_tested.1 mt_Mo_tested.2.1 mt_Mo_tested.2.2.1 mt_Mo_tested.2.2.2 ∈ g_G.2.1 := g_memT (g_t6 77 rfl) rfl
theorem im_Mo_tested : Cond.instanceMethod mt_Mo_tested.1 ∈ g_G.2.1 := g_memT (g_t6 76 rfl) rfl
theorem se_Mo_tested : Cond.selects mt_Mo_tested.1.cls mt_Mo_tested.1 mt_Mo_tested.1 ∈ g_G.2.1 := g_memT (g_t0 50 rfl) rfl
theorem cd_Mo_fact : Cond.code mt_Mo_fact.1 mt_Mo_fact.2.1 mt_Mo_fact.2.2.1 mt_Mo_fact.2.2.2 ∈ g_G.2.1 := g_memT (g_t6 81 rfl) rfl
theorem im_Mo_fact : Cond.instanceMethod mt_Mo_fact.1 ∈ g_G.2.1 := g_memT (g_t6 80 rfl) rfl
theorem se_Mo_fact : Cond.selects mt_Mo_fact.1.cls mt_Mo_fact.1 mt_Mo_fact.1 ∈ g_G.2.1 := g_memT (g_t0 51 rfl) rfl
theorem cd_Mo_opens : Cond.code mt_Mo_opens.1 mt_Mo_opens.2.1 mt_Mo_opens.2.2.1 mt_Mo_opens.2.2.2 ∈ g_G.2.1 := g_memT (g_t6 86 rfl) rfl
theorem im_Mo_opens : Cond.instanceMethod mt_Mo_opens.1 ∈ g_G.2.1 := g_memT (g_t6 85 rfl) rfl
theorem se_Mo_opens : Cond.selects mt_Mo_opens.1.cls mt_Mo_opens.1 mt_Mo_opens.1 ∈ g_G.2.1 := g_memT (g_t0 52 rfl) rfl
theorem cd_Mo_compare : Cond.code mt_Mo_compare.1 mt_Mo_compare.2.1 mt_Mo_compare.2.2.1 mt_Mo_compare.2.2.2 ∈ g_G.2.1 := g_memT (g_t6 90 rfl) rfl
theorem im_Mo_compare : Cond.instanceMethod mt_Mo_compare.1 ∈ g_G.2.1 := g_memT (g_t6 89 rfl) rfl
theorem se_Mo_compare : Cond.selects mt_Mo_compare.1.cls mt_Mo_compare.1 mt_Mo_compare.1 ∈ g_G.2.1 := g_memT (g_t0 53 rfl) rfl
theorem cd_Mo_closes : Cond.code mt_Mo_closes.1 mt_Mo_closes.2.1 mt_Mo_closes.2.2.1 mt_Mo_closes.2.2.2 ∈ g_G.2.1 := g_memT (g_t6 94 rfl) rfl
theorem im_Mo_closes : Cond.instanceMethod mt_Mo_closes.1 ∈ g_G.2.1 := g_memT (g_t6 93 rfl) rfl
theorem se_Mo_closes : Cond.selects mt_Mo_closes.1.cls mt_Mo_closes.1 mt_Mo_closes.1 ∈ g_G.2.1 := g_memT (g_t0 54 rfl) rfl
theorem cd_Mo_settles : Cond.code mt_Mo_settles.1 mt_Mo_settles.2.1 mt_Mo_settles.2.2.1 mt_Mo_settles.2.2.2 ∈ g_G.2.1 := g_memT (g_t6 98 rfl) rfl
theorem im_Mo_settles : Cond.instanceMethod mt_Mo_settles.1 ∈ g_G.2.1 := g_memT (g_t6 97 rfl) rfl
theorem se_Mo_settles : Cond.selects mt_Mo_settles.1.cls mt_Mo_settles.1 mt_Mo_settles.1 ∈ g_G.2.1 := g_memT (g_t0 55 rfl) rfl
theorem cd_Mo_strength : Cond.code mt_Mo_strength.1 mt_Mo_strength.2.1 mt_Mo_strength.2.2.1 mt_Mo_strength.2.2.2 ∈ g_G.2.1 := g_memT (g_t6 101 rfl) rfl
theorem sc_Mo_strength : Cond.static mt_Mo_strength.1 ∈ g_G.2.1 := g_memT (g_t6 100 rfl) rfl
theorem cd_Mo_isInside : Cond.code mt_Mo_isInside.1 mt_Mo_isInside.2.1 mt_Mo_isInside.2.2.1 mt_Mo_isInside.2.2.2 ∈ g_G.2.1 := g_memT (g_t6 105 rfl) rfl
theorem im_Mo_isInside : Cond.instanceMethod mt_Mo_isInside.1 ∈ g_G.2.1 := g_memT (g_t6 104 rfl) rfl
theorem se_Mo_isInside : Cond.selects mt_Mo_isInside.1.cls mt_Mo_isInside.1 mt_Mo_isInside.1 ∈ g_G.2.1 := g_memT (g_t0 56 rfl) rfl
theorem cd_Mo_ring : Cond.code mt_Mo_ring.1 mt_Mo_ring.2.1 mt_Mo_ring.2.2.1 mt_Mo_ring.2.2.2 ∈ g_G.2.1 := g_memT (g_t6 111 rfl) rfl
theorem im_Mo_ring : Cond.instanceMethod mt_Mo_ring.1 ∈ g_G.2.1 := g_memT (g_t6 109 rfl) rfl
theorem se_Mo_ring : Cond.selects mt_Mo_ring.1.cls mt_Mo_ring.1 mt_Mo_ring.1 ∈ g_G.2.1 := g_memT (g_t6 110 rfl) rfl
theorem cd_Mo_house : Cond.code mt_Mo_house.1 mt_Mo_house.2.1 mt_Mo_house.2.2.1 mt_Mo_house.2.2.2 ∈ g_G.2.1 := g_memT (g_t6 115 rfl) rfl
theorem im_Mo_house : Cond.instanceMethod mt_Mo_house.1 ∈ g_G.2.1 := g_memT (g_t6 113 rfl) rfl
theorem se_Mo_house : Cond.selects mt_Mo_house.1.cls mt_Mo_house.1 mt_Mo_house.1 ∈ g_G.2.1 := g_memT (g_t6 114 rfl) rfl
theorem cd_Mo_isHouse : Cond.code mt_Mo_isHouse.1 mt_Mo_isHouse.2.1 mt_Mo_isHouse.2.2.1 mt_Mo_isHouse.2.2.2 ∈ g_G.2.1 := g_memT (g_t6 119 rfl) rfl
theorem im_Mo_isHouse : Cond.instanceMethod mt_Mo_isHouse.1 ∈ g_G.2.1 := g_memT (g_t6 118 rfl) rfl
theorem se_Mo_isHouse : Cond.selects mt_Mo_isHouse.1.cls mt_Mo_isHouse.1 mt_Mo_isHouse.1 ∈ g_G.2.1 := g_memT (g_t0 57 rfl) rfl
theorem cd_Mo_facesOf : Cond.code mt_Mo_facesOf.1 mt_Mo_facesOf.2.1 mt_Mo_facesOf.2.2.1 mt_Mo_facesOf.2.2.2 ∈ g_G.2.1 := g_memT (g_t6 123 rfl) rfl
theorem im_Mo_facesOf : Cond.instanceMethod mt_Mo_facesOf.1 ∈ g_G.2.1 := g_memT (g_t6 122 rfl) rfl
theorem se_Mo_facesOf : Cond.selects mt_Mo_facesOf.1.cls mt_Mo_facesOf.1 mt_Mo_facesOf.1 ∈ g_G.2.1 := g_memT (g_t0 58 rfl) rfl
theorem cd_Mo_round : Cond.code mt_Mo_round.1 mt_Mo_round.2.1 mt_Mo_round.2.2.1 mt_Mo_round.2.2.2 ∈ g_G.2.1 := g_memT (g_t6 126 rfl) rfl
theorem sc_Mo_round : Cond.static mt_Mo_round.1 ∈ g_G.2.1 := g_memT (g_t6 125 rfl) rfl
theorem cd_Mo_sortsAt : Cond.code mt_Mo_sortsAt.1 mt_Mo_sortsAt.2.1 mt_Mo_sortsAt.2.2.1 mt_Mo_sortsAt.2.2.2 ∈ g_G.2.1 := g_memT (g_t6 130 rfl) rfl
theorem im_Mo_sortsAt : Cond.instanceMethod mt_Mo_sortsAt.1 ∈ g_G.2.1 := g_memT (g_t6 129 rfl) rfl
theorem se_Mo_sortsAt : Cond.selects mt_Mo_sortsAt.1.cls mt_Mo_sortsAt.1 mt_Mo_sortsAt.1 ∈ g_G.2.1 := g_memT (g_t0 59 rfl) rfl
theorem cd_Mo_likesOf : Cond.code mt_Mo_likesOf.1 mt_Mo_likesOf.2.1 mt_Mo_likesOf.2.2.1 mt_Mo_likesOf.2.2.2 ∈ g_G.2.1 := g_memT (g_t6 134 rfl) rfl
theorem im_Mo_likesOf : Cond.instanceMethod mt_Mo_likesOf.1 ∈ g_G.2.1 := g_memT (g_t6 133 rfl) rfl
theorem se_Mo_likesOf : Cond.selects mt_Mo_likesOf.1.cls mt_Mo_likesOf.1 mt_Mo_likesOf.1 ∈ g_G.2.1 := g_memT (g_t0 60 rfl) rfl
theorem cd_Mo_likesAt : Cond.code mt_Mo_likesAt.1 mt_Mo_likesAt.2.1 mt_Mo_likesAt.2.2.1 mt_Mo_likesAt.2.2.2 ∈ g_G.2.1 := g_memT (g_t6 138 rfl) rfl
theorem im_Mo_likesAt : Cond.instanceMethod mt_Mo_likesAt.1 ∈ g_G.2.1 := g_memT (g_t6 137 rfl) rfl
theorem se_Mo_likesAt : Cond.selects mt_Mo_likesAt.1.cls mt_Mo_likesAt.1 mt_Mo_likesAt.1 ∈ g_G.2.1 := g_memT (g_t0 61 rfl) rfl
theorem cd_Mo_isOf : Cond.code mt_Mo_isOf.1 mt_Mo_isOf.2.1 mt_Mo_isOf.2.2.1 mt_Mo_isOf.2.2.2 ∈ g_G.2.1 := g_memT (g_t6 141 rfl) rfl
theorem sc_Mo_isOf : Cond.static mt_Mo_isOf.1 ∈ g_G.2.1 := g_memT (g_t6 140 rfl) rfl
theorem cd_Mo_wantsStay : Cond.code mt_Mo_wantsStay.1 mt_Mo_wantsStay.2.1 mt_Mo_wantsStay.2.2.1 mt_Mo_wantsStay.2.2.2 ∈ g_G.2.1 := g_memT (g_t6 145 rfl) rfl
theorem im_Mo_wantsStay : Cond.instanceMethod mt_Mo_wantsStay.1 ∈ g_G.2.1 := g_memT (g_t6 144 rfl) rfl
theorem se_Mo_wantsStay : Cond.selects mt_Mo_wantsStay.1.cls mt_Mo_wantsStay.1 mt_Mo_wantsStay.1 ∈ g_G.2.1 := g_memT (g_t0 62 rfl) rfl
theorem cd_Mo_rateNow : Cond.code mt_Mo_rateNow.1 mt_Mo_rateNow.2.1 mt_Mo_rateNow.2.2.1 mt_Mo_rateNow.2.2.2 ∈ g_G.2.1 := g_memT (g_t6 149 rfl) rfl
theorem im_Mo_rateNow : Cond.instanceMethod mt_Mo_rateNow.1 ∈ g_G.2.1 := g_memT (g_t6 148 rfl) rfl
theorem se_Mo_rateNow : Cond.selects mt_Mo_rateNow.1.cls mt_Mo_rateNow.1 mt_Mo_rateNow.1 ∈ g_G.2.1 := g_memT (g_t0 63 rfl) rfl
theorem cd_Mo_direction : Cond.code mt_Mo_direction.1 mt_Mo_direction.2.1 mt_Mo_direction.2.2.1 mt_Mo_direction.2.2.2 ∈ g_G.2.1 := g_memT (g_t6 155 rfl) rfl
theorem im_Mo_direction : Cond.instanceMethod mt_Mo_direction.1 ∈ g_G.2.1 := g_memT (g_t6 153 rfl) rfl
theorem se_Mo_direction : Cond.selects mt_Mo_direction.1.cls mt_Mo_direction.1 mt_Mo_direction.1 ∈ g_G.2.1 := g_memT (g_t6 154 rfl) rfl
theorem cd_Mo_isRing : Cond.code mt_Mo_isRing.1 mt_Mo_isRing.2.1 mt_Mo_isRing.2.2.1 mt_Mo_isRing.2.2.2 ∈ g_G.2.1 := g_memT (g_t6 159 rfl) rfl
theorem im_Mo_isRing : Cond.instanceMethod mt_Mo_isRing.1 ∈ g_G.2.1 := g_memT (g_t6 158 rfl) rfl
theorem se_Mo_isRing : Cond.selects mt_Mo_isRing.1.cls mt_Mo_isRing.1 mt_Mo_isRing.1 ∈ g_G.2.1 := g_memT (g_t0 64 rfl) rfl
theorem cd_Mo_rateOf : Cond.code mt_Mo_rateOf.1 mt_Mo_rateOf.2.1 mt_Mo_rateOf.2.2.1 mt_Mo_rateOf.2.2.2 ∈ g_G.2.1 := g_memT (g_t6 165 rfl) rfl
theorem im_Mo_rateOf : Cond.instanceMethod mt_Mo_rateOf.1 ∈ g_G.2.1 := g_memT (g_t6 163 rfl) rfl
theorem se_Mo_rateOf : Cond.selects mt_Mo_rateOf.1.cls mt_Mo_rateOf.1 mt_Mo_rateOf.1 ∈ g_G.2.1 := g_memT (g_t6 164 rfl) rfl
theorem cd_Mo_worn : Cond.code mt_Mo_worn.1 mt_Mo_worn.2.1 mt_Mo_worn.2.2.1 mt_Mo_worn.2.2.2 ∈ g_G.2.1 := g_memT (g_t6 170 rfl) rfl
theorem im_Mo_worn : Cond.instanceMethod mt_Mo_worn.1 ∈ g_G.2.1 := g_memT (g_t6 168 rfl) rfl
theorem se_Mo_worn : Cond.selects mt_Mo_worn.1.cls mt_Mo_worn.1 mt_Mo_worn.1 ∈ g_G.2.1 := g_memT (g_t6 169 rfl) rfl
theorem cd_Mo_undo : Cond.code mt_Mo_undo.1 mt_Mo_undo.2.1 mt_Mo_undo.2.2.1 mt_Mo_undo.2.2.2 ∈ g_G.2.1 := g_memT (g_t6 174 rfl) rfl
theorem im_Mo_undo : Cond.instanceMethod mt_Mo_undo.1 ∈ g_G.2.1 := g_memT (g_t6 172 rfl) rfl
theorem se_Mo_undo : Cond.selects mt_Mo_undo.1.cls mt_Mo_undo.1 mt_Mo_undo.1 ∈ g_G.2.1 := g_memT (g_t6 173 rfl) rfl
theorem cd_Mo_hour : Cond.code mt_Mo_hour.1 mt_Mo_hour.2.1 mt_Mo_hour.2.2.1 mt_Mo_hour.2.2.2 ∈ g_G.2.1 := g_memT (g_t6 178 rfl) rfl
theorem im_Mo_hour : Cond.instanceMethod mt_Mo_hour.1 ∈ g_G.2.1 := g_memT (g_t6 176 rfl) rfl
theorem se_Mo_hour : Cond.selects mt_Mo_hour.1.cls mt_Mo_hour.1 mt_Mo_hour.1 ∈ g_G.2.1 := g_memT (g_t6 177 rfl) rfl
theorem cd_Mo_canGo : Cond.code mt_Mo_canGo.1 mt_Mo_canGo.2.1 mt_Mo_canGo.2.2.1 mt_Mo_canGo.2.2.2 ∈ g_G.2.1 := g_memT (g_t6 182 rfl) rfl
theorem im_Mo_canGo : Cond.instanceMethod mt_Mo_canGo.1 ∈ g_G.2.1 := g_memT (g_t6 181 rfl) rfl
theorem se_Mo_canGo : Cond.selects mt_Mo_canGo.1.cls mt_Mo_canGo.1 mt_Mo_canGo.1 ∈ g_G.2.1 := g_memT (g_t0 65 rfl) rfl
theorem cd_Mo_keepsAct : Cond.code mt_Mo_keepsAct.1 mt_Mo_keepsAct.2.1 mt_Mo_keepsAct.2.2.1 mt_Mo_keepsAct.2.2.2 ∈ g_G.2.1 := g_memT (g_t6 186 rfl) rfl
theorem im_Mo_keepsAct : Cond.instanceMethod mt_Mo_keepsAct.1 ∈ g_G.2.1 := g_memT (g_t6 185 rfl) rfl
theorem se_Mo_keepsAct : Cond.selects mt_Mo_keepsAct.1.cls mt_Mo_keepsAct.1 mt_Mo_keepsAct.1 ∈ g_G.2.1 := g_memT (g_t0 66 rfl) rfl
theorem cd_Mo_passes : Cond.code mt_Mo_passes.1 mt_Mo_passes.2.1 mt_Mo_passes.2.2.1 mt_Mo_passes.2.2.2 ∈ g_G.2.1 := g_memT (g_t6 190 rfl) rfl
theorem im_Mo_passes : Cond.instanceMethod mt_Mo_passes.1 ∈ g_G.2.1 := g_memT (g_t6 189 rfl) rfl
theorem se_Mo_passes : Cond.selects mt_Mo_passes.1.cls mt_Mo_passes.1 mt_Mo_passes.1 ∈ g_G.2.1 := g_memT (g_t0 67 rfl) rfl
theorem cd_Mo_passesAt : Cond.code mt_Mo_passesAt.1 mt_Mo_passesAt.2.1 mt_Mo_passesAt.2.2.1 mt_Mo_passesAt.2.2.2 ∈ g_G.2.1 := g_memT (g_t6 194 rfl) rfl
theorem im_Mo_passesAt : Cond.instanceMethod mt_Mo_passesAt.1 ∈ g_G.2.1 := g_memT (g_t6 193 rfl) rfl
theorem se_Mo_passesAt : Cond.selects mt_Mo_passesAt.1.cls mt_Mo_passesAt.1 mt_Mo_passesAt.1 ∈ g_G.2.1 := g_memT (g_t0 68 rfl) rfl
theorem cd_Mo_turns : Cond.code mt_Mo_turns.1 mt_Mo_turns.2.1 mt_Mo_turns.2.2.1 mt_Mo_turns.2.2.2 ∈ g_G.2.1 := g_memT (g_t6 198 rfl) rfl
theorem im_Mo_turns : Cond.instanceMethod mt_Mo_turns.1 ∈ g_G.2.1 := g_memT (g_t6 197 rfl) rfl
theorem se_Mo_turns : Cond.selects mt_Mo_turns.1.cls mt_Mo_turns.1 mt_Mo_turns.1 ∈ g_G.2.1 := g_memT (g_t0 69 rfl) rfl
theorem cd_Mo_goesOn : Cond.code mt_Mo_goesOn.1 mt_Mo_goesOn.2.1 mt_Mo_goesOn.2.2.1 mt_Mo_goesOn.2.2.2 ∈ g_G.2.1 := g_memT (g_t6 202 rfl) rfl
theorem im_Mo_goesOn : Cond.instanceMethod mt_Mo_goesOn.1 ∈ g_G.2.1 := g_memT (g_t6 201 rfl) rfl
theorem se_Mo_goesOn : Cond.selects mt_Mo_goesOn.1.cls mt_Mo_goesOn.1 mt_Mo_goesOn.1 ∈ g_G.2.1 := g_memT (g_t0 70 rfl) rfl
theorem cd_Mo_rate : Cond.code mt_Mo_rate.1 mt_Mo_rate.2.1 mt_Mo_rate.2.2.1 mt_Mo_rate.2.2.2 ∈ g_G.2.1 := g_memT (g_t6 206 rfl) rfl
theorem im_Mo_rate : Cond.instanceMethod mt_Mo_rate.1 ∈ g_G.2.1 := g_memT (g_t6 204 rfl) rfl
theorem se_Mo_rate : Cond.selects mt_Mo_rate.1.cls mt_Mo_rate.1 mt_Mo_rate.1 ∈ g_G.2.1 := g_memT (g_t6 205 rfl) rfl
theorem cd_Mo_swap : Cond.code mt_Mo_swap.1 mt_Mo_swap.2.1 mt_Mo_swap.2.2.1 mt_Mo_swap.2.2.2 ∈ g_G.2.1 := g_memT (g_t6 212 rfl) rfl
theorem im_Mo_swap : Cond.instanceMethod mt_Mo_swap.1 ∈ g_G.2.1 := g_memT (g_t6 210 rfl) rfl
theorem se_Mo_swap : Cond.selects mt_Mo_swap.1.cls mt_Mo_swap.1 mt_Mo_swap.1 ∈ g_G.2.1 := g_memT (g_t6 211 rfl) rfl
theorem cd_Mo_stop : Cond.code mt_Mo_stop.1 mt_Mo_stop.2.1 mt_Mo_stop.2.2.1 mt_Mo_stop.2.2.2 ∈ g_G.2.1 := g_memT (g_t6 216 rfl) rfl
theorem im_Mo_stop : Cond.instanceMethod mt_Mo_stop.1 ∈ g_G.2.1 := g_memT (g_t6 214 rfl) rfl
theorem se_Mo_stop : Cond.selects mt_Mo_stop.1.cls mt_Mo_stop.1 mt_Mo_stop.1 ∈ g_G.2.1 := g_memT (g_t6 215 rfl) rfl
theorem cd_Mo_run : Cond.code mt_Mo_run.1 mt_Mo_run.2.1 mt_Mo_run.2.2.1 mt_Mo_run.2.2.2 ∈ g_G.2.1 := g_memT (g_t6 220 rfl) rfl
theorem im_Mo_run : Cond.instanceMethod mt_Mo_run.1 ∈ g_G.2.1 := g_memT (g_t6 218 rfl) rfl
theorem se_Mo_run : Cond.selects mt_Mo_run.1.cls mt_Mo_run.1 mt_Mo_run.1 ∈ g_G.2.1 := g_memT (g_t6 219 rfl) rfl
theorem cd_Mo_isRule : Cond.code mt_Mo_isRule.1 mt_Mo_isRule.2.1 mt_Mo_isRule.2.2.1 mt_Mo_isRule.2.2.2 ∈ g_G.2.1 := g_memT (g_t6 224 rfl) rfl
theorem im_Mo_isRule : Cond.instanceMethod mt_Mo_isRule.1 ∈ g_G.2.1 := g_memT (g_t6 223 rfl) rfl
theorem se_Mo_isRule : Cond.selects mt_Mo_isRule.1.cls mt_Mo_isRule.1 mt_Mo_isRule.1 ∈ g_G.2.1 := g_memT (g_t0 71 rfl) rfl
theorem cd_Mo_passesBy : Cond.code mt_Mo_passesBy.1 mt_Mo_passesBy.2.1 mt_Mo_passesBy.2.2.1 mt_Mo_passesBy.2.2.2 ∈ g_G.2.1 := g_memT (g_t6 229 rfl) rfl
theorem im_Mo_passesBy : Cond.instanceMethod mt_Mo_passesBy.1 ∈ g_G.2.1 := g_memT (g_t6 228 rfl) rfl
theorem se_Mo_passesBy : Cond.selects mt_Mo_passesBy.1.cls mt_Mo_passesBy.1 mt_Mo_passesBy.1 ∈ g_G.2.1 := g_memT (g_t0 72 rfl) rfl
theorem cd_Mo_words : Cond.code mt_Mo_words.1 mt_Mo_words.2.1 mt_Mo_words.2.2.1 mt_Mo_words.2.2.2 ∈ g_G.2.1 := g_memT (g_t6 233 rfl) rfl
theorem im_Mo_words : Cond.instanceMethod mt_Mo_words.1 ∈ g_G.2.1 := g_memT (g_t6 232 rfl) rfl
theorem se_Mo_words : Cond.selects mt_Mo_words.1.cls mt_Mo_words.1 mt_Mo_words.1 ∈ g_G.2.1 := g_memT (g_t0 73 rfl) rfl
theorem cd_Mo_allLike : Cond.code mt_Mo_allLike.1 mt_Mo_allLike.2.1 mt_Mo_allLike.2.2.1 mt_Mo_allLike.2.2.2 ∈ g_G.2.1 := g_memT (g_t6 237 rfl) rfl
theorem im_Mo_allLike : Cond.instanceMethod mt_Mo_allLike.1 ∈ g_G.2.1 := g_memT (g_t6 236 rfl) rfl
theorem se_Mo_allLike : Cond.selects mt_Mo_allLike.1.cls mt_Mo_allLike.1 mt_Mo_allLike.1 ∈ g_G.2.1 := g_memT (g_t0 74 rfl) rfl
theorem cd_Mo_whoStay : Cond.code mt_Mo_whoStay.1 mt_Mo_whoStay.2.1 mt_Mo_whoStay.2.2.1 mt_Mo_whoStay.2.2.2 ∈ g_G.2.1 := g_memT (g_t7 1 rfl) rfl
theorem im_Mo_whoStay : Cond.instanceMethod mt_Mo_whoStay.1 ∈ g_G.2.1 := g_memT (g_t7 0 rfl) rfl
theorem se_Mo_whoStay : Cond.selects mt_Mo_whoStay.1.cls mt_Mo_whoStay.1 mt_Mo_whoStay.1 ∈ g_G.2.1 := g_memT (g_t0 75 rfl) rfl
theorem cd_Mo_votesOf : Cond.code mt_Mo_votesOf.1 mt_Mo_votesOf.2.1 mt_Mo_votesOf.2.2.1 mt_Mo_votesOf.2.2.2 ∈ g_G.2.1 := g_memT (g_t7 5 rfl) rfl
theorem im_Mo_votesOf : Cond.instanceMethod mt_Mo_votesOf.1 ∈ g_G.2.1 := g_memT (g_t7 4 rfl) rfl
theorem se_Mo_votesOf : Cond.selects mt_Mo_votesOf.1.cls mt_Mo_votesOf.1 mt_Mo_votesOf.1 ∈ g_G.2.1 := g_memT (g_t0 76 rfl) rfl
theorem cd_Mo_everyHouse : Cond.code mt_Mo_everyHouse.1 mt_Mo_everyHouse.2.1 mt_Mo_everyHouse.2.2.1 mt_Mo_everyHouse.2.2.2 ∈ g_G.2.1 := g_memT (g_t7 9 rfl) rfl
theorem im_Mo_everyHouse : Cond.instanceMethod mt_Mo_everyHouse.1 ∈ g_G.2.1 := g_memT (g_t7 8 rfl) rfl
theorem se_Mo_everyHouse : Cond.selects mt_Mo_everyHouse.1.cls mt_Mo_everyHouse.1 mt_Mo_everyHouse.1 ∈ g_G.2.1 := g_memT (g_t0 77 rfl) rfl
theorem cd_Mo_atGates : Cond.code mt_Mo_atGates.1 mt_Mo_atGates.2.1 mt_Mo_atGates.2.2.1 mt_Mo_atGates.2.2.2 ∈ g_G.2.1 := g_memT (g_t7 13 rfl) rfl
theorem im_Mo_atGates : Cond.instanceMethod mt_Mo_atGates.1 ∈ g_G.2.1 := g_memT (g_t7 12 rfl) rfl
theorem se_Mo_atGates : Cond.selects mt_Mo_atGates.1.cls mt_Mo_atGates.1 mt_Mo_atGates.1 ∈ g_G.2.1 := g_memT (g_t0 78 rfl) rfl
theorem cd_Mo_summedBy : Cond.code mt_Mo_summedBy.1 mt_Mo_summedBy.2.1 mt_Mo_summedBy.2.2.1 mt_Mo_summedBy.2.2.2 ∈ g_G.2.1 := g_memT (g_t7 17 rfl) rfl
theorem im_Mo_summedBy : Cond.instanceMethod mt_Mo_summedBy.1 ∈ g_G.2.1 := g_memT (g_t7 16 rfl) rfl
theorem se_Mo_summedBy : Cond.selects mt_Mo_summedBy.1.cls mt_Mo_summedBy.1 mt_Mo_summedBy.1 ∈ g_G.2.1 := g_memT (g_t0 79 rfl) rfl
theorem cd_Mo_reckons : Cond.code mt_Mo_reckons.1 mt_Mo_reckons.2.1 mt_Mo_reckons.2.2.1 mt_Mo_reckons.2.2.2 ∈ g_G.2.1 := g_memT (g_t7 21 rfl) rfl
theorem im_Mo_reckons : Cond.instanceMethod mt_Mo_reckons.1 ∈ g_G.2.1 := g_memT (g_t7 20 rfl) rfl
theorem se_Mo_reckons : Cond.selects mt_Mo_reckons.1.cls mt_Mo_reckons.1 mt_Mo_reckons.1 ∈ g_G.2.1 := g_memT (g_t0 80 rfl) rfl
theorem cd_Mo_push : Cond.code mt_Mo_push.1 mt_Mo_push.2.1 mt_Mo_push.2.2.1 mt_Mo_push.2.2.2 ∈ g_G.2.1 := g_memT (g_t7 25 rfl) rfl
theorem im_Mo_push : Cond.instanceMethod mt_Mo_push.1 ∈ g_G.2.1 := g_memT (g_t7 24 rfl) rfl
theorem se_Mo_push : Cond.selects mt_Mo_push.1.cls mt_Mo_push.1 mt_Mo_push.1 ∈ g_G.2.1 := g_memT (g_t0 81 rfl) rfl
theorem cd_Mo_pop : Cond.code mt_Mo_pop.1 mt_Mo_pop.2.1 mt_Mo_pop.2.2.1 mt_Mo_pop.2.2.2 ∈ g_G.2.1 := g_memT (g_t7 29 rfl) rfl
theorem im_Mo_pop : Cond.instanceMethod mt_Mo_pop.1 ∈ g_G.2.1 := g_memT (g_t7 28 rfl) rfl
theorem se_Mo_pop : Cond.selects mt_Mo_pop.1.cls mt_Mo_pop.1 mt_Mo_pop.1 ∈ g_G.2.1 := g_memT (g_t0 82 rfl) rfl
theorem cd_Mo_one : Cond.code mt_Mo_one.1 mt_Mo_one.2.1 mt_Mo_one.2.2.1 mt_Mo_one.2.2.2 ∈ g_G.2.1 := g_memT (g_t7 32 rfl) rfl
theorem sc_Mo_one : Cond.static mt_Mo_one.1 ∈ g_G.2.1 := g_memT (g_t7 31 rfl) rfl
theorem cd_Mo_faces : Cond.code mt_Mo_faces.1 mt_Mo_faces.2.1 mt_Mo_faces.2.2.1 mt_Mo_faces.2.2.2 ∈ g_G.2.1 := g_memT (g_t7 36 rfl) rfl
theorem im_Mo_faces : Cond.instanceMethod mt_Mo_faces.1 ∈ g_G.2.1 := g_memT (g_t7 34 rfl) rfl
theorem se_Mo_faces : Cond.selects mt_Mo_faces.1.cls mt_Mo_faces.1 mt_Mo_faces.1 ∈ g_G.2.1 := g_memT (g_t7 35 rfl) rfl
theorem cd_Mo_keeps : Cond.code mt_Mo_keeps.1 mt_Mo_keeps.2.1 mt_Mo_keeps.2.2.1 mt_Mo_keeps.2.2.2 ∈ g_G.2.1 := g_memT (g_t7 41 rfl) rfl
theorem im_Mo_keeps : Cond.instanceMethod mt_Mo_keeps.1 ∈ g_G.2.1 := g_memT (g_t7 40 rfl) rfl
theorem se_Mo_keeps : Cond.selects mt_Mo_keeps.1.cls mt_Mo_keeps.1 mt_Mo_keeps.1 ∈ g_G.2.1 := g_memT (g_t0 83 rfl) rfl
theorem cd_Mo_laysBack : Cond.code mt_Mo_laysBack.1 mt_Mo_laysBack.2.1 mt_Mo_laysBack.2.2.1 mt_Mo_laysBack.2.2.2 ∈ g_G.2.1 := g_memT (g_t7 45 rfl) rfl
theorem im_Mo_laysBack : Cond.instanceMethod mt_Mo_laysBack.1 ∈ g_G.2.1 := g_memT (g_t7 44 rfl) rfl
theorem se_Mo_laysBack : Cond.selects mt_Mo_laysBack.1.cls mt_Mo_laysBack.1 mt_Mo_laysBack.1 ∈ g_G.2.1 := g_memT (g_t0 84 rfl) rfl
theorem cd_Mo_sees : Cond.code mt_Mo_sees.1 mt_Mo_sees.2.1 mt_Mo_sees.2.2.1 mt_Mo_sees.2.2.2 ∈ g_G.2.1 := g_memT (g_t7 49 rfl) rfl
theorem im_Mo_sees : Cond.instanceMethod mt_Mo_sees.1 ∈ g_G.2.1 := g_memT (g_t7 47 rfl) rfl
theorem se_Mo_sees : Cond.selects mt_Mo_sees.1.cls mt_Mo_sees.1 mt_Mo_sees.1 ∈ g_G.2.1 := g_memT (g_t7 48 rfl) rfl
theorem cd_Mo_day : Cond.code mt_Mo_day.1 mt_Mo_day.2.1 mt_Mo_day.2.2.1 mt_Mo_day.2.2.2 ∈ g_G.2.1 := g_memT (g_t7 53 rfl) rfl
theorem im_Mo_day : Cond.instanceMethod mt_Mo_day.1 ∈ g_G.2.1 := g_memT (g_t7 51 rfl) rfl
theorem se_Mo_day : Cond.selects mt_Mo_day.1.cls mt_Mo_day.1 mt_Mo_day.1 ∈ g_G.2.1 := g_memT (g_t7 52 rfl) rfl
theorem cd_Mo_dayIn : Cond.code mt_Mo_dayIn.1 mt_Mo_dayIn.2.1 mt_Mo_dayIn.2.2.1 mt_Mo_dayIn.2.2.2 ∈ g_G.2.1 := g_memT (g_t7 57 rfl) rfl
theorem im_Mo_dayIn : Cond.instanceMethod mt_Mo_dayIn.1 ∈ g_G.2.1 := g_memT (g_t7 56 rfl) rfl
theorem se_Mo_dayIn : Cond.selects mt_Mo_dayIn.1.cls mt_Mo_dayIn.1 mt_Mo_dayIn.1 ∈ g_G.2.1 := g_memT (g_t0 85 rfl) rfl
theorem cd_Mo_plan : Cond.code mt_Mo_plan.1 mt_Mo_plan.2.1 mt_Mo_plan.2.2.1 mt_Mo_plan.2.2.2 ∈ g_G.2.1 := g_memT (g_t7 62 rfl) rfl
theorem im_Mo_plan : Cond.instanceMethod mt_Mo_plan.1 ∈ g_G.2.1 := g_memT (g_t7 60 rfl) rfl
theorem se_Mo_plan : Cond.selects mt_Mo_plan.1.cls mt_Mo_plan.1 mt_Mo_plan.1 ∈ g_G.2.1 := g_memT (g_t7 61 rfl) rfl
theorem cd_Mo_third : Cond.code mt_Mo_third.1 mt_Mo_third.2.1 mt_Mo_third.2.2.1 mt_Mo_third.2.2.2 ∈ g_G.2.1 := g_memT (g_t7 66 rfl) rfl
theorem sc_Mo_third : Cond.static mt_Mo_third.1 ∈ g_G.2.1 := g_memT (g_t7 65 rfl) rfl
theorem cd_Mo_worthOf : Cond.code mt_Mo_worthOf.1 mt_Mo_worthOf.2.1 mt_Mo_worthOf.2.2.1 mt_Mo_worthOf.2.2.2 ∈ g_G.2.1 := g_memT (g_t7 70 rfl) rfl
theorem im_Mo_worthOf : Cond.instanceMethod mt_Mo_worthOf.1 ∈ g_G.2.1 := g_memT (g_t7 69 rfl) rfl
theorem se_Mo_worthOf : Cond.selects mt_Mo_worthOf.1.cls mt_Mo_worthOf.1 mt_Mo_worthOf.1 ∈ g_G.2.1 := g_memT (g_t0 86 rfl) rfl
theorem cd_Mo_digitOf : Cond.code mt_Mo_digitOf.1 mt_Mo_digitOf.2.1 mt_Mo_digitOf.2.2.1 mt_Mo_digitOf.2.2.2 ∈ g_G.2.1 := g_memT (g_t7 73 rfl) rfl
theorem sc_Mo_digitOf : Cond.static mt_Mo_digitOf.1 ∈ g_G.2.1 := g_memT (g_t7 72 rfl) rfl
theorem cd_Mo_errand : Cond.code mt_Mo_errand.1 mt_Mo_errand.2.1 mt_Mo_errand.2.2.1 mt_Mo_errand.2.2.2 ∈ g_G.2.1 := g_memT (g_t7 77 rfl) rfl
theorem im_Mo_errand : Cond.instanceMethod mt_Mo_errand.1 ∈ g_G.2.1 := g_memT (g_t7 75 rfl) rfl
theorem se_Mo_errand : Cond.selects mt_Mo_errand.1.cls mt_Mo_errand.1 mt_Mo_errand.1 ∈ g_G.2.1 := g_memT (g_t7 76 rfl) rfl
theorem cd_Mo_backFrom : Cond.code mt_Mo_backFrom.1 mt_Mo_backFrom.2.1 mt_Mo_backFrom.2.2.1 mt_Mo_backFrom.2.2.2 ∈ g_G.2.1 := g_memT (g_t7 82 rfl) rfl
theorem im_Mo_backFrom : Cond.instanceMethod mt_Mo_backFrom.1 ∈ g_G.2.1 := g_memT (g_t7 81 rfl) rfl
theorem se_Mo_backFrom : Cond.selects mt_Mo_backFrom.1.cls mt_Mo_backFrom.1 mt_Mo_backFrom.1 ∈ g_G.2.1 := g_memT (g_t0 87 rfl) rfl
theorem cd_Mo_way : Cond.code mt_Mo_way.1 mt_Mo_way.2.1 mt_Mo_way.2.2.1 mt_Mo_way.2.2.2 ∈ g_G.2.1 := g_memT (g_t7 85 rfl) rfl
theorem sc_Mo_way : Cond.static mt_Mo_way.1 ∈ g_G.2.1 := g_memT (g_t7 84 rfl) rfl
theorem cd_Mo_stay : Cond.code mt_Mo_stay.1 mt_Mo_stay.2.1 mt_Mo_stay.2.2.1 mt_Mo_stay.2.2.2 ∈ g_G.2.1 := g_memT (g_t7 89 rfl) rfl
theorem im_Mo_stay : Cond.instanceMethod mt_Mo_stay.1 ∈ g_G.2.1 := g_memT (g_t7 87 rfl) rfl
theorem se_Mo_stay : Cond.selects mt_Mo_stay.1.cls mt_Mo_stay.1 mt_Mo_stay.1 ∈ g_G.2.1 := g_memT (g_t7 88 rfl) rfl
theorem cd_Mo_swings : Cond.code mt_Mo_swings.1 mt_Mo_swings.2.1 mt_Mo_swings.2.2.1 mt_Mo_swings.2.2.2 ∈ g_G.2.1 := g_memT (g_t7 93 rfl) rfl
theorem im_Mo_swings : Cond.instanceMethod mt_Mo_swings.1 ∈ g_G.2.1 := g_memT (g_t7 91 rfl) rfl
theorem se_Mo_swings : Cond.selects mt_Mo_swings.1.cls mt_Mo_swings.1 mt_Mo_swings.1 ∈ g_G.2.1 := g_memT (g_t7 92 rfl) rfl
theorem cd_Mo_trade : Cond.code mt_Mo_trade.1 mt_Mo_trade.2.1 mt_Mo_trade.2.2.1 mt_Mo_trade.2.2.2 ∈ g_G.2.1 := g_memT (g_t7 97 rfl) rfl
theorem im_Mo_trade : Cond.instanceMethod mt_Mo_trade.1 ∈ g_G.2.1 := g_memT (g_t7 95 rfl) rfl
theorem se_Mo_trade : Cond.selects mt_Mo_trade.1.cls mt_Mo_trade.1 mt_Mo_trade.1 ∈ g_G.2.1 := g_memT (g_t7 96 rfl) rfl
theorem cd_Mo_fillsDays : Cond.code mt_Mo_fillsDays.1 mt_Mo_fillsDays.2.1 mt_Mo_fillsDays.2.2.1 mt_Mo_fillsDays.2.2.2 ∈ g_G.2.1 := g_memT (g_t7 102 rfl) rfl
theorem im_Mo_fillsDays : Cond.instanceMethod mt_Mo_fillsDays.1 ∈ g_G.2.1 := g_memT (g_t7 101 rfl) rfl
theorem se_Mo_fillsDays : Cond.selects mt_Mo_fillsDays.1.cls mt_Mo_fillsDays.1 mt_Mo_fillsDays.1 ∈ g_G.2.1 := g_memT (g_t0 88 rfl) rfl
theorem cd_Mo_gathersTrades : Cond.code mt_Mo_gathersTrades.1 mt_Mo_gathersTrades.2.1 mt_Mo_gathersTrades.2.2.1 mt_Mo_gathersTrades.2.2.2 ∈ g_G.2.1 := g_memT (g_t7 106 rfl) rfl
theorem im_Mo_gathersTrades : Cond.instanceMethod mt_Mo_gathersTrades.1 ∈ g_G.2.1 := g_memT (g_t7 105 rfl) rfl
theorem se_Mo_gathersTrades : Cond.selects mt_Mo_gathersTrades.1.cls mt_Mo_gathersTrades.1 mt_Mo_gathersTrades.1 ∈ g_G.2.1 := g_memT (g_t0 89 rfl) rfl
theorem cd_Mo_countsRow : Cond.code mt_Mo_countsRow.1 mt_Mo_countsRow.2.1 mt_Mo_countsRow.2.2.1 mt_Mo_countsRow.2.2.2 ∈ g_G.2.1 := g_memT (g_t7 110 rfl) rfl
theorem im_Mo_countsRow : Cond.instanceMethod mt_Mo_countsRow.1 ∈ g_G.2.1 := g_memT (g_t7 109 rfl) rfl
theorem se_Mo_countsRow : Cond.selects mt_Mo_countsRow.1.cls mt_Mo_countsRow.1 mt_Mo_countsRow.1 ∈ g_G.2.1 := g_memT (g_t0 90 rfl) rfl
theorem cd_Mo_dayNow : Cond.code mt_Mo_dayNow.1 mt_Mo_dayNow.2.1 mt_Mo_dayNow.2.2.1 mt_Mo_dayNow.2.2.2 ∈ g_G.2.1 := g_memT (g_t7 114 rfl) rfl
theorem im_Mo_dayNow : Cond.instanceMethod mt_Mo_dayNow.1 ∈ g_G.2.1 := g_memT (g_t7 113 rfl) rfl
theorem se_Mo_dayNow : Cond.selects mt_Mo_dayNow.1.cls mt_Mo_dayNow.1 mt_Mo_dayNow.1 ∈ g_G.2.1 := g_memT (g_t0 91 rfl) rfl
theorem cd_Mo_spare : Cond.code mt_Mo_spare.1 mt_Mo_spare.2.1 mt_Mo_spare.2.2.1 mt_Mo_spare.2.2.2 ∈ g_G.2.1 := g_memT (g_t7 118 rfl) rfl
theorem im_Mo_spare : Cond.instanceMethod mt_Mo_spare.1 ∈ g_G.2.1 := g_memT (g_t7 116 rfl) rfl
theorem se_Mo_spare : Cond.selects mt_Mo_spare.1.cls mt_Mo_spare.1 mt_Mo_spare.1 ∈ g_G.2.1 := g_memT (g_t7 117 rfl) rfl
theorem cd_Mo_stepsOf : Cond.code mt_Mo_stepsOf.1 mt_Mo_stepsOf.2.1 mt_Mo_stepsOf.2.2.1 mt_Mo_stepsOf.2.2.2 ∈ g_G.2.1 := g_memT (g_t7 122 rfl) rfl
theorem sc_Mo_stepsOf : Cond.static mt_Mo_stepsOf.1 ∈ g_G.2.1 := g_memT (g_t7 121 rfl) rfl
theorem cd_Mo_mostWorn : Cond.code mt_Mo_mostWorn.1 mt_Mo_mostWorn.2.1 mt_Mo_mostWorn.2.2.1 mt_Mo_mostWorn.2.2.2 ∈ g_G.2.1 := g_memT (g_t7 126 rfl) rfl
theorem im_Mo_mostWorn : Cond.instanceMethod mt_Mo_mostWorn.1 ∈ g_G.2.1 := g_memT (g_t7 125 rfl) rfl
theorem se_Mo_mostWorn : Cond.selects mt_Mo_mostWorn.1.cls mt_Mo_mostWorn.1 mt_Mo_mostWorn.1 ∈ g_G.2.1 := g_memT (g_t0 92 rfl) rfl
theorem cd_Mo_apart : Cond.code mt_Mo_apart.1 mt_Mo_apart.2.1 mt_Mo_apart.2.2.1 mt_Mo_apart.2.2.2 ∈ g_G.2.1 := g_memT (g_t7 130 rfl) rfl
theorem im_Mo_apart : Cond.instanceMethod mt_Mo_apart.1 ∈ g_G.2.1 := g_memT (g_t7 128 rfl) rfl
theorem se_Mo_apart : Cond.selects mt_Mo_apart.1.cls mt_Mo_apart.1 mt_Mo_apart.1 ∈ g_G.2.1 := g_memT (g_t7 129 rfl) rfl
theorem cd_Mo_seenBy : Cond.code mt_Mo_seenBy.1 mt_Mo_seenBy.2.1 mt_Mo_seenBy.2.2.1 mt_Mo_seenBy.2.2.2 ∈ g_G.2.1 := g_memT (g_t7 136 rfl) rfl
theorem im_Mo_seenBy : Cond.instanceMethod mt_Mo_seenBy.1 ∈ g_G.2.1 := g_memT (g_t7 135 rfl) rfl
theorem se_Mo_seenBy : Cond.selects mt_Mo_seenBy.1.cls mt_Mo_seenBy.1 mt_Mo_seenBy.1 ∈ g_G.2.1 := g_memT (g_t0 93 rfl) rfl
theorem cd_Mo_diary : Cond.code mt_Mo_diary.1 mt_Mo_diary.2.1 mt_Mo_diary.2.2.1 mt_Mo_diary.2.2.2 ∈ g_G.2.1 := g_memT (g_t7 140 rfl) rfl
theorem im_Mo_diary : Cond.instanceMethod mt_Mo_diary.1 ∈ g_G.2.1 := g_memT (g_t7 138 rfl) rfl
theorem se_Mo_diary : Cond.selects mt_Mo_diary.1.cls mt_Mo_diary.1 mt_Mo_diary.1 ∈ g_G.2.1 := g_memT (g_t7 139 rfl) rfl
theorem cd_Mo_turned : Cond.code mt_Mo_turned.1 mt_Mo_turned.2.1 mt_Mo_turned.2.2.1 mt_Mo_turned.2.2.2 ∈ g_G.2.1 := g_memT (g_t7 145 rfl) rfl
theorem im_Mo_turned : Cond.instanceMethod mt_Mo_turned.1 ∈ g_G.2.1 := g_memT (g_t7 143 rfl) rfl
theorem se_Mo_turned : Cond.selects mt_Mo_turned.1.cls mt_Mo_turned.1 mt_Mo_turned.1 ∈ g_G.2.1 := g_memT (g_t7 144 rfl) rfl
theorem cd_Mo_fitsDiary : Cond.code mt_Mo_fitsDiary.1 mt_Mo_fitsDiary.2.1 mt_Mo_fitsDiary.2.2.1 mt_Mo_fitsDiary.2.2.2 ∈ g_G.2.1 := g_memT (g_t7 149 rfl) rfl
theorem im_Mo_fitsDiary : Cond.instanceMethod mt_Mo_fitsDiary.1 ∈ g_G.2.1 := g_memT (g_t7 148 rfl) rfl
theorem se_Mo_fitsDiary : Cond.selects mt_Mo_fitsDiary.1.cls mt_Mo_fitsDiary.1 mt_Mo_fitsDiary.1 ∈ g_G.2.1 := g_memT (g_t0 94 rfl) rfl
theorem cd_Mo_sawBy : Cond.code mt_Mo_sawBy.1 mt_Mo_sawBy.2.1 mt_Mo_sawBy.2.2.1 mt_Mo_sawBy.2.2.2 ∈ g_G.2.1 := g_memT (g_t7 153 rfl) rfl
theorem im_Mo_sawBy : Cond.instanceMethod mt_Mo_sawBy.1 ∈ g_G.2.1 := g_memT (g_t7 152 rfl) rfl
theorem se_Mo_sawBy : Cond.selects mt_Mo_sawBy.1.cls mt_Mo_sawBy.1 mt_Mo_sawBy.1 ∈ g_G.2.1 := g_memT (g_t0 95 rfl) rfl
theorem cd_Mo_look : Cond.code mt_Mo_look.1 mt_Mo_look.2.1 mt_Mo_look.2.2.1 mt_Mo_look.2.2.2 ∈ g_G.2.1 := g_memT (g_t7 157 rfl) rfl
theorem im_Mo_look : Cond.instanceMethod mt_Mo_look.1 ∈ g_G.2.1 := g_memT (g_t7 155 rfl) rfl
theorem se_Mo_look : Cond.selects mt_Mo_look.1.cls mt_Mo_look.1 mt_Mo_look.1 ∈ g_G.2.1 := g_memT (g_t7 156 rfl) rfl
theorem cd_Mo_seed : Cond.code mt_Mo_seed.1 mt_Mo_seed.2.1 mt_Mo_seed.2.2.1 mt_Mo_seed.2.2.2 ∈ g_G.2.1 := g_memT (g_t7 161 rfl) rfl
theorem im_Mo_seed : Cond.instanceMethod mt_Mo_seed.1 ∈ g_G.2.1 := g_memT (g_t7 159 rfl) rfl
theorem se_Mo_seed : Cond.selects mt_Mo_seed.1.cls mt_Mo_seed.1 mt_Mo_seed.1 ∈ g_G.2.1 := g_memT (g_t7 160 rfl) rfl
theorem cd_Mo_days : Cond.code mt_Mo_days.1 mt_Mo_days.2.1 mt_Mo_days.2.2.1 mt_Mo_days.2.2.2 ∈ g_G.2.1 := g_memT (g_t7 165 rfl) rfl
theorem im_Mo_days : Cond.instanceMethod mt_Mo_days.1 ∈ g_G.2.1 := g_memT (g_t7 163 rfl) rfl
theorem se_Mo_days : Cond.selects mt_Mo_days.1.cls mt_Mo_days.1 mt_Mo_days.1 ∈ g_G.2.1 := g_memT (g_t7 164 rfl) rfl
theorem cd_Mo_draw : Cond.code mt_Mo_draw.1 mt_Mo_draw.2.1 mt_Mo_draw.2.2.1 mt_Mo_draw.2.2.2 ∈ g_G.2.1 := g_memT (g_t7 170 rfl) rfl
theorem im_Mo_draw : Cond.instanceMethod mt_Mo_draw.1 ∈ g_G.2.1 := g_memT (g_t7 169 rfl) rfl
theorem se_Mo_draw : Cond.selects mt_Mo_draw.1.cls mt_Mo_draw.1 mt_Mo_draw.1 ∈ g_G.2.1 := g_memT (g_t0 96 rfl) rfl
theorem cd_Mo_count : Cond.code mt_Mo_count.1 mt_Mo_count.2.1 mt_Mo_count.2.2.1 mt_Mo_count.2.2.2 ∈ g_G.2.1 := g_memT (g_t7 178 rfl) rfl
theorem im_Mo_count : Cond.instanceMethod mt_Mo_count.1 ∈ g_G.2.1 := g_memT (g_t7 176 rfl) rfl
theorem se_Mo_count : Cond.selects mt_Mo_count.1.cls mt_Mo_count.1 mt_Mo_count.1 ∈ g_G.2.1 := g_memT (g_t7 177 rfl) rfl
theorem cd_Mo_image : Cond.code mt_Mo_image.1 mt_Mo_image.2.1 mt_Mo_image.2.2.1 mt_Mo_image.2.2.2 ∈ g_G.2.1 := g_memT (g_t7 182 rfl) rfl
theorem im_Mo_image : Cond.instanceMethod mt_Mo_image.1 ∈ g_G.2.1 := g_memT (g_t7 180 rfl) rfl
theorem se_Mo_image : Cond.selects mt_Mo_image.1.cls mt_Mo_image.1 mt_Mo_image.1 ∈ g_G.2.1 := g_memT (g_t7 181 rfl) rfl
theorem cd_Mo_back : Cond.code mt_Mo_back.1 mt_Mo_back.2.1 mt_Mo_back.2.2.1 mt_Mo_back.2.2.2 ∈ g_G.2.1 := g_memT (g_t7 186 rfl) rfl
theorem im_Mo_back : Cond.instanceMethod mt_Mo_back.1 ∈ g_G.2.1 := g_memT (g_t7 184 rfl) rfl
theorem se_Mo_back : Cond.selects mt_Mo_back.1.cls mt_Mo_back.1 mt_Mo_back.1 ∈ g_G.2.1 := g_memT (g_t7 185 rfl) rfl
theorem pd_0 : (parseMethodDescriptor "()V").map (fun q => q.parameters.length) = some 0 := by decide +kernel
theorem pd_1 : (parseMethodDescriptor "(IIIII)I").map (fun q => q.parameters.length) = some 5 := by decide +kernel
theorem pd_2 : (parseMethodDescriptor "(I)V").map (fun q => q.parameters.length) = some 1 := by decide +kernel
theorem pd_3 : (parseMethodDescriptor "(I)I").map (fun q => q.parameters.length) = some 1 := by decide +kernel
theorem pd_4 : (parseMethodDescriptor "()I").map (fun q => q.parameters.length) = some 0 := by decide +kernel
theorem pd_5 : (parseMethodDescriptor "(LTurnRing$Tape;LTurnRing$Ring;)I").map (fun q => q.parameters.length) = some 2 := by decide +kernel
theorem pd_6 : (parseMethodDescriptor "(Ljava/lang/String;)V").map (fun q => q.parameters.length) = some 1 := by decide +kernel
theorem pd_7 : (parseMethodDescriptor "()B").map (fun q => q.parameters.length) = some 0 := by decide +kernel
theorem pd_8 : (parseMethodDescriptor "(I)C").map (fun q => q.parameters.length) = some 1 := by decide +kernel
theorem pd_9 : (parseMethodDescriptor "()Z").map (fun q => q.parameters.length) = some 0 := by decide +kernel
theorem pd_10 : (parseMethodDescriptor "([BI)C").map (fun q => q.parameters.length) = some 2 := by decide +kernel
theorem pd_11 : (parseMethodDescriptor "(II)V").map (fun q => q.parameters.length) = some 2 := by decide +kernel
theorem pd_12 : (parseMethodDescriptor "(IILjava/util/function/BiFunction;)I").map (fun q => q.parameters.length) = some 3 := by decide +kernel
theorem pd_13 : (parseMethodDescriptor "(I[B)V").map (fun q => q.parameters.length) = some 2 := by decide +kernel
theorem pd_14 : (parseMethodDescriptor "([B)I").map (fun q => q.parameters.length) = some 1 := by decide +kernel
theorem pd_15 : (parseMethodDescriptor "([II)V").map (fun q => q.parameters.length) = some 2 := by decide +kernel
theorem pd_16 : (parseMethodDescriptor "([JJ)V").map (fun q => q.parameters.length) = some 2 := by decide +kernel
theorem pd_17 : (parseMethodDescriptor "(LTurnRing$Ring;II)Z").map (fun q => q.parameters.length) = some 3 := by decide +kernel
theorem pd_18 : (parseMethodDescriptor "(LTurnRing$Tape;LTurnRing$Ring;I)V").map (fun q => q.parameters.length) = some 3 := by decide +kernel
theorem pd_19 : (parseMethodDescriptor "(II)I").map (fun q => q.parameters.length) = some 2 := by decide +kernel
theorem pd_20 : (parseMethodDescriptor "(LTurnRing$Tape;LTurnRing$Ring;)V").map (fun q => q.parameters.length) = some 2 := by decide +kernel
theorem pd_21 : (parseMethodDescriptor "(I)Z").map (fun q => q.parameters.length) = some 1 := by decide +kernel
theorem pd_22 : (parseMethodDescriptor "(IIII)V").map (fun q => q.parameters.length) = some 4 := by decide +kernel
theorem pd_23 : (parseMethodDescriptor "(III)V").map (fun q => q.parameters.length) = some 3 := by decide +kernel
theorem pd_24 : (parseMethodDescriptor "(LTurnRing$Tape;)I").map (fun q => q.parameters.length) = some 1 := by decide +kernel
theorem pd_25 : (parseMethodDescriptor "(LTurnRing$Tape;)V").map (fun q => q.parameters.length) = some 1 := by decide +kernel
theorem pd_26 : (parseMethodDescriptor "(LTurnRing$Tape;I)V").map (fun q => q.parameters.length) = some 2 := by decide +kernel
theorem pd_27 : (parseMethodDescriptor "()[I").map (fun q => q.parameters.length) = some 0 := by decide +kernel
theorem pd_28 : (parseMethodDescriptor "([II)[I").map (fun q => q.parameters.length) = some 2 := by decide +kernel
theorem pd_29 : (parseMethodDescriptor "()Ljava/lang/Object;").map (fun q => q.parameters.length) = some 0 := by decide +kernel
theorem pd_30 : (parseMethodDescriptor "(Ljava/lang/Object;ILjava/lang/Object;II)V").map (fun q => q.parameters.length) = some 5 := by decide +kernel
theorem pd_31 : (parseMethodDescriptor "([I)V").map (fun q => q.parameters.length) = some 1 := by decide +kernel
theorem pd_32 : (parseMethodDescriptor "(IIII)I").map (fun q => q.parameters.length) = some 4 := by decide +kernel
theorem pd_33 : (parseMethodDescriptor "(II)Z").map (fun q => q.parameters.length) = some 2 := by decide +kernel
theorem pd_34 : (parseMethodDescriptor "(LTurnRing$Ring;)Z").map (fun q => q.parameters.length) = some 1 := by decide +kernel
theorem pd_35 : (parseMethodDescriptor "(IZ)V").map (fun q => q.parameters.length) = some 2 := by decide +kernel
theorem pd_36 : (parseMethodDescriptor "(LTurnRing$Rule;LTurnRing$Ring;)I").map (fun q => q.parameters.length) = some 2 := by decide +kernel
theorem pd_37 : (parseMethodDescriptor "(J)V").map (fun q => q.parameters.length) = some 1 := by decide +kernel
theorem pd_38 : (parseMethodDescriptor "(ILTurnRing$Ring;)I").map (fun q => q.parameters.length) = some 2 := by decide +kernel
theorem pd_39 : (parseMethodDescriptor "()J").map (fun q => q.parameters.length) = some 0 := by decide +kernel
theorem pd_40 : (parseMethodDescriptor "(Z)J").map (fun q => q.parameters.length) = some 1 := by decide +kernel
theorem pd_41 : (parseMethodDescriptor "(J)I").map (fun q => q.parameters.length) = some 1 := by decide +kernel
theorem pd_42 : (parseMethodDescriptor "(JJ)J").map (fun q => q.parameters.length) = some 2 := by decide +kernel
theorem pd_43 : (parseMethodDescriptor "(IJJ)J").map (fun q => q.parameters.length) = some 3 := by decide +kernel
theorem pd_44 : (parseMethodDescriptor "(LTurnRing$Ring;)V").map (fun q => q.parameters.length) = some 1 := by decide +kernel
theorem pd_45 : (parseMethodDescriptor "(LTurnRing$Diary;)V").map (fun q => q.parameters.length) = some 1 := by decide +kernel
theorem pd_46 : (parseMethodDescriptor "(IZI)I").map (fun q => q.parameters.length) = some 3 := by decide +kernel
theorem pd_47 : (parseMethodDescriptor "(LTurnRing$Ring;IZ)V").map (fun q => q.parameters.length) = some 3 := by decide +kernel
theorem pd_48 : (parseMethodDescriptor "(LTurnRing$Ring;II)V").map (fun q => q.parameters.length) = some 3 := by decide +kernel
theorem pd_49 : (parseMethodDescriptor "(LTurnRing$Ring;I)I").map (fun q => q.parameters.length) = some 2 := by decide +kernel
theorem pd_50 : (parseMethodDescriptor "(III)Z").map (fun q => q.parameters.length) = some 3 := by decide +kernel
theorem pd_51 : (parseMethodDescriptor "(III)I").map (fun q => q.parameters.length) = some 3 := by decide +kernel
theorem pd_52 : (parseMethodDescriptor "(LTurnRing$Rule;III)I").map (fun q => q.parameters.length) = some 4 := by decide +kernel
theorem pd_53 : (parseMethodDescriptor "(IIIZ)I").map (fun q => q.parameters.length) = some 4 := by decide +kernel
theorem pd_54 : (parseMethodDescriptor "(IIIZ)V").map (fun q => q.parameters.length) = some 4 := by decide +kernel
theorem pd_55 : (parseMethodDescriptor "(LTurnRing$Ring;IIII)I").map (fun q => q.parameters.length) = some 5 := by decide +kernel
theorem pd_56 : (parseMethodDescriptor "(LTurnRing$Ring;I)V").map (fun q => q.parameters.length) = some 2 := by decide +kernel
theorem pd_57 : (parseMethodDescriptor "(J)Z").map (fun q => q.parameters.length) = some 1 := by decide +kernel
theorem pd_58 : (parseMethodDescriptor "(JJJ)Z").map (fun q => q.parameters.length) = some 3 := by decide +kernel
theorem pd_59 : (parseMethodDescriptor "(I)J").map (fun q => q.parameters.length) = some 1 := by decide +kernel
theorem pd_60 : (parseMethodDescriptor "(III)J").map (fun q => q.parameters.length) = some 3 := by decide +kernel
theorem pd_61 : (parseMethodDescriptor "(IIZ)I").map (fun q => q.parameters.length) = some 3 := by decide +kernel
theorem pd_62 : (parseMethodDescriptor "(IIII)Z").map (fun q => q.parameters.length) = some 4 := by decide +kernel
theorem kb_La_9 : ab_kb g_G "TurnRingLaw" 9 mt_Tu_init 0 := ⟨g_good, cd_Tu_init, g_memT (g_t1 1 rfl) rfl, Or.inl (g_memT (g_t1 24 rfl) rfl), ⟨by decide, by decide, pd_0⟩, by decide⟩
theorem kb_Tu_9 : ab_kb g_G "TurnRing" 9 mt_Ta_init 0 := ⟨g_good, cd_Ta_init, g_memT (g_t1 2 rfl) rfl, Or.inr ⟨_, g_memM (g_t1 32 rfl) rfl⟩, ⟨by decide, by decide, pd_0⟩, by decide⟩
theorem kb_Tu_18 : ab_kb g_G "TurnRing" 18 mt_Ri_init 0 := ⟨g_good, cd_Ri_init, g_memT (g_t1 3 rfl) rfl, Or.inr ⟨_, g_memM (g_t1 77 rfl) rfl⟩, ⟨by decide, by decide, pd_0⟩, by decide⟩
theorem kb_Ri_36 : ab_kb g_G "TurnRing$Ring" 36 mt_Di_init 0 := ⟨g_good, cd_Di_init, g_memT (g_t1 4 rfl) rfl, Or.inr ⟨_, g_memM (g_t1 83 rfl) rfl⟩, ⟨by decide, by decide, pd_0⟩, by decide⟩
theorem kb_Tu_42 : ab_kb g_G "TurnRing" 42 mt_Ac_init 0 := ⟨g_good, cd_Ac_init, g_memT (g_t1 5 rfl) rfl, Or.inr ⟨_, g_memM (g_t1 211 rfl) rfl⟩, ⟨by decide, by decide, pd_0⟩, by decide⟩
theorem kb_Tu_49 : ab_kb g_G "TurnRing" 49 mt_Ru_init 0 := ⟨g_good, cd_Ru_init, g_memT (g_t1 6 rfl) rfl, Or.inr ⟨_, g_memM (g_t1 235 rfl) rfl⟩, ⟨by decide, by decide, pd_0⟩, by decide⟩
theorem kb_Tu_56 : ab_kb g_G "TurnRing" 56 mt_Ma_init 0 := ⟨g_good, cd_Ma_init, g_memT (g_t1 7 rfl) rfl, Or.inr ⟨_, g_memM (g_t2 11 rfl) rfl⟩, ⟨by decide, by decide, pd_0⟩, by decide⟩
theorem kb_Tu_63 : ab_kb g_G "TurnRing" 63 mt_Pl_init 0 := ⟨g_good, cd_Pl_init, g_memT (g_t1 8 rfl) rfl, Or.inr ⟨_, g_memM (g_t2 24 rfl) rfl⟩, ⟨by decide, by decide, pd_0⟩, by decide⟩
theorem kb_Tu_70 : ab_kb g_G "TurnRing" 70 mt_Tr_init 0 := ⟨g_good, cd_Tr_init, g_memT (g_t1 9 rfl) rfl, Or.inr ⟨_, g_memM (g_t2 48 rfl) rfl⟩, ⟨by decide, by decide, pd_0⟩, by decide⟩
theorem kb_Tu_77 : ab_kb g_G "TurnRing" 77 mt_Gu_init 0 := ⟨g_good, cd_Gu_init, g_memT (g_t1 10 rfl) rfl, Or.inr ⟨_, g_memM (g_t2 72 rfl) rfl⟩, ⟨by decide, by decide, pd_0⟩, by decide⟩
theorem kb_La_13 : ab_kb g_G "TurnRingLaw" 13 mt_Tu_feed 5 := ⟨g_good, cd_Tu_feed, g_memT (g_t1 1 rfl) rfl, Or.inl (g_memT (g_t2 140 rfl) rfl), ⟨by decide, by decide, pd_1⟩, by decide⟩
theorem kb_Tu_86 : ab_kb g_G "TurnRing" 86 mt_Ta_putBytes 1 := ⟨g_good, cd_Ta_putBytes, g_memT (g_t1 2 rfl) rfl, Or.inl (g_memT (g_t2 144 rfl) rfl), ⟨by decide, by decide, pd_2⟩, by decide⟩
theorem kb_La_18 : ab_kb g_G "TurnRingLaw" 18 mt_Tu_end 1 := ⟨g_good, cd_Tu_end, g_memT (g_t1 1 rfl) rfl, Or.inl (g_memT (g_t2 148 rfl) rfl), ⟨by decide, by decide, pd_3⟩, by decide⟩
theorem kb_La_23 : ab_kb g_G "TurnRingLaw" 23 mt_Tu_ring 0 := ⟨g_good, cd_Tu_ring, g_memT (g_t1 1 rfl) rfl, Or.inl (g_memT (g_t2 152 rfl) rfl), ⟨by decide, by decide, pd_4⟩, by decide⟩
theorem kb_Tu_90 : ab_kb g_G "TurnRing" 90 mt_Rr_readAll 2 := ⟨g_good, cd_Rr_readAll, g_memT (g_t1 12 rfl) rfl, Or.inl (g_memT (g_t2 156 rfl) rfl), ⟨by decide, by decide, pd_5⟩, by decide⟩
theorem kb_Rr_13 : ab_kb g_G "TurnRing$RingReader" 13 mt_Ta_begin 1 := ⟨g_good, cd_Ta_begin, g_memT (g_t1 2 rfl) rfl, Or.inl (g_memT (g_t2 160 rfl) rfl), ⟨by decide, by decide, pd_6⟩, by decide⟩
theorem kb_Ta_31 : ab_kb g_G "TurnRing$Tape" 31 mt_Ta_advance 0 := ⟨g_good, cd_Ta_advance, g_memT (g_t1 2 rfl) rfl, Or.inl (g_memT (g_t2 164 rfl) rfl), ⟨by decide, by decide, pd_0⟩, by decide⟩
theorem kb_Ta_46 : ab_kb g_G "TurnRing$Tape" 46 mt_Ta_readNumber 0 := ⟨g_good, cd_Ta_readNumber, g_memT (g_t1 2 rfl) rfl, Or.inl (g_memT (g_t2 168 rfl) rfl), ⟨by decide, by decide, pd_0⟩, by decide⟩
theorem kb_Ta_49 : ab_kb g_G "TurnRing$Tape" 49 mt_Ta_readWord 0 := ⟨g_good, cd_Ta_readWord, g_memT (g_t1 2 rfl) rfl, Or.inl (g_memT (g_t2 172 rfl) rfl), ⟨by decide, by decide, pd_0⟩, by decide⟩
theorem kb_Ta_55 : ab_kb g_G "TurnRing$Tape" 55 mt_St_length 0 := ⟨g_good, cd_St_length, g_memT (g_t1 13 rfl) rfl, Or.inl (g_memT (g_t2 176 rfl) rfl), ⟨by decide, by decide, pd_4⟩, by decide⟩
theorem kb_St_335 : ab_kb g_G "java/lang/String" 335 mt_St_coder 0 := ⟨g_good, cd_St_coder, g_memT (g_t1 13 rfl) rfl, Or.inl (g_memT (g_t2 180 rfl) rfl), ⟨by decide, by decide, pd_7⟩, by decide⟩
theorem kb_Ta_60 : ab_kb g_G "TurnRing$Tape" 60 mt_St_charAt 1 := ⟨g_good, cd_St_charAt, g_memT (g_t1 13 rfl) rfl, Or.inl (g_memT (g_t2 186 rfl) rfl), ⟨by decide, by decide, pd_8⟩, by decide⟩
theorem kb_St_492 : ab_kb g_G "java/lang/String" 492 mt_St_isLatin1 0 := ⟨g_good, cd_St_isLatin1, g_memT (g_t1 13 rfl) rfl, Or.inl (g_memT (g_t2 190 rfl) rfl), ⟨by decide, by decide, pd_9⟩, by decide⟩
theorem kb_St_495 : ab_kb g_G "java/lang/String" 495 mt_Sl_charAt 2 := ⟨g_good, cd_Sl_charAt, g_memT (g_t1 14 rfl) rfl, Or.inl (g_memT (g_t2 194 rfl) rfl), ⟨by decide, by decide, pd_10⟩, by decide⟩
theorem kb_Sl_9 : ab_kb g_G "java/lang/StringLatin1" 9 mt_St_checkIndex 2 := ⟨g_good, cd_St_checkIndex, g_memT (g_t1 13 rfl) rfl, Or.inl (g_memT (g_t2 197 rfl) rfl), ⟨by decide, by decide, pd_11⟩, by decide⟩
theorem kb_St_1059 : ab_kb g_G "java/lang/String" 1059 mt_Zz_checkIndex 3 := ⟨g_good, cd_Zz_checkIndex, g_memT (g_t1 15 rfl) rfl, Or.inl (g_memT (g_t2 202 rfl) rfl), ⟨by decide, by decide, pd_12⟩, by decide⟩
theorem kb_St_498 : ab_kb g_G "java/lang/String" 498 mt_Su_charAt 2 := ⟨g_good, cd_Su_charAt, g_memT (g_t1 16 rfl) rfl, Or.inl (g_memT (g_t2 205 rfl) rfl), ⟨by decide, by decide, pd_10⟩, by decide⟩
theorem kb_Su_67 : ab_kb g_G "java/lang/StringUTF16" 67 mt_Su_checkIndex 2 := ⟨g_good, cd_Su_checkIndex, g_memT (g_t1 16 rfl) rfl, Or.inl (g_memT (g_t2 208 rfl) rfl), ⟨by decide, by decide, pd_13⟩, by decide⟩
theorem kb_Su_48 : ab_kb g_G "java/lang/StringUTF16" 48 mt_Su_length 1 := ⟨g_good, cd_Su_length, g_memT (g_t1 16 rfl) rfl, Or.inl (g_memT (g_t2 211 rfl) rfl), ⟨by decide, by decide, pd_14⟩, by decide⟩
theorem kb_Su_414 : ab_kb g_G "java/lang/StringUTF16" 414 mt_St_checkIndex 2 := ⟨g_good, cd_St_checkIndex, g_memT (g_t1 13 rfl) rfl, Or.inl (g_memT (g_t2 214 rfl) rfl), ⟨by decide, by decide, pd_11⟩, by decide⟩
theorem kb_Su_71 : ab_kb g_G "java/lang/StringUTF16" 71 mt_Su_getChar 2 := ⟨g_good, cd_Su_getChar, g_memT (g_t1 16 rfl) rfl, Or.inl (g_memT (g_t2 215 rfl) rfl), ⟨by decide, by decide, pd_10⟩, by decide⟩
theorem kb_Ta_52 : ab_kb g_G "TurnRing$Tape" 52 mt_Ta_readSign 0 := ⟨g_good, cd_Ta_readSign, g_memT (g_t1 2 rfl) rfl, Or.inl (g_memT (g_t2 224 rfl) rfl), ⟨by decide, by decide, pd_0⟩, by decide⟩
theorem kb_Rr_19 : ab_kb g_G "TurnRing$RingReader" 19 mt_Ri_clear 0 := ⟨g_good, cd_Ri_clear, g_memT (g_t1 3 rfl) rfl, Or.inl (g_memT (g_t2 228 rfl) rfl), ⟨by decide, by decide, pd_0⟩, by decide⟩
theorem kb_Ri_73 : ab_kb g_G "TurnRing$Ring" 73 mt_Ar_fill_AIIV 2 := ⟨g_good, cd_Ar_fill_AIIV, g_memT (g_t1 17 rfl) rfl, Or.inl (g_memT (g_t2 232 rfl) rfl), ⟨by decide, by decide, pd_15⟩, by decide⟩
theorem kb_Ri_79 : ab_kb g_G "TurnRing$Ring" 79 mt_Ar_fill_AJJV 2 := ⟨g_good, cd_Ar_fill_AJJV, g_memT (g_t1 17 rfl) rfl, Or.inl (g_memT (g_t2 235 rfl) rfl), ⟨by decide, by decide, pd_16⟩, by decide⟩
theorem kb_Rr_28 : ab_kb g_G "TurnRing$RingReader" 28 mt_Ta_fail 1 := ⟨g_good, cd_Ta_fail, g_memT (g_t1 2 rfl) rfl, Or.inl (g_memT (g_t2 238 rfl) rfl), ⟨by decide, by decide, pd_2⟩, by decide⟩
theorem kb_Rr_32 : ab_kb g_G "TurnRing$RingReader" 32 mt_Rr_mayFollow 3 := ⟨g_good, cd_Rr_mayFollow, g_memT (g_t1 12 rfl) rfl, Or.inl (g_memT (g_t3 2 rfl) rfl), ⟨by decide, by decide, pd_17⟩, by decide⟩
theorem kb_Rr_36 : ab_kb g_G "TurnRing$RingReader" 36 mt_Ta_advance 0 := ⟨g_good, cd_Ta_advance, g_memT (g_t1 2 rfl) rfl, Or.inl (g_memT (g_t3 5 rfl) rfl), ⟨by decide, by decide, pd_0⟩, by decide⟩
theorem kb_Rr_39 : ab_kb g_G "TurnRing$RingReader" 39 mt_Rr_readRest 3 := ⟨g_good, cd_Rr_readRest, g_memT (g_t1 12 rfl) rfl, Or.inl (g_memT (g_t3 6 rfl) rfl), ⟨by decide, by decide, pd_18⟩, by decide⟩
theorem kb_Rr_59 : ab_kb g_G "TurnRing$RingReader" 59 mt_Ta_takeNumber 2 := ⟨g_good, cd_Ta_takeNumber, g_memT (g_t1 2 rfl) rfl, Or.inl (g_memT (g_t3 9 rfl) rfl), ⟨by decide, by decide, pd_19⟩, by decide⟩
theorem kb_Ta_64 : ab_kb g_G "TurnRing$Tape" 64 mt_Ta_fail 1 := ⟨g_good, cd_Ta_fail, g_memT (g_t1 2 rfl) rfl, Or.inl (g_memT (g_t3 13 rfl) rfl), ⟨by decide, by decide, pd_2⟩, by decide⟩
theorem kb_Rr_63 : ab_kb g_G "TurnRing$RingReader" 63 mt_Mh_max_III 2 := ⟨g_good, cd_Mh_max_III, g_memT (g_t1 18 rfl) rfl, Or.inl (g_memT (g_t3 14 rfl) rfl), ⟨by decide, by decide, pd_19⟩, by decide⟩
theorem kb_Rr_71 : ab_kb g_G "TurnRing$RingReader" 71 mt_Rr_readHouse 2 := ⟨g_good, cd_Rr_readHouse, g_memT (g_t1 12 rfl) rfl, Or.inl (g_memT (g_t3 17 rfl) rfl), ⟨by decide, by decide, pd_20⟩, by decide⟩
theorem kb_Rr_90 : ab_kb g_G "TurnRing$RingReader" 90 mt_Ri_slotTaken 1 := ⟨g_good, cd_Ri_slotTaken, g_memT (g_t1 3 rfl) rfl, Or.inl (g_memT (g_t3 20 rfl) rfl), ⟨by decide, by decide, pd_21⟩, by decide⟩
theorem kb_Rr_94 : ab_kb g_G "TurnRing$RingReader" 94 mt_Ri_addHouse 2 := ⟨g_good, cd_Ri_addHouse, g_memT (g_t1 3 rfl) rfl, Or.inl (g_memT (g_t3 24 rfl) rfl), ⟨by decide, by decide, pd_11⟩, by decide⟩
theorem kb_Rr_75 : ab_kb g_G "TurnRing$RingReader" 75 mt_Rr_readSight 2 := ⟨g_good, cd_Rr_readSight, g_memT (g_t1 12 rfl) rfl, Or.inl (g_memT (g_t3 28 rfl) rfl), ⟨by decide, by decide, pd_20⟩, by decide⟩
theorem kb_Rr_98 : ab_kb g_G "TurnRing$RingReader" 98 mt_Ri_addSight 4 := ⟨g_good, cd_Ri_addSight, g_memT (g_t1 3 rfl) rfl, Or.inl (g_memT (g_t3 31 rfl) rfl), ⟨by decide, by decide, pd_22⟩, by decide⟩
theorem kb_Rr_78 : ab_kb g_G "TurnRing$RingReader" 78 mt_Rr_readLiking 3 := ⟨g_good, cd_Rr_readLiking, g_memT (g_t1 12 rfl) rfl, Or.inl (g_memT (g_t3 35 rfl) rfl), ⟨by decide, by decide, pd_18⟩, by decide⟩
theorem kb_Rr_81 : ab_kb g_G "TurnRing$RingReader" 81 mt_Rr_readGate 2 := ⟨g_good, cd_Rr_readGate, g_memT (g_t1 12 rfl) rfl, Or.inl (g_memT (g_t3 38 rfl) rfl), ⟨by decide, by decide, pd_20⟩, by decide⟩
theorem kb_Rr_84 : ab_kb g_G "TurnRing$RingReader" 84 mt_Rr_readRate 2 := ⟨g_good, cd_Rr_readRate, g_memT (g_t1 12 rfl) rfl, Or.inl (g_memT (g_t3 41 rfl) rfl), ⟨by decide, by decide, pd_20⟩, by decide⟩
theorem kb_Rr_109 : ab_kb g_G "TurnRing$RingReader" 109 mt_Ri_setRates 3 := ⟨g_good, cd_Ri_setRates, g_memT (g_t1 3 rfl) rfl, Or.inl (g_memT (g_t3 44 rfl) rfl), ⟨by decide, by decide, pd_23⟩, by decide⟩
theorem kb_Tu_99 : ab_kb g_G "TurnRing" 99 mt_Ac_forget 0 := ⟨g_good, cd_Ac_forget, g_memT (g_t1 5 rfl) rfl, Or.inl (g_memT (g_t3 48 rfl) rfl), ⟨by decide, by decide, pd_0⟩, by decide⟩
theorem kb_La_28 : ab_kb g_G "TurnRingLaw" 28 mt_Tu_rule 0 := ⟨g_good, cd_Tu_rule, g_memT (g_t1 1 rfl) rfl, Or.inl (g_memT (g_t3 52 rfl) rfl), ⟨by decide, by decide, pd_4⟩, by decide⟩
theorem kb_Tu_108 : ab_kb g_G "TurnRing" 108 mt_Ru_readAll 1 := ⟨g_good, cd_Ru_readAll, g_memT (g_t1 6 rfl) rfl, Or.inl (g_memT (g_t3 56 rfl) rfl), ⟨by decide, by decide, pd_24⟩, by decide⟩
theorem kb_Ru_17 : ab_kb g_G "TurnRing$RuleReader" 17 mt_Ta_begin 1 := ⟨g_good, cd_Ta_begin, g_memT (g_t1 2 rfl) rfl, Or.inl (g_memT (g_t3 61 rfl) rfl), ⟨by decide, by decide, pd_6⟩, by decide⟩
theorem kb_Ru_33 : ab_kb g_G "TurnRing$RuleReader" 33 mt_Ta_fail 1 := ⟨g_good, cd_Ta_fail, g_memT (g_t1 2 rfl) rfl, Or.inl (g_memT (g_t3 62 rfl) rfl), ⟨by decide, by decide, pd_2⟩, by decide⟩
theorem kb_Ru_37 : ab_kb g_G "TurnRing$RuleReader" 37 mt_Ta_advance 0 := ⟨g_good, cd_Ta_advance, g_memT (g_t1 2 rfl) rfl, Or.inl (g_memT (g_t3 63 rfl) rfl), ⟨by decide, by decide, pd_0⟩, by decide⟩
theorem kb_Ru_40 : ab_kb g_G "TurnRing$RuleReader" 40 mt_Ru_readSum 1 := ⟨g_good, cd_Ru_readSum, g_memT (g_t1 6 rfl) rfl, Or.inl (g_memT (g_t3 64 rfl) rfl), ⟨by decide, by decide, pd_25⟩, by decide⟩
theorem kb_Ru_75 : ab_kb g_G "TurnRing$RuleReader" 75 mt_Ru_checkValue 1 := ⟨g_good, cd_Ru_checkValue, g_memT (g_t1 6 rfl) rfl, Or.inl (g_memT (g_t3 68 rfl) rfl), ⟨by decide, by decide, pd_25⟩, by decide⟩
theorem kb_Ru_72 : ab_kb g_G "TurnRing$RuleReader" 72 mt_Ru_countToken 1 := ⟨g_good, cd_Ru_countToken, g_memT (g_t1 6 rfl) rfl, Or.inl (g_memT (g_t3 72 rfl) rfl), ⟨by decide, by decide, pd_25⟩, by decide⟩
theorem kb_Ru_50 : ab_kb g_G "TurnRing$RuleReader" 50 mt_Ru_emit 1 := ⟨g_good, cd_Ru_emit, g_memT (g_t1 6 rfl) rfl, Or.inl (g_memT (g_t3 76 rfl) rfl), ⟨by decide, by decide, pd_2⟩, by decide⟩
theorem kb_Ru_81 : ab_kb g_G "TurnRing$RuleReader" 81 mt_Ru_timingOf 1 := ⟨g_good, cd_Ru_timingOf, g_memT (g_t1 6 rfl) rfl, Or.inl (g_memT (g_t3 80 rfl) rfl), ⟨by decide, by decide, pd_3⟩, by decide⟩
theorem kb_Ru_84 : ab_kb g_G "TurnRing$RuleReader" 84 mt_Ru_addingOf 1 := ⟨g_good, cd_Ru_addingOf, g_memT (g_t1 6 rfl) rfl, Or.inl (g_memT (g_t3 83 rfl) rfl), ⟨by decide, by decide, pd_3⟩, by decide⟩
theorem kb_Ru_46 : ab_kb g_G "TurnRing$RuleReader" 46 mt_Ru_readTest 2 := ⟨g_good, cd_Ru_readTest, g_memT (g_t1 6 rfl) rfl, Or.inl (g_memT (g_t3 86 rfl) rfl), ⟨by decide, by decide, pd_26⟩, by decide⟩
theorem kb_Ru_65 : ab_kb g_G "TurnRing$RuleReader" 65 mt_Ru_readFact 2 := ⟨g_good, cd_Ru_readFact, g_memT (g_t1 6 rfl) rfl, Or.inl (g_memT (g_t3 90 rfl) rfl), ⟨by decide, by decide, pd_26⟩, by decide⟩
theorem kb_Ru_68 : ab_kb g_G "TurnRing$RuleReader" 68 mt_Ru_comparisonOf 1 := ⟨g_good, cd_Ru_comparisonOf, g_memT (g_t1 6 rfl) rfl, Or.inl (g_memT (g_t3 94 rfl) rfl), ⟨by decide, by decide, pd_3⟩, by decide⟩
theorem kb_Tu_111 : ab_kb g_G "TurnRing" 111 mt_Ru_codeRead 0 := ⟨g_good, cd_Ru_codeRead, g_memT (g_t1 6 rfl) rfl, Or.inl (g_memT (g_t3 98 rfl) rfl), ⟨by decide, by decide, pd_27⟩, by decide⟩
theorem kb_Ru_59 : ab_kb g_G "TurnRing$RuleReader" 59 mt_Ar_copyOf 2 := ⟨g_good, cd_Ar_copyOf, g_memT (g_t1 17 rfl) rfl, Or.inl (g_memT (g_t3 102 rfl) rfl), ⟨by decide, by decide, pd_28⟩, by decide⟩
theorem kb_Ar_304 : ab_kb g_G "java/util/Arrays" 304 mt_Mh_min_III 2 := ⟨g_good, cd_Mh_min_III, g_memT (g_t1 18 rfl) rfl, Or.inl (g_memT (g_t3 112 rfl) rfl), ⟨by decide, by decide, pd_19⟩, by decide⟩
theorem kb_Tu_115 : ab_kb g_G "TurnRing" 115 mt_Ro_init 1 := ⟨g_good, cd_Ro_init, g_memT (g_t1 19 rfl) rfl, Or.inl (g_memT (g_t3 118 rfl) rfl), ⟨by decide, by decide, pd_31⟩, by decide⟩
theorem kb_La_32 : ab_kb g_G "TurnRingLaw" 32 mt_Tu_house 2 := ⟨g_good, cd_Tu_house, g_memT (g_t1 1 rfl) rfl, Or.inl (g_memT (g_t3 127 rfl) rfl), ⟨by decide, by decide, pd_19⟩, by decide⟩
theorem kb_Tu_118 : ab_kb g_G "TurnRing" 118 mt_Tu_hasHouse 1 := ⟨g_good, cd_Tu_hasHouse, g_memT (g_t1 1 rfl) rfl, Or.inl (g_memT (g_t3 131 rfl) rfl), ⟨by decide, by decide, pd_21⟩, by decide⟩
theorem kb_Tu_132 : ab_kb g_G "TurnRing" 132 mt_Ri_facing 1 := ⟨g_good, cd_Ri_facing, g_memT (g_t1 3 rfl) rfl, Or.inl (g_memT (g_t3 135 rfl) rfl), ⟨by decide, by decide, pd_3⟩, by decide⟩
theorem kb_Ri_95 : ab_kb g_G "TurnRing$Ring" 95 mt_Tu_facedBy 2 := ⟨g_good, cd_Tu_facedBy, g_memT (g_t1 1 rfl) rfl, Or.inr ⟨_, g_memM (g_t3 139 rfl) rfl⟩, ⟨by decide, by decide, pd_19⟩, by decide⟩
theorem kb_Tu_139 : ab_kb g_G "TurnRing" 139 mt_Ri_sortsAt 2 := ⟨g_good, cd_Ri_sortsAt, g_memT (g_t1 3 rfl) rfl, Or.inl (g_memT (g_t3 142 rfl) rfl), ⟨by decide, by decide, pd_19⟩, by decide⟩
theorem kb_Tu_143 : ab_kb g_G "TurnRing" 143 mt_Ri_likesNow 1 := ⟨g_good, cd_Ri_likesNow, g_memT (g_t1 3 rfl) rfl, Or.inl (g_memT (g_t3 146 rfl) rfl), ⟨by decide, by decide, pd_3⟩, by decide⟩
theorem kb_Ri_106 : ab_kb g_G "TurnRing$Ring" 106 mt_Ri_likesIn 4 := ⟨g_good, cd_Ri_likesIn, g_memT (g_t1 3 rfl) rfl, Or.inl (g_memT (g_t3 150 rfl) rfl), ⟨by decide, by decide, pd_32⟩, by decide⟩
theorem kb_Ri_103 : ab_kb g_G "TurnRing$Ring" 103 mt_Ri_sortsAt 2 := ⟨g_good, cd_Ri_sortsAt, g_memT (g_t1 3 rfl) rfl, Or.inl (g_memT (g_t3 154 rfl) rfl), ⟨by decide, by decide, pd_19⟩, by decide⟩
theorem kb_Tu_146 : ab_kb g_G "TurnRing" 146 mt_Ri_isGate 1 := ⟨g_good, cd_Ri_isGate, g_memT (g_t1 3 rfl) rfl, Or.inl (g_memT (g_t3 155 rfl) rfl), ⟨by decide, by decide, pd_21⟩, by decide⟩
theorem kb_Tu_149 : ab_kb g_G "TurnRing" 149 mt_Ri_wantsStay 1 := ⟨g_good, cd_Ri_wantsStay, g_memT (g_t1 3 rfl) rfl, Or.inl (g_memT (g_t3 159 rfl) rfl), ⟨by decide, by decide, pd_21⟩, by decide⟩
theorem kb_Ri_131 : ab_kb g_G "TurnRing$Ring" 131 mt_Tu_wrapped 1 := ⟨g_good, cd_Tu_wrapped, g_memT (g_t1 1 rfl) rfl, Or.inr ⟨_, g_memM (g_t3 163 rfl) rfl⟩, ⟨by decide, by decide, pd_3⟩, by decide⟩
theorem kb_La_37 : ab_kb g_G "TurnRingLaw" 37 mt_Tu_direction 2 := ⟨g_good, cd_Tu_direction, g_memT (g_t1 1 rfl) rfl, Or.inl (g_memT (g_t3 166 rfl) rfl), ⟨by decide, by decide, pd_19⟩, by decide⟩
theorem kb_Tu_156 : ab_kb g_G "TurnRing" 156 mt_Tu_isDirection 1 := ⟨g_good, cd_Tu_isDirection, g_memT (g_t1 1 rfl) rfl, Or.inl (g_memT (g_t3 170 rfl) rfl), ⟨by decide, by decide, pd_21⟩, by decide⟩
theorem kb_Tu_159 : ab_kb g_G "TurnRing" 159 mt_Ri_houseFacing 1 := ⟨g_good, cd_Ri_houseFacing, g_memT (g_t1 3 rfl) rfl, Or.inl (g_memT (g_t3 173 rfl) rfl), ⟨by decide, by decide, pd_3⟩, by decide⟩
theorem kb_Ri_99 : ab_kb g_G "TurnRing$Ring" 99 mt_Ri_facing 1 := ⟨g_good, cd_Ri_facing, g_memT (g_t1 3 rfl) rfl, Or.inl (g_memT (g_t3 177 rfl) rfl), ⟨by decide, by decide, pd_3⟩, by decide⟩
theorem kb_La_41 : ab_kb g_G "TurnRingLaw" 41 mt_Tu_rateOf 1 := ⟨g_good, cd_Tu_rateOf, g_memT (g_t1 1 rfl) rfl, Or.inl (g_memT (g_t3 178 rfl) rfl), ⟨by decide, by decide, pd_3⟩, by decide⟩
theorem kb_Tu_162 : ab_kb g_G "TurnRing" 162 mt_Tu_isHour 1 := ⟨g_good, cd_Tu_isHour, g_memT (g_t1 1 rfl) rfl, Or.inl (g_memT (g_t3 182 rfl) rfl), ⟨by decide, by decide, pd_21⟩, by decide⟩
theorem kb_La_45 : ab_kb g_G "TurnRingLaw" 45 mt_Tu_worn 1 := ⟨g_good, cd_Tu_worn, g_memT (g_t1 1 rfl) rfl, Or.inl (g_memT (g_t3 185 rfl) rfl), ⟨by decide, by decide, pd_3⟩, by decide⟩
theorem kb_La_139 : ab_kb g_G "TurnRingLaw" 139 mt_Tu_count 1 := ⟨g_good, cd_Tu_count, g_memT (g_t1 1 rfl) rfl, Or.inl (g_memT (g_t3 189 rfl) rfl), ⟨by decide, by decide, pd_3⟩, by decide⟩
theorem kb_Tu_183 : ab_kb g_G "TurnRing" 183 mt_Ri_allLike 2 := ⟨g_good, cd_Ri_allLike, g_memT (g_t1 3 rfl) rfl, Or.inl (g_memT (g_t3 193 rfl) rfl), ⟨by decide, by decide, pd_19⟩, by decide⟩
theorem kb_Tu_204 : ab_kb g_G "TurnRing" 204 mt_Ri_allVotes 0 := ⟨g_good, cd_Ri_allVotes, g_memT (g_t1 3 rfl) rfl, Or.inl (g_memT (g_t3 197 rfl) rfl), ⟨by decide, by decide, pd_4⟩, by decide⟩
theorem kb_Ri_137 : ab_kb g_G "TurnRing$Ring" 137 mt_Ri_votesOf 1 := ⟨g_good, cd_Ri_votesOf, g_memT (g_t1 3 rfl) rfl, Or.inl (g_memT (g_t3 201 rfl) rfl), ⟨by decide, by decide, pd_3⟩, by decide⟩
theorem kb_La_49 : ab_kb g_G "TurnRingLaw" 49 mt_Tu_hour 0 := ⟨g_good, cd_Tu_hour, g_memT (g_t1 1 rfl) rfl, Or.inl (g_memT (g_t3 206 rfl) rfl), ⟨by decide, by decide, pd_4⟩, by decide⟩
theorem kb_Tu_209 : ab_kb g_G "TurnRing" 209 mt_Ri_hoursBehind 1 := ⟨g_good, cd_Ri_hoursBehind, g_memT (g_t1 3 rfl) rfl, Or.inl (g_memT (g_t3 210 rfl) rfl), ⟨by decide, by decide, pd_3⟩, by decide⟩
theorem kb_Tu_212 : ab_kb g_G "TurnRing" 212 mt_Tu_lastHour 0 := ⟨g_good, cd_Tu_lastHour, g_memT (g_t1 1 rfl) rfl, Or.inl (g_memT (g_t3 214 rfl) rfl), ⟨by decide, by decide, pd_4⟩, by decide⟩
theorem kb_Tu_215 : ab_kb g_G "TurnRing" 215 mt_Ri_passHour 1 := ⟨g_good, cd_Ri_passHour, g_memT (g_t1 3 rfl) rfl, Or.inl (g_memT (g_t3 217 rfl) rfl), ⟨by decide, by decide, pd_3⟩, by decide⟩
theorem kb_Ri_140 : ab_kb g_G "TurnRing$Ring" 140 mt_Mh_abs 1 := ⟨g_good, cd_Mh_abs, g_memT (g_t1 18 rfl) rfl, Or.inl (g_memT (g_t3 221 rfl) rfl), ⟨by decide, by decide, pd_3⟩, by decide⟩
theorem kb_Ri_118 : ab_kb g_G "TurnRing$Ring" 118 mt_Mh_min_III 2 := ⟨g_good, cd_Mh_min_III, g_memT (g_t1 18 rfl) rfl, Or.inl (g_memT (g_t3 224 rfl) rfl), ⟨by decide, by decide, pd_19⟩, by decide⟩
theorem kb_Tu_218 : ab_kb g_G "TurnRing" 218 mt_Ac_keep 3 := ⟨g_good, cd_Ac_keep, g_memT (g_t1 5 rfl) rfl, Or.inl (g_memT (g_t3 225 rfl) rfl), ⟨by decide, by decide, pd_23⟩, by decide⟩
theorem kb_Ac_26 : ab_kb g_G "TurnRing$ActLog" 26 mt_Mh_min_III 2 := ⟨g_good, cd_Mh_min_III, g_memT (g_t1 18 rfl) rfl, Or.inl (g_memT (g_t3 229 rfl) rfl), ⟨by decide, by decide, pd_19⟩, by decide⟩
theorem kb_La_53 : ab_kb g_G "TurnRingLaw" 53 mt_Tu_rate 2 := ⟨g_good, cd_Tu_rate, g_memT (g_t1 1 rfl) rfl, Or.inl (g_memT (g_t3 230 rfl) rfl), ⟨by decide, by decide, pd_19⟩, by decide⟩
theorem kb_La_57 : ab_kb g_G "TurnRingLaw" 57 mt_Tu_swap 2 := ⟨g_good, cd_Tu_swap, g_memT (g_t1 1 rfl) rfl, Or.inl (g_memT (g_t3 234 rfl) rfl), ⟨by decide, by decide, pd_33⟩, by decide⟩
theorem kb_Tu_222 : ab_kb g_G "TurnRing" 222 mt_Ri_swapSlots 2 := ⟨g_good, cd_Ri_swapSlots, g_memT (g_t1 3 rfl) rfl, Or.inl (g_memT (g_t3 238 rfl) rfl), ⟨by decide, by decide, pd_11⟩, by decide⟩
theorem kb_La_62 : ab_kb g_G "TurnRingLaw" 62 mt_Tu_stop 0 := ⟨g_good, cd_Tu_stop, g_memT (g_t1 1 rfl) rfl, Or.inl (g_memT (g_t4 2 rfl) rfl), ⟨by decide, by decide, pd_9⟩, by decide⟩
theorem kb_La_67 : ab_kb g_G "TurnRingLaw" 67 mt_Tu_undo 0 := ⟨g_good, cd_Tu_undo, g_memT (g_t1 1 rfl) rfl, Or.inl (g_memT (g_t4 6 rfl) rfl), ⟨by decide, by decide, pd_4⟩, by decide⟩
theorem kb_Tu_226 : ab_kb g_G "TurnRing" 226 mt_Ac_undoLast 1 := ⟨g_good, cd_Ac_undoLast, g_memT (g_t1 5 rfl) rfl, Or.inl (g_memT (g_t4 10 rfl) rfl), ⟨by decide, by decide, pd_34⟩, by decide⟩
theorem kb_Ac_32 : ab_kb g_G "TurnRing$ActLog" 32 mt_Ri_takeHourBack 2 := ⟨g_good, cd_Ri_takeHourBack, g_memT (g_t1 3 rfl) rfl, Or.inl (g_memT (g_t4 14 rfl) rfl), ⟨by decide, by decide, pd_35⟩, by decide⟩
theorem kb_Ac_41 : ab_kb g_G "TurnRing$ActLog" 41 mt_Ri_swapSlots 2 := ⟨g_good, cd_Ri_swapSlots, g_memT (g_t1 3 rfl) rfl, Or.inl (g_memT (g_t4 18 rfl) rfl), ⟨by decide, by decide, pd_11⟩, by decide⟩
theorem kb_La_71 : ab_kb g_G "TurnRingLaw" 71 mt_Tu_run 2 := ⟨g_good, cd_Tu_run, g_memT (g_t1 1 rfl) rfl, Or.inl (g_memT (g_t4 19 rfl) rfl), ⟨by decide, by decide, pd_19⟩, by decide⟩
theorem kb_Tu_230 : ab_kb g_G "TurnRing" 230 mt_Tu_hasRule 1 := ⟨g_good, cd_Tu_hasRule, g_memT (g_t1 1 rfl) rfl, Or.inl (g_memT (g_t4 23 rfl) rfl), ⟨by decide, by decide, pd_21⟩, by decide⟩
theorem kb_Tu_233 : ab_kb g_G "TurnRing" 233 mt_Ma_rateBy 2 := ⟨g_good, cd_Ma_rateBy, g_memT (g_t1 7 rfl) rfl, Or.inl (g_memT (g_t4 27 rfl) rfl), ⟨by decide, by decide, pd_36⟩, by decide⟩
theorem kb_Ma_25 : ab_kb g_G "TurnRing$Machine" 25 mt_Ma_push 1 := ⟨g_good, cd_Ma_push, g_memT (g_t1 7 rfl) rfl, Or.inl (g_memT (g_t4 31 rfl) rfl), ⟨by decide, by decide, pd_37⟩, by decide⟩
theorem kb_Ma_29 : ab_kb g_G "TurnRing$Machine" 29 mt_Ma_wordOf 2 := ⟨g_good, cd_Ma_wordOf, g_memT (g_t1 7 rfl) rfl, Or.inl (g_memT (g_t4 35 rfl) rfl), ⟨by decide, by decide, pd_38⟩, by decide⟩
theorem kb_Ma_79 : ab_kb g_G "TurnRing$Machine" 79 mt_Ri_allLike 2 := ⟨g_good, cd_Ri_allLike, g_memT (g_t1 3 rfl) rfl, Or.inl (g_memT (g_t4 38 rfl) rfl), ⟨by decide, by decide, pd_19⟩, by decide⟩
theorem kb_Ma_83 : ab_kb g_G "TurnRing$Machine" 83 mt_Ri_bestLike 0 := ⟨g_good, cd_Ri_bestLike, g_memT (g_t1 3 rfl) rfl, Or.inl (g_memT (g_t4 39 rfl) rfl), ⟨by decide, by decide, pd_4⟩, by decide⟩
theorem kb_Ri_110 : ab_kb g_G "TurnRing$Ring" 110 mt_Ri_likesNow 1 := ⟨g_good, cd_Ri_likesNow, g_memT (g_t1 3 rfl) rfl, Or.inl (g_memT (g_t4 43 rfl) rfl), ⟨by decide, by decide, pd_3⟩, by decide⟩
theorem kb_Ri_113 : ab_kb g_G "TurnRing$Ring" 113 mt_Mh_max_III 2 := ⟨g_good, cd_Mh_max_III, g_memT (g_t1 18 rfl) rfl, Or.inl (g_memT (g_t4 44 rfl) rfl), ⟨by decide, by decide, pd_19⟩, by decide⟩
theorem kb_Ma_87 : ab_kb g_G "TurnRing$Machine" 87 mt_Ri_leastLike 0 := ⟨g_good, cd_Ri_leastLike, g_memT (g_t1 3 rfl) rfl, Or.inl (g_memT (g_t4 45 rfl) rfl), ⟨by decide, by decide, pd_4⟩, by decide⟩
theorem kb_Ma_90 : ab_kb g_G "TurnRing$Machine" 90 mt_Ri_stayVotes 0 := ⟨g_good, cd_Ri_stayVotes, g_memT (g_t1 3 rfl) rfl, Or.inl (g_memT (g_t4 49 rfl) rfl), ⟨by decide, by decide, pd_4⟩, by decide⟩
theorem kb_Ri_134 : ab_kb g_G "TurnRing$Ring" 134 mt_Ri_wantsStay 1 := ⟨g_good, cd_Ri_wantsStay, g_memT (g_t1 3 rfl) rfl, Or.inl (g_memT (g_t4 53 rfl) rfl), ⟨by decide, by decide, pd_21⟩, by decide⟩
theorem kb_Ma_93 : ab_kb g_G "TurnRing$Machine" 93 mt_Ri_allVotes 0 := ⟨g_good, cd_Ri_allVotes, g_memT (g_t1 3 rfl) rfl, Or.inl (g_memT (g_t4 54 rfl) rfl), ⟨by decide, by decide, pd_4⟩, by decide⟩
theorem kb_Ma_96 : ab_kb g_G "TurnRing$Machine" 96 mt_Ri_atGates 0 := ⟨g_good, cd_Ri_atGates, g_memT (g_t1 3 rfl) rfl, Or.inl (g_memT (g_t4 55 rfl) rfl), ⟨by decide, by decide, pd_4⟩, by decide⟩
theorem kb_Ri_121 : ab_kb g_G "TurnRing$Ring" 121 mt_Ri_isGate 1 := ⟨g_good, cd_Ri_isGate, g_memT (g_t1 3 rfl) rfl, Or.inl (g_memT (g_t4 59 rfl) rfl), ⟨by decide, by decide, pd_21⟩, by decide⟩
theorem kb_Ma_33 : ab_kb g_G "TurnRing$Machine" 33 mt_Ma_pop 0 := ⟨g_good, cd_Ma_pop, g_memT (g_t1 7 rfl) rfl, Or.inl (g_memT (g_t4 60 rfl) rfl), ⟨by decide, by decide, pd_39⟩, by decide⟩
theorem kb_Ma_37 : ab_kb g_G "TurnRing$Machine" 37 mt_Ma_truth 1 := ⟨g_good, cd_Ma_truth, g_memT (g_t1 7 rfl) rfl, Or.inl (g_memT (g_t4 64 rfl) rfl), ⟨by decide, by decide, pd_40⟩, by decide⟩
theorem kb_Ma_41 : ab_kb g_G "TurnRing$Machine" 41 mt_Ma_held 1 := ⟨g_good, cd_Ma_held, g_memT (g_t1 7 rfl) rfl, Or.inl (g_memT (g_t4 67 rfl) rfl), ⟨by decide, by decide, pd_41⟩, by decide⟩
theorem kb_Ma_53 : ab_kb g_G "TurnRing$Machine" 53 mt_Mh_min_JJJ 2 := ⟨g_good, cd_Mh_min_JJJ, g_memT (g_t1 18 rfl) rfl, Or.inl (g_memT (g_t4 72 rfl) rfl), ⟨by decide, by decide, pd_42⟩, by decide⟩
theorem kb_Ma_59 : ab_kb g_G "TurnRing$Machine" 59 mt_Mh_max_JJJ 2 := ⟨g_good, cd_Mh_max_JJJ, g_memT (g_t1 18 rfl) rfl, Or.inl (g_memT (g_t4 75 rfl) rfl), ⟨by decide, by decide, pd_42⟩, by decide⟩
theorem kb_Ma_45 : ab_kb g_G "TurnRing$Machine" 45 mt_Ma_joined 3 := ⟨g_good, cd_Ma_joined, g_memT (g_t1 7 rfl) rfl, Or.inl (g_memT (g_t4 78 rfl) rfl), ⟨by decide, by decide, pd_43⟩, by decide⟩
theorem kb_La_131 : ab_kb g_G "TurnRingLaw" 131 mt_Tu_seed 1 := ⟨g_good, cd_Tu_seed, g_memT (g_t1 1 rfl) rfl, Or.inl (g_memT (g_t4 81 rfl) rfl), ⟨by decide, by decide, pd_3⟩, by decide⟩
theorem kb_La_143 : ab_kb g_G "TurnRingLaw" 143 mt_Tu_image 1 := ⟨g_good, cd_Tu_image, g_memT (g_t1 1 rfl) rfl, Or.inl (g_memT (g_t4 85 rfl) rfl), ⟨by decide, by decide, pd_3⟩, by decide⟩
theorem kb_Tu_237 : ab_kb g_G "TurnRing" 237 mt_Ri_copyFrom 1 := ⟨g_good, cd_Ri_copyFrom, g_memT (g_t1 3 rfl) rfl, Or.inl (g_memT (g_t4 89 rfl) rfl), ⟨by decide, by decide, pd_44⟩, by decide⟩
theorem kb_Ri_91 : ab_kb g_G "TurnRing$Ring" 91 mt_Di_copyFrom 1 := ⟨g_good, cd_Di_copyFrom, g_memT (g_t1 4 rfl) rfl, Or.inl (g_memT (g_t4 94 rfl) rfl), ⟨by decide, by decide, pd_45⟩, by decide⟩
theorem kb_La_147 : ab_kb g_G "TurnRingLaw" 147 mt_Tu_back 1 := ⟨g_good, cd_Tu_back, g_memT (g_t1 1 rfl) rfl, Or.inl (g_memT (g_t4 99 rfl) rfl), ⟨by decide, by decide, pd_3⟩, by decide⟩
theorem kb_La_75 : ab_kb g_G "TurnRingLaw" 75 mt_Tu_faces 2 := ⟨g_good, cd_Tu_faces, g_memT (g_t1 1 rfl) rfl, Or.inl (g_memT (g_t4 103 rfl) rfl), ⟨by decide, by decide, pd_19⟩, by decide⟩
theorem kb_Tu_241 : ab_kb g_G "TurnRing" 241 mt_Ri_angleOn 1 := ⟨g_good, cd_Ri_angleOn, g_memT (g_t1 3 rfl) rfl, Or.inl (g_memT (g_t4 107 rfl) rfl), ⟨by decide, by decide, pd_3⟩, by decide⟩
theorem kb_Ri_128 : ab_kb g_G "TurnRing$Ring" 128 mt_Ri_angleBehind 2 := ⟨g_good, cd_Ri_angleBehind, g_memT (g_t1 3 rfl) rfl, Or.inl (g_memT (g_t4 111 rfl) rfl), ⟨by decide, by decide, pd_19⟩, by decide⟩
theorem kb_Ri_125 : ab_kb g_G "TurnRing$Ring" 125 mt_Ri_hourOn 1 := ⟨g_good, cd_Ri_hourOn, g_memT (g_t1 3 rfl) rfl, Or.inl (g_memT (g_t4 115 rfl) rfl), ⟨by decide, by decide, pd_3⟩, by decide⟩
theorem kb_Tu_244 : ab_kb g_G "TurnRing" 244 mt_Tu_facedBy 2 := ⟨g_good, cd_Tu_facedBy, g_memT (g_t1 1 rfl) rfl, Or.inl (g_memT (g_t4 119 rfl) rfl), ⟨by decide, by decide, pd_19⟩, by decide⟩
theorem kb_La_79 : ab_kb g_G "TurnRingLaw" 79 mt_Tu_sees 2 := ⟨g_good, cd_Tu_sees, g_memT (g_t1 1 rfl) rfl, Or.inl (g_memT (g_t4 120 rfl) rfl), ⟨by decide, by decide, pd_19⟩, by decide⟩
theorem kb_Tu_247 : ab_kb g_G "TurnRing" 247 mt_Ri_hourOn 1 := ⟨g_good, cd_Ri_hourOn, g_memT (g_t1 3 rfl) rfl, Or.inl (g_memT (g_t4 124 rfl) rfl), ⟨by decide, by decide, pd_3⟩, by decide⟩
theorem kb_La_83 : ab_kb g_G "TurnRingLaw" 83 mt_Tu_day 1 := ⟨g_good, cd_Tu_day, g_memT (g_t1 1 rfl) rfl, Or.inl (g_memT (g_t4 125 rfl) rfl), ⟨by decide, by decide, pd_3⟩, by decide⟩
theorem kb_Tu_250 : ab_kb g_G "TurnRing" 250 mt_Ri_dayIn 2 := ⟨g_good, cd_Ri_dayIn, g_memT (g_t1 3 rfl) rfl, Or.inl (g_memT (g_t4 129 rfl) rfl), ⟨by decide, by decide, pd_19⟩, by decide⟩
theorem kb_La_92 : ab_kb g_G "TurnRingLaw" 92 mt_Tu_errand 4 := ⟨g_good, cd_Tu_errand, g_memT (g_t1 1 rfl) rfl, Or.inl (g_memT (g_t4 133 rfl) rfl), ⟨by decide, by decide, pd_32⟩, by decide⟩
theorem kb_Tu_253 : ab_kb g_G "TurnRing" 253 mt_Tu_wayBetween 2 := ⟨g_good, cd_Tu_wayBetween, g_memT (g_t1 1 rfl) rfl, Or.inl (g_memT (g_t4 137 rfl) rfl), ⟨by decide, by decide, pd_19⟩, by decide⟩
theorem kb_Tu_259 : ab_kb g_G "TurnRing" 259 mt_Mh_abs 1 := ⟨g_good, cd_Mh_abs, g_memT (g_t1 18 rfl) rfl, Or.inl (g_memT (g_t4 140 rfl) rfl), ⟨by decide, by decide, pd_3⟩, by decide⟩
theorem kb_Tu_264 : ab_kb g_G "TurnRing" 264 mt_Mh_min_III 2 := ⟨g_good, cd_Mh_min_III, g_memT (g_t1 18 rfl) rfl, Or.inl (g_memT (g_t4 141 rfl) rfl), ⟨by decide, by decide, pd_19⟩, by decide⟩
theorem kb_Tu_256 : ab_kb g_G "TurnRing" 256 mt_Ri_angleBehind 2 := ⟨g_good, cd_Ri_angleBehind, g_memT (g_t1 3 rfl) rfl, Or.inl (g_memT (g_t4 142 rfl) rfl), ⟨by decide, by decide, pd_19⟩, by decide⟩
theorem kb_La_97 : ab_kb g_G "TurnRingLaw" 97 mt_Tu_stay 1 := ⟨g_good, cd_Tu_stay, g_memT (g_t1 1 rfl) rfl, Or.inl (g_memT (g_t4 143 rfl) rfl), ⟨by decide, by decide, pd_3⟩, by decide⟩
theorem kb_Tu_267 : ab_kb g_G "TurnRing" 267 mt_Ri_stayVotes 0 := ⟨g_good, cd_Ri_stayVotes, g_memT (g_t1 3 rfl) rfl, Or.inl (g_memT (g_t4 147 rfl) rfl), ⟨by decide, by decide, pd_4⟩, by decide⟩
theorem kb_La_101 : ab_kb g_G "TurnRingLaw" 101 mt_Tu_swings 1 := ⟨g_good, cd_Tu_swings, g_memT (g_t1 1 rfl) rfl, Or.inl (g_memT (g_t4 148 rfl) rfl), ⟨by decide, by decide, pd_3⟩, by decide⟩
theorem kb_Tu_270 : ab_kb g_G "TurnRing" 270 mt_Ri_votesOf 1 := ⟨g_good, cd_Ri_votesOf, g_memT (g_t1 3 rfl) rfl, Or.inl (g_memT (g_t4 152 rfl) rfl), ⟨by decide, by decide, pd_3⟩, by decide⟩
theorem kb_La_87 : ab_kb g_G "TurnRingLaw" 87 mt_Tu_plan 3 := ⟨g_good, cd_Tu_plan, g_memT (g_t1 1 rfl) rfl, Or.inl (g_memT (g_t4 153 rfl) rfl), ⟨by decide, by decide, pd_46⟩, by decide⟩
theorem kb_Tu_273 : ab_kb g_G "TurnRing" 273 mt_Pl_findBest 3 := ⟨g_good, cd_Pl_findBest, g_memT (g_t1 8 rfl) rfl, Or.inl (g_memT (g_t4 157 rfl) rfl), ⟨by decide, by decide, pd_47⟩, by decide⟩
theorem kb_Pl_24 : ab_kb g_G "TurnRing$Planner" 24 mt_Ar_fill_AIIV 2 := ⟨g_good, cd_Ar_fill_AIIV, g_memT (g_t1 17 rfl) rfl, Or.inl (g_memT (g_t4 161 rfl) rfl), ⟨by decide, by decide, pd_15⟩, by decide⟩
theorem kb_Pl_36 : ab_kb g_G "TurnRing$Planner" 36 mt_Pl_weighFrom 3 := ⟨g_good, cd_Pl_weighFrom, g_memT (g_t1 8 rfl) rfl, Or.inl (g_memT (g_t4 162 rfl) rfl), ⟨by decide, by decide, pd_48⟩, by decide⟩
theorem kb_Pl_60 : ab_kb g_G "TurnRing$Planner" 60 mt_Tu_wrapped 1 := ⟨g_good, cd_Tu_wrapped, g_memT (g_t1 1 rfl) rfl, Or.inr ⟨_, g_memM (g_t4 166 rfl) rfl⟩, ⟨by decide, by decide, pd_3⟩, by decide⟩
theorem kb_Pl_69 : ab_kb g_G "TurnRing$Planner" 69 mt_Ri_hourOn 1 := ⟨g_good, cd_Ri_hourOn, g_memT (g_t1 3 rfl) rfl, Or.inl (g_memT (g_t4 167 rfl) rfl), ⟨by decide, by decide, pd_3⟩, by decide⟩
theorem kb_Pl_72 : ab_kb g_G "TurnRing$Planner" 72 mt_Ri_likesIn 4 := ⟨g_good, cd_Ri_likesIn, g_memT (g_t1 3 rfl) rfl, Or.inl (g_memT (g_t4 168 rfl) rfl), ⟨by decide, by decide, pd_32⟩, by decide⟩
theorem kb_Pl_40 : ab_kb g_G "TurnRing$Planner" 40 mt_Pl_leastHad 2 := ⟨g_good, cd_Pl_leastHad, g_memT (g_t1 8 rfl) rfl, Or.inl (g_memT (g_t4 169 rfl) rfl), ⟨by decide, by decide, pd_49⟩, by decide⟩
theorem kb_Pl_76 : ab_kb g_G "TurnRing$Planner" 76 mt_Mh_min_III 2 := ⟨g_good, cd_Mh_min_III, g_memT (g_t1 18 rfl) rfl, Or.inl (g_memT (g_t4 173 rfl) rfl), ⟨by decide, by decide, pd_19⟩, by decide⟩
theorem kb_Pl_44 : ab_kb g_G "TurnRing$Planner" 44 mt_Pl_allHad 2 := ⟨g_good, cd_Pl_allHad, g_memT (g_t1 8 rfl) rfl, Or.inl (g_memT (g_t4 174 rfl) rfl), ⟨by decide, by decide, pd_49⟩, by decide⟩
theorem kb_Pl_56 : ab_kb g_G "TurnRing$Planner" 56 mt_Pl_nextRow 1 := ⟨g_good, cd_Pl_nextRow, g_memT (g_t1 8 rfl) rfl, Or.inl (g_memT (g_t4 179 rfl) rfl), ⟨by decide, by decide, pd_3⟩, by decide⟩
theorem kb_La_105 : ab_kb g_G "TurnRingLaw" 105 mt_Tu_trade 1 := ⟨g_good, cd_Tu_trade, g_memT (g_t1 1 rfl) rfl, Or.inl (g_memT (g_t4 183 rfl) rfl), ⟨by decide, by decide, pd_3⟩, by decide⟩
theorem kb_Tu_283 : ab_kb g_G "TurnRing" 283 mt_Tr_findRows 1 := ⟨g_good, cd_Tr_findRows, g_memT (g_t1 9 rfl) rfl, Or.inl (g_memT (g_t4 187 rfl) rfl), ⟨by decide, by decide, pd_44⟩, by decide⟩
theorem kb_Tr_27 : ab_kb g_G "TurnRing$Trader" 27 mt_Tr_sortSlots 1 := ⟨g_good, cd_Tr_sortSlots, g_memT (g_t1 9 rfl) rfl, Or.inl (g_memT (g_t4 191 rfl) rfl), ⟨by decide, by decide, pd_44⟩, by decide⟩
theorem kb_Tr_46 : ab_kb g_G "TurnRing$Trader" 46 mt_Ri_slotTaken 1 := ⟨g_good, cd_Ri_slotTaken, g_memT (g_t1 3 rfl) rfl, Or.inl (g_memT (g_t4 195 rfl) rfl), ⟨by decide, by decide, pd_21⟩, by decide⟩
theorem kb_Tr_37 : ab_kb g_G "TurnRing$Trader" 37 mt_Ri_dayIn 2 := ⟨g_good, cd_Ri_dayIn, g_memT (g_t1 3 rfl) rfl, Or.inl (g_memT (g_t4 196 rfl) rfl), ⟨by decide, by decide, pd_19⟩, by decide⟩
theorem kb_Tr_42 : ab_kb g_G "TurnRing$Trader" 42 mt_Tr_weighSet 2 := ⟨g_good, cd_Tr_weighSet, g_memT (g_t1 9 rfl) rfl, Or.inl (g_memT (g_t4 197 rfl) rfl), ⟨by decide, by decide, pd_11⟩, by decide⟩
theorem kb_Tr_50 : ab_kb g_G "TurnRing$Trader" 50 mt_In_bitCount 1 := ⟨g_good, cd_In_bitCount, g_memT (g_t1 21 rfl) rfl, Or.inl (g_memT (g_t4 201 rfl) rfl), ⟨by decide, by decide, pd_3⟩, by decide⟩
theorem kb_Tr_56 : ab_kb g_G "TurnRing$Trader" 56 mt_Tr_mayTake 3 := ⟨g_good, cd_Tr_mayTake, g_memT (g_t1 9 rfl) rfl, Or.inl (g_memT (g_t4 207 rfl) rfl), ⟨by decide, by decide, pd_50⟩, by decide⟩
theorem kb_Tr_60 : ab_kb g_G "TurnRing$Trader" 60 mt_Tr_sumWith 3 := ⟨g_good, cd_Tr_sumWith, g_memT (g_t1 9 rfl) rfl, Or.inl (g_memT (g_t4 211 rfl) rfl), ⟨by decide, by decide, pd_51⟩, by decide⟩
theorem kb_Tr_64 : ab_kb g_G "TurnRing$Trader" 64 mt_Mh_max_III 2 := ⟨g_good, cd_Mh_max_III, g_memT (g_t1 18 rfl) rfl, Or.inl (g_memT (g_t4 215 rfl) rfl), ⟨by decide, by decide, pd_19⟩, by decide⟩
theorem kb_Tu_292 : ab_kb g_G "TurnRing" 292 mt_Tr_firstSlotOf 2 := ⟨g_good, cd_Tr_firstSlotOf, g_memT (g_t1 9 rfl) rfl, Or.inl (g_memT (g_t4 216 rfl) rfl), ⟨by decide, by decide, pd_49⟩, by decide⟩
theorem kb_Tr_69 : ab_kb g_G "TurnRing$Trader" 69 mt_Tr_firstChoice 3 := ⟨g_good, cd_Tr_firstChoice, g_memT (g_t1 9 rfl) rfl, Or.inl (g_memT (g_t4 220 rfl) rfl), ⟨by decide, by decide, pd_51⟩, by decide⟩
theorem kb_La_109 : ab_kb g_G "TurnRingLaw" 109 mt_Tu_spare 3 := ⟨g_good, cd_Tu_spare, g_memT (g_t1 1 rfl) rfl, Or.inl (g_memT (g_t4 224 rfl) rfl), ⟨by decide, by decide, pd_51⟩, by decide⟩
theorem kb_Tu_296 : ab_kb g_G "TurnRing" 296 mt_Ri_mostWornBehind 1 := ⟨g_good, cd_Ri_mostWornBehind, g_memT (g_t1 3 rfl) rfl, Or.inl (g_memT (g_t4 228 rfl) rfl), ⟨by decide, by decide, pd_3⟩, by decide⟩
theorem kb_Tu_299 : ab_kb g_G "TurnRing" 299 mt_Mh_max_III 2 := ⟨g_good, cd_Mh_max_III, g_memT (g_t1 18 rfl) rfl, Or.inl (g_memT (g_t4 232 rfl) rfl), ⟨by decide, by decide, pd_19⟩, by decide⟩
theorem kb_La_114 : ab_kb g_G "TurnRingLaw" 114 mt_Tu_apart 5 := ⟨g_good, cd_Tu_apart, g_memT (g_t1 1 rfl) rfl, Or.inl (g_memT (g_t4 233 rfl) rfl), ⟨by decide, by decide, pd_1⟩, by decide⟩
theorem kb_Tu_302 : ab_kb g_G "TurnRing" 302 mt_Tu_isSort 1 := ⟨g_good, cd_Tu_isSort, g_memT (g_t1 1 rfl) rfl, Or.inl (g_memT (g_t4 237 rfl) rfl), ⟨by decide, by decide, pd_21⟩, by decide⟩
theorem kb_Tu_305 : ab_kb g_G "TurnRing" 305 mt_Tu_hoursSeen 4 := ⟨g_good, cd_Tu_hoursSeen, g_memT (g_t1 1 rfl) rfl, Or.inl (g_memT (g_t5 0 rfl) rfl), ⟨by decide, by decide, pd_52⟩, by decide⟩
theorem kb_La_118 : ab_kb g_G "TurnRingLaw" 118 mt_Tu_diary 4 := ⟨g_good, cd_Tu_diary, g_memT (g_t1 1 rfl) rfl, Or.inl (g_memT (g_t5 4 rfl) rfl), ⟨by decide, by decide, pd_53⟩, by decide⟩
theorem kb_Tu_309 : ab_kb g_G "TurnRing" 309 mt_Di_write 4 := ⟨g_good, cd_Di_write, g_memT (g_t1 4 rfl) rfl, Or.inl (g_memT (g_t5 8 rfl) rfl), ⟨by decide, by decide, pd_54⟩, by decide⟩
theorem kb_La_123 : ab_kb g_G "TurnRingLaw" 123 mt_Tu_turned 1 := ⟨g_good, cd_Tu_turned, g_memT (g_t1 1 rfl) rfl, Or.inl (g_memT (g_t5 12 rfl) rfl), ⟨by decide, by decide, pd_3⟩, by decide⟩
theorem kb_Tu_313 : ab_kb g_G "TurnRing" 313 mt_Gu_findTurns 1 := ⟨g_good, cd_Gu_findTurns, g_memT (g_t1 10 rfl) rfl, Or.inl (g_memT (g_t5 16 rfl) rfl), ⟨by decide, by decide, pd_44⟩, by decide⟩
theorem kb_Gu_25 : ab_kb g_G "TurnRing$Guesser" 25 mt_Gu_fitsDiary 3 := ⟨g_good, cd_Gu_fitsDiary, g_memT (g_t1 10 rfl) rfl, Or.inl (g_memT (g_t5 20 rfl) rfl), ⟨by decide, by decide, pd_17⟩, by decide⟩
theorem kb_Gu_60 : ab_kb g_G "TurnRing$Guesser" 60 mt_Gu_sortsSeen 5 := ⟨g_good, cd_Gu_sortsSeen, g_memT (g_t1 10 rfl) rfl, Or.inl (g_memT (g_t5 23 rfl) rfl), ⟨by decide, by decide, pd_55⟩, by decide⟩
theorem kb_Gu_34 : ab_kb g_G "TurnRing$Guesser" 34 mt_Tu_wrapped 1 := ⟨g_good, cd_Tu_wrapped, g_memT (g_t1 1 rfl) rfl, Or.inr ⟨_, g_memM (g_t5 26 rfl) rfl⟩, ⟨by decide, by decide, pd_3⟩, by decide⟩
theorem kb_Gu_38 : ab_kb g_G "TurnRing$Guesser" 38 mt_Tu_facedBy 2 := ⟨g_good, cd_Tu_facedBy, g_memT (g_t1 1 rfl) rfl, Or.inr ⟨_, g_memM (g_t5 27 rfl) rfl⟩, ⟨by decide, by decide, pd_19⟩, by decide⟩
theorem kb_Gu_42 : ab_kb g_G "TurnRing$Guesser" 42 mt_Ri_sortsAt 2 := ⟨g_good, cd_Ri_sortsAt, g_memT (g_t1 3 rfl) rfl, Or.inl (g_memT (g_t5 28 rfl) rfl), ⟨by decide, by decide, pd_19⟩, by decide⟩
theorem kb_La_127 : ab_kb g_G "TurnRingLaw" 127 mt_Tu_look 2 := ⟨g_good, cd_Tu_look, g_memT (g_t1 1 rfl) rfl, Or.inl (g_memT (g_t5 29 rfl) rfl), ⟨by decide, by decide, pd_19⟩, by decide⟩
theorem kb_Tu_324 : ab_kb g_G "TurnRing" 324 mt_Gu_findLook 2 := ⟨g_good, cd_Gu_findLook, g_memT (g_t1 10 rfl) rfl, Or.inl (g_memT (g_t5 33 rfl) rfl), ⟨by decide, by decide, pd_56⟩, by decide⟩
theorem kb_Gu_70 : ab_kb g_G "TurnRing$Guesser" 70 mt_Ar_fill_AIIV 2 := ⟨g_good, cd_Ar_fill_AIIV, g_memT (g_t1 17 rfl) rfl, Or.inl (g_memT (g_t5 37 rfl) rfl), ⟨by decide, by decide, pd_15⟩, by decide⟩
theorem kb_Gu_79 : ab_kb g_G "TurnRing$Guesser" 79 mt_Mh_max_III 2 := ⟨g_good, cd_Mh_max_III, g_memT (g_t1 18 rfl) rfl, Or.inl (g_memT (g_t5 38 rfl) rfl), ⟨by decide, by decide, pd_19⟩, by decide⟩
theorem kb_La_135 : ab_kb g_G "TurnRingLaw" 135 mt_Tu_days 4 := ⟨g_good, cd_Tu_days, g_memT (g_t1 1 rfl) rfl, Or.inl (g_memT (g_t5 39 rfl) rfl), ⟨by decide, by decide, pd_32⟩, by decide⟩
theorem kb_Tu_335 : ab_kb g_G "TurnRing" 335 mt_Tu_nextDraw 1 := ⟨g_good, cd_Tu_nextDraw, g_memT (g_t1 1 rfl) rfl, Or.inl (g_memT (g_t5 44 rfl) rfl), ⟨by decide, by decide, pd_3⟩, by decide⟩
theorem kb_Tu_339 : ab_kb g_G "TurnRing" 339 mt_Tu_wrapped 1 := ⟨g_good, cd_Tu_wrapped, g_memT (g_t1 1 rfl) rfl, Or.inl (g_memT (g_t5 51 rfl) rfl), ⟨by decide, by decide, pd_3⟩, by decide⟩
theorem kb_La_12 : ab_kb g_G "TurnRingLaw" 12 mt_Mo_init 0 := ⟨g_good, cd_Mo_init, g_memT (g_t1 11 rfl) rfl, Or.inl (g_memT (g_t5 54 rfl) rfl), ⟨by decide, by decide, pd_0⟩, by decide⟩
theorem kb_La_17 : ab_kb g_G "TurnRingLaw" 17 mt_Mo_feed 5 := ⟨g_good, cd_Mo_feed, g_memT (g_t1 11 rfl) rfl, Or.inl (g_memT (g_t5 170 rfl) rfl), ⟨by decide, by decide, pd_1⟩, by decide⟩
theorem kb_Mo_80 : ab_kb g_G "TurnRingModel" 80 mt_Mo_four 1 := ⟨g_good, cd_Mo_four, g_memT (g_t1 11 rfl) rfl, Or.inl (g_memT (g_t5 174 rfl) rfl), ⟨by decide, by decide, pd_2⟩, by decide⟩
theorem kb_La_22 : ab_kb g_G "TurnRingLaw" 22 mt_Mo_end 1 := ⟨g_good, cd_Mo_end, g_memT (g_t1 11 rfl) rfl, Or.inl (g_memT (g_t5 178 rfl) rfl), ⟨by decide, by decide, pd_3⟩, by decide⟩
theorem kb_La_31 : ab_kb g_G "TurnRingLaw" 31 mt_Mo_rule 0 := ⟨g_good, cd_Mo_rule, g_memT (g_t1 11 rfl) rfl, Or.inl (g_memT (g_t5 182 rfl) rfl), ⟨by decide, by decide, pd_4⟩, by decide⟩
theorem kb_Mo_269 : ab_kb g_G "TurnRingModel" 269 mt_Mo_readsAll 0 := ⟨g_good, cd_Mo_readsAll, g_memT (g_t1 11 rfl) rfl, Or.inl (g_memT (g_t5 186 rfl) rfl), ⟨by decide, by decide, pd_9⟩, by decide⟩
theorem kb_Mo_263 : ab_kb g_G "TurnRingModel" 263 mt_Mo_clauseHere 0 := ⟨g_good, cd_Mo_clauseHere, g_memT (g_t1 11 rfl) rfl, Or.inl (g_memT (g_t5 190 rfl) rfl), ⟨by decide, by decide, pd_9⟩, by decide⟩
theorem kb_Mo_90 : ab_kb g_G "TurnRingModel" 90 mt_Mo_see 0 := ⟨g_good, cd_Mo_see, g_memT (g_t1 11 rfl) rfl, Or.inl (g_memT (g_t5 194 rfl) rfl), ⟨by decide, by decide, pd_4⟩, by decide⟩
theorem kb_Mo_249 : ab_kb g_G "TurnRingModel" 249 mt_Mo_isRingWord 0 := ⟨g_good, cd_Mo_isRingWord, g_memT (g_t1 11 rfl) rfl, Or.inl (g_memT (g_t5 198 rfl) rfl), ⟨by decide, by decide, pd_9⟩, by decide⟩
theorem kb_Mo_98 : ab_kb g_G "TurnRingModel" 98 mt_Mo_isWord 1 := ⟨g_good, cd_Mo_isWord, g_memT (g_t1 11 rfl) rfl, Or.inl (g_memT (g_t5 203 rfl) rfl), ⟨by decide, by decide, pd_57⟩, by decide⟩
theorem kb_Mo_94 : ab_kb g_G "TurnRingModel" 94 mt_Mo_isLetter 1 := ⟨g_good, cd_Mo_isLetter, g_memT (g_t1 11 rfl) rfl, Or.inl (g_memT (g_t5 207 rfl) rfl), ⟨by decide, by decide, pd_21⟩, by decide⟩
theorem kb_Mo_108 : ab_kb g_G "TurnRingModel" 108 mt_Mo_fails 2 := ⟨g_good, cd_Mo_fails, g_memT (g_t1 11 rfl) rfl, Or.inl (g_memT (g_t5 218 rfl) rfl), ⟨by decide, by decide, pd_33⟩, by decide⟩
theorem kb_Mo_257 : ab_kb g_G "TurnRingModel" 257 mt_Mo_ringLineHere 1 := ⟨g_good, cd_Mo_ringLineHere, g_memT (g_t1 11 rfl) rfl, Or.inl (g_memT (g_t5 222 rfl) rfl), ⟨by decide, by decide, pd_21⟩, by decide⟩
theorem kb_Mo_221 : ab_kb g_G "TurnRingModel" 221 mt_Mo_isRingHere 1 := ⟨g_good, cd_Mo_isRingHere, g_memT (g_t1 11 rfl) rfl, Or.inl (g_memT (g_t5 226 rfl) rfl), ⟨by decide, by decide, pd_21⟩, by decide⟩
theorem kb_Mo_102 : ab_kb g_G "TurnRingModel" 102 mt_Mo_passWord 0 := ⟨g_good, cd_Mo_passWord, g_memT (g_t1 11 rfl) rfl, Or.inl (g_memT (g_t5 230 rfl) rfl), ⟨by decide, by decide, pd_0⟩, by decide⟩
theorem kb_Mo_215 : ab_kb g_G "TurnRingModel" 215 mt_Mo_cellHere 3 := ⟨g_good, cd_Mo_cellHere, g_memT (g_t1 11 rfl) rfl, Or.inl (g_memT (g_t5 234 rfl) rfl), ⟨by decide, by decide, pd_50⟩, by decide⟩
theorem kb_Mo_164 : ab_kb g_G "TurnRingModel" 164 mt_Mo_numberHere 2 := ⟨g_good, cd_Mo_numberHere, g_memT (g_t1 11 rfl) rfl, Or.inl (g_memT (g_t5 238 rfl) rfl), ⟨by decide, by decide, pd_33⟩, by decide⟩
theorem kb_Mo_105 : ab_kb g_G "TurnRingModel" 105 mt_Mo_isDigit 1 := ⟨g_good, cd_Mo_isDigit, g_memT (g_t1 11 rfl) rfl, Or.inl (g_memT (g_t6 2 rfl) rfl), ⟨by decide, by decide, pd_21⟩, by decide⟩
theorem kb_Mo_115 : ab_kb g_G "TurnRingModel" 115 mt_Mo_in 3 := ⟨g_good, cd_Mo_in, g_memT (g_t1 11 rfl) rfl, Or.inl (g_memT (g_t6 6 rfl) rfl), ⟨by decide, by decide, pd_58⟩, by decide⟩
theorem kb_Mo_226 : ab_kb g_G "TurnRingModel" 226 mt_Mo_isHouseHere 1 := ⟨g_good, cd_Mo_isHouseHere, g_memT (g_t1 11 rfl) rfl, Or.inl (g_memT (g_t6 9 rfl) rfl), ⟨by decide, by decide, pd_21⟩, by decide⟩
theorem kb_Mo_231 : ab_kb g_G "TurnRingModel" 231 mt_Mo_isSightHere 1 := ⟨g_good, cd_Mo_isSightHere, g_memT (g_t1 11 rfl) rfl, Or.inl (g_memT (g_t6 13 rfl) rfl), ⟨by decide, by decide, pd_21⟩, by decide⟩
theorem kb_Mo_236 : ab_kb g_G "TurnRingModel" 236 mt_Mo_isLikeHere 1 := ⟨g_good, cd_Mo_isLikeHere, g_memT (g_t1 11 rfl) rfl, Or.inl (g_memT (g_t6 17 rfl) rfl), ⟨by decide, by decide, pd_21⟩, by decide⟩
theorem kb_Mo_243 : ab_kb g_G "TurnRingModel" 243 mt_Mo_isGateHere 0 := ⟨g_good, cd_Mo_isGateHere, g_memT (g_t1 11 rfl) rfl, Or.inl (g_memT (g_t6 21 rfl) rfl), ⟨by decide, by decide, pd_9⟩, by decide⟩
theorem kb_Mo_246 : ab_kb g_G "TurnRingModel" 246 mt_Mo_isRateHere 0 := ⟨g_good, cd_Mo_isRateHere, g_memT (g_t1 11 rfl) rfl, Or.inl (g_memT (g_t6 25 rfl) rfl), ⟨by decide, by decide, pd_9⟩, by decide⟩
theorem kb_Mo_260 : ab_kb g_G "TurnRingModel" 260 mt_Mo_isTurnHere 0 := ⟨g_good, cd_Mo_isTurnHere, g_memT (g_t1 11 rfl) rfl, Or.inl (g_memT (g_t6 29 rfl) rfl), ⟨by decide, by decide, pd_9⟩, by decide⟩
theorem kb_Mo_180 : ab_kb g_G "TurnRingModel" 180 mt_Mo_sum 0 := ⟨g_good, cd_Mo_sum, g_memT (g_t1 11 rfl) rfl, Or.inl (g_memT (g_t6 33 rfl) rfl), ⟨by decide, by decide, pd_9⟩, by decide⟩
theorem kb_Mo_177 : ab_kb g_G "TurnRingModel" 177 mt_Mo_term 0 := ⟨g_good, cd_Mo_term, g_memT (g_t1 11 rfl) rfl, Or.inl (g_memT (g_t6 37 rfl) rfl), ⟨by decide, by decide, pd_9⟩, by decide⟩
theorem kb_Mo_173 : ab_kb g_G "TurnRingModel" 173 mt_Mo_value 0 := ⟨g_good, cd_Mo_value, g_memT (g_t1 11 rfl) rfl, Or.inl (g_memT (g_t6 41 rfl) rfl), ⟨by decide, by decide, pd_9⟩, by decide⟩
theorem kb_Mo_167 : ab_kb g_G "TurnRingModel" 167 mt_Mo_makes 1 := ⟨g_good, cd_Mo_makes, g_memT (g_t1 11 rfl) rfl, Or.inl (g_memT (g_t6 46 rfl) rfl), ⟨by decide, by decide, pd_21⟩, by decide⟩
theorem kb_Mo_159 : ab_kb g_G "TurnRingModel" 159 mt_Mo_puts 2 := ⟨g_good, cd_Mo_puts, g_memT (g_t1 11 rfl) rfl, Or.inl (g_memT (g_t6 50 rfl) rfl), ⟨by decide, by decide, pd_11⟩, by decide⟩
theorem kb_Mo_170 : ab_kb g_G "TurnRingModel" 170 mt_Mo_wordHere 0 := ⟨g_good, cd_Mo_wordHere, g_memT (g_t1 11 rfl) rfl, Or.inl (g_memT (g_t6 54 rfl) rfl), ⟨by decide, by decide, pd_4⟩, by decide⟩
theorem kb_Mo_209 : ab_kb g_G "TurnRingModel" 209 mt_Mo_takesWord 1 := ⟨g_good, cd_Mo_takesWord, g_memT (g_t1 11 rfl) rfl, Or.inl (g_memT (g_t6 70 rfl) rfl), ⟨by decide, by decide, pd_57⟩, by decide⟩
theorem kb_Mo_212 : ab_kb g_G "TurnRingModel" 212 mt_Mo_tested 0 := ⟨g_good, cd_Mo_tested, g_memT (g_t1 11 rfl) rfl, Or.inl (g_memT (g_t6 74 rfl) rfl), ⟨by decide, by decide, pd_9⟩, by decide⟩
theorem kb_Mo_197 : ab_kb g_G "TurnRingModel" 197 mt_Mo_fact 0 := ⟨g_good, cd_Mo_fact, g_memT (g_t1 11 rfl) rfl, Or.inl (g_memT (g_t6 78 rfl) rfl), ⟨by decide, by decide, pd_9⟩, by decide⟩
theorem kb_Mo_185 : ab_kb g_G "TurnRingModel" 185 mt_Mo_opens 1 := ⟨g_good, cd_Mo_opens, g_memT (g_t1 11 rfl) rfl, Or.inl (g_memT (g_t6 83 rfl) rfl), ⟨by decide, by decide, pd_21⟩, by decide⟩
theorem kb_Mo_188 : ab_kb g_G "TurnRingModel" 188 mt_Mo_compare 0 := ⟨g_good, cd_Mo_compare, g_memT (g_t1 11 rfl) rfl, Or.inl (g_memT (g_t6 87 rfl) rfl), ⟨by decide, by decide, pd_9⟩, by decide⟩
theorem kb_Mo_200 : ab_kb g_G "TurnRingModel" 200 mt_Mo_closes 0 := ⟨g_good, cd_Mo_closes, g_memT (g_t1 11 rfl) rfl, Or.inl (g_memT (g_t6 91 rfl) rfl), ⟨by decide, by decide, pd_0⟩, by decide⟩
theorem kb_Mo_191 : ab_kb g_G "TurnRingModel" 191 mt_Mo_settles 1 := ⟨g_good, cd_Mo_settles, g_memT (g_t1 11 rfl) rfl, Or.inl (g_memT (g_t6 95 rfl) rfl), ⟨by decide, by decide, pd_2⟩, by decide⟩
theorem kb_Mo_155 : ab_kb g_G "TurnRingModel" 155 mt_Mo_strength 1 := ⟨g_good, cd_Mo_strength, g_memT (g_t1 11 rfl) rfl, Or.inl (g_memT (g_t6 99 rfl) rfl), ⟨by decide, by decide, pd_3⟩, by decide⟩
theorem kb_Mo_194 : ab_kb g_G "TurnRingModel" 194 mt_Mo_isInside 0 := ⟨g_good, cd_Mo_isInside, g_memT (g_t1 11 rfl) rfl, Or.inl (g_memT (g_t6 102 rfl) rfl), ⟨by decide, by decide, pd_9⟩, by decide⟩
theorem kb_La_27 : ab_kb g_G "TurnRingLaw" 27 mt_Mo_ring 0 := ⟨g_good, cd_Mo_ring, g_memT (g_t1 11 rfl) rfl, Or.inl (g_memT (g_t6 108 rfl) rfl), ⟨by decide, by decide, pd_4⟩, by decide⟩
theorem kb_La_36 : ab_kb g_G "TurnRingLaw" 36 mt_Mo_house 2 := ⟨g_good, cd_Mo_house, g_memT (g_t1 11 rfl) rfl, Or.inl (g_memT (g_t6 112 rfl) rfl), ⟨by decide, by decide, pd_19⟩, by decide⟩
theorem kb_Mo_316 : ab_kb g_G "TurnRingModel" 316 mt_Mo_isHouse 1 := ⟨g_good, cd_Mo_isHouse, g_memT (g_t1 11 rfl) rfl, Or.inl (g_memT (g_t6 116 rfl) rfl), ⟨by decide, by decide, pd_21⟩, by decide⟩
theorem kb_Mo_300 : ab_kb g_G "TurnRingModel" 300 mt_Mo_facesOf 1 := ⟨g_good, cd_Mo_facesOf, g_memT (g_t1 11 rfl) rfl, Or.inl (g_memT (g_t6 120 rfl) rfl), ⟨by decide, by decide, pd_3⟩, by decide⟩
theorem kb_Mo_297 : ab_kb g_G "TurnRingModel" 297 mt_Mo_round 1 := ⟨g_good, cd_Mo_round, g_memT (g_t1 11 rfl) rfl, Or.inl (g_memT (g_t6 124 rfl) rfl), ⟨by decide, by decide, pd_3⟩, by decide⟩
theorem kb_Mo_290 : ab_kb g_G "TurnRingModel" 290 mt_Mo_sortsAt 2 := ⟨g_good, cd_Mo_sortsAt, g_memT (g_t1 11 rfl) rfl, Or.inl (g_memT (g_t6 127 rfl) rfl), ⟨by decide, by decide, pd_19⟩, by decide⟩
theorem kb_Mo_307 : ab_kb g_G "TurnRingModel" 307 mt_Mo_likesOf 1 := ⟨g_good, cd_Mo_likesOf, g_memT (g_t1 11 rfl) rfl, Or.inl (g_memT (g_t6 131 rfl) rfl), ⟨by decide, by decide, pd_3⟩, by decide⟩
theorem kb_Mo_303 : ab_kb g_G "TurnRingModel" 303 mt_Mo_likesAt 3 := ⟨g_good, cd_Mo_likesAt, g_memT (g_t1 11 rfl) rfl, Or.inl (g_memT (g_t6 135 rfl) rfl), ⟨by decide, by decide, pd_51⟩, by decide⟩
theorem kb_Mo_294 : ab_kb g_G "TurnRingModel" 294 mt_Mo_isOf 2 := ⟨g_good, cd_Mo_isOf, g_memT (g_t1 11 rfl) rfl, Or.inl (g_memT (g_t6 139 rfl) rfl), ⟨by decide, by decide, pd_33⟩, by decide⟩
theorem kb_Mo_313 : ab_kb g_G "TurnRingModel" 313 mt_Mo_wantsStay 1 := ⟨g_good, cd_Mo_wantsStay, g_memT (g_t1 11 rfl) rfl, Or.inl (g_memT (g_t6 142 rfl) rfl), ⟨by decide, by decide, pd_21⟩, by decide⟩
theorem kb_Mo_310 : ab_kb g_G "TurnRingModel" 310 mt_Mo_rateNow 0 := ⟨g_good, cd_Mo_rateNow, g_memT (g_t1 11 rfl) rfl, Or.inl (g_memT (g_t6 146 rfl) rfl), ⟨by decide, by decide, pd_4⟩, by decide⟩
theorem kb_La_40 : ab_kb g_G "TurnRingLaw" 40 mt_Mo_direction 2 := ⟨g_good, cd_Mo_direction, g_memT (g_t1 11 rfl) rfl, Or.inl (g_memT (g_t6 152 rfl) rfl), ⟨by decide, by decide, pd_19⟩, by decide⟩
theorem kb_Mo_323 : ab_kb g_G "TurnRingModel" 323 mt_Mo_isRing 0 := ⟨g_good, cd_Mo_isRing, g_memT (g_t1 11 rfl) rfl, Or.inl (g_memT (g_t6 156 rfl) rfl), ⟨by decide, by decide, pd_9⟩, by decide⟩
theorem kb_La_44 : ab_kb g_G "TurnRingLaw" 44 mt_Mo_rateOf 1 := ⟨g_good, cd_Mo_rateOf, g_memT (g_t1 11 rfl) rfl, Or.inl (g_memT (g_t6 162 rfl) rfl), ⟨by decide, by decide, pd_3⟩, by decide⟩
theorem kb_La_48 : ab_kb g_G "TurnRingLaw" 48 mt_Mo_worn 1 := ⟨g_good, cd_Mo_worn, g_memT (g_t1 11 rfl) rfl, Or.inl (g_memT (g_t6 167 rfl) rfl), ⟨by decide, by decide, pd_3⟩, by decide⟩
theorem kb_La_70 : ab_kb g_G "TurnRingLaw" 70 mt_Mo_undo 0 := ⟨g_good, cd_Mo_undo, g_memT (g_t1 11 rfl) rfl, Or.inl (g_memT (g_t6 171 rfl) rfl), ⟨by decide, by decide, pd_4⟩, by decide⟩
theorem kb_La_52 : ab_kb g_G "TurnRingLaw" 52 mt_Mo_hour 0 := ⟨g_good, cd_Mo_hour, g_memT (g_t1 11 rfl) rfl, Or.inl (g_memT (g_t6 175 rfl) rfl), ⟨by decide, by decide, pd_4⟩, by decide⟩
theorem kb_Mo_341 : ab_kb g_G "TurnRingModel" 341 mt_Mo_canGo 1 := ⟨g_good, cd_Mo_canGo, g_memT (g_t1 11 rfl) rfl, Or.inl (g_memT (g_t6 179 rfl) rfl), ⟨by decide, by decide, pd_21⟩, by decide⟩
theorem kb_Mo_344 : ab_kb g_G "TurnRingModel" 344 mt_Mo_keepsAct 0 := ⟨g_good, cd_Mo_keepsAct, g_memT (g_t1 11 rfl) rfl, Or.inl (g_memT (g_t6 183 rfl) rfl), ⟨by decide, by decide, pd_0⟩, by decide⟩
theorem kb_Mo_347 : ab_kb g_G "TurnRingModel" 347 mt_Mo_passes 0 := ⟨g_good, cd_Mo_passes, g_memT (g_t1 11 rfl) rfl, Or.inl (g_memT (g_t6 187 rfl) rfl), ⟨by decide, by decide, pd_4⟩, by decide⟩
theorem kb_Mo_338 : ab_kb g_G "TurnRingModel" 338 mt_Mo_passesAt 1 := ⟨g_good, cd_Mo_passesAt, g_memT (g_t1 11 rfl) rfl, Or.inl (g_memT (g_t6 191 rfl) rfl), ⟨by decide, by decide, pd_3⟩, by decide⟩
theorem kb_Mo_332 : ab_kb g_G "TurnRingModel" 332 mt_Mo_turns 1 := ⟨g_good, cd_Mo_turns, g_memT (g_t1 11 rfl) rfl, Or.inl (g_memT (g_t6 195 rfl) rfl), ⟨by decide, by decide, pd_2⟩, by decide⟩
theorem kb_Mo_335 : ab_kb g_G "TurnRingModel" 335 mt_Mo_goesOn 0 := ⟨g_good, cd_Mo_goesOn, g_memT (g_t1 11 rfl) rfl, Or.inl (g_memT (g_t6 199 rfl) rfl), ⟨by decide, by decide, pd_0⟩, by decide⟩
theorem kb_La_56 : ab_kb g_G "TurnRingLaw" 56 mt_Mo_rate 2 := ⟨g_good, cd_Mo_rate, g_memT (g_t1 11 rfl) rfl, Or.inl (g_memT (g_t6 203 rfl) rfl), ⟨by decide, by decide, pd_19⟩, by decide⟩
theorem kb_La_61 : ab_kb g_G "TurnRingLaw" 61 mt_Mo_swap 2 := ⟨g_good, cd_Mo_swap, g_memT (g_t1 11 rfl) rfl, Or.inl (g_memT (g_t6 209 rfl) rfl), ⟨by decide, by decide, pd_33⟩, by decide⟩
theorem kb_La_66 : ab_kb g_G "TurnRingLaw" 66 mt_Mo_stop 0 := ⟨g_good, cd_Mo_stop, g_memT (g_t1 11 rfl) rfl, Or.inl (g_memT (g_t6 213 rfl) rfl), ⟨by decide, by decide, pd_9⟩, by decide⟩
theorem kb_La_74 : ab_kb g_G "TurnRingLaw" 74 mt_Mo_run 2 := ⟨g_good, cd_Mo_run, g_memT (g_t1 11 rfl) rfl, Or.inl (g_memT (g_t6 217 rfl) rfl), ⟨by decide, by decide, pd_19⟩, by decide⟩
theorem kb_Mo_380 : ab_kb g_G "TurnRingModel" 380 mt_Mo_isRule 1 := ⟨g_good, cd_Mo_isRule, g_memT (g_t1 11 rfl) rfl, Or.inl (g_memT (g_t6 221 rfl) rfl), ⟨by decide, by decide, pd_21⟩, by decide⟩
theorem kb_Mo_385 : ab_kb g_G "TurnRingModel" 385 mt_Mo_passesBy 1 := ⟨g_good, cd_Mo_passesBy, g_memT (g_t1 11 rfl) rfl, Or.inl (g_memT (g_t6 226 rfl) rfl), ⟨by decide, by decide, pd_2⟩, by decide⟩
theorem kb_Mo_373 : ab_kb g_G "TurnRingModel" 373 mt_Mo_words 0 := ⟨g_good, cd_Mo_words, g_memT (g_t1 11 rfl) rfl, Or.inl (g_memT (g_t6 230 rfl) rfl), ⟨by decide, by decide, pd_0⟩, by decide⟩
theorem kb_Mo_354 : ab_kb g_G "TurnRingModel" 354 mt_Mo_allLike 0 := ⟨g_good, cd_Mo_allLike, g_memT (g_t1 11 rfl) rfl, Or.inl (g_memT (g_t6 234 rfl) rfl), ⟨by decide, by decide, pd_4⟩, by decide⟩
theorem kb_Mo_357 : ab_kb g_G "TurnRingModel" 357 mt_Mo_whoStay 0 := ⟨g_good, cd_Mo_whoStay, g_memT (g_t1 11 rfl) rfl, Or.inl (g_memT (g_t6 238 rfl) rfl), ⟨by decide, by decide, pd_4⟩, by decide⟩
theorem kb_Mo_360 : ab_kb g_G "TurnRingModel" 360 mt_Mo_votesOf 1 := ⟨g_good, cd_Mo_votesOf, g_memT (g_t1 11 rfl) rfl, Or.inl (g_memT (g_t7 2 rfl) rfl), ⟨by decide, by decide, pd_3⟩, by decide⟩
theorem kb_Mo_363 : ab_kb g_G "TurnRingModel" 363 mt_Mo_everyHouse 0 := ⟨g_good, cd_Mo_everyHouse, g_memT (g_t1 11 rfl) rfl, Or.inl (g_memT (g_t7 6 rfl) rfl), ⟨by decide, by decide, pd_4⟩, by decide⟩
theorem kb_Mo_366 : ab_kb g_G "TurnRingModel" 366 mt_Mo_atGates 0 := ⟨g_good, cd_Mo_atGates, g_memT (g_t1 11 rfl) rfl, Or.inl (g_memT (g_t7 10 rfl) rfl), ⟨by decide, by decide, pd_4⟩, by decide⟩
theorem kb_Mo_376 : ab_kb g_G "TurnRingModel" 376 mt_Mo_summedBy 1 := ⟨g_good, cd_Mo_summedBy, g_memT (g_t1 11 rfl) rfl, Or.inl (g_memT (g_t7 14 rfl) rfl), ⟨by decide, by decide, pd_59⟩, by decide⟩
theorem kb_Mo_369 : ab_kb g_G "TurnRingModel" 369 mt_Mo_reckons 3 := ⟨g_good, cd_Mo_reckons, g_memT (g_t1 11 rfl) rfl, Or.inl (g_memT (g_t7 18 rfl) rfl), ⟨by decide, by decide, pd_60⟩, by decide⟩
theorem kb_Mo_278 : ab_kb g_G "TurnRingModel" 278 mt_Mo_push 1 := ⟨g_good, cd_Mo_push, g_memT (g_t1 11 rfl) rfl, Or.inl (g_memT (g_t7 22 rfl) rfl), ⟨by decide, by decide, pd_37⟩, by decide⟩
theorem kb_Mo_282 : ab_kb g_G "TurnRingModel" 282 mt_Mo_pop 0 := ⟨g_good, cd_Mo_pop, g_memT (g_t1 11 rfl) rfl, Or.inl (g_memT (g_t7 26 rfl) rfl), ⟨by decide, by decide, pd_39⟩, by decide⟩
theorem kb_Mo_286 : ab_kb g_G "TurnRingModel" 286 mt_Mo_one 3 := ⟨g_good, cd_Mo_one, g_memT (g_t1 11 rfl) rfl, Or.inl (g_memT (g_t7 30 rfl) rfl), ⟨by decide, by decide, pd_43⟩, by decide⟩
theorem kb_La_78 : ab_kb g_G "TurnRingLaw" 78 mt_Mo_faces 2 := ⟨g_good, cd_Mo_faces, g_memT (g_t1 11 rfl) rfl, Or.inl (g_memT (g_t7 33 rfl) rfl), ⟨by decide, by decide, pd_19⟩, by decide⟩
theorem kb_Mo_390 : ab_kb g_G "TurnRingModel" 390 mt_Mo_keeps 0 := ⟨g_good, cd_Mo_keeps, g_memT (g_t1 11 rfl) rfl, Or.inl (g_memT (g_t7 38 rfl) rfl), ⟨by decide, by decide, pd_0⟩, by decide⟩
theorem kb_Mo_393 : ab_kb g_G "TurnRingModel" 393 mt_Mo_laysBack 0 := ⟨g_good, cd_Mo_laysBack, g_memT (g_t1 11 rfl) rfl, Or.inl (g_memT (g_t7 42 rfl) rfl), ⟨by decide, by decide, pd_0⟩, by decide⟩
theorem kb_La_82 : ab_kb g_G "TurnRingLaw" 82 mt_Mo_sees 2 := ⟨g_good, cd_Mo_sees, g_memT (g_t1 11 rfl) rfl, Or.inl (g_memT (g_t7 46 rfl) rfl), ⟨by decide, by decide, pd_19⟩, by decide⟩
theorem kb_La_86 : ab_kb g_G "TurnRingLaw" 86 mt_Mo_day 1 := ⟨g_good, cd_Mo_day, g_memT (g_t1 11 rfl) rfl, Or.inl (g_memT (g_t7 50 rfl) rfl), ⟨by decide, by decide, pd_3⟩, by decide⟩
theorem kb_Mo_396 : ab_kb g_G "TurnRingModel" 396 mt_Mo_dayIn 2 := ⟨g_good, cd_Mo_dayIn, g_memT (g_t1 11 rfl) rfl, Or.inl (g_memT (g_t7 54 rfl) rfl), ⟨by decide, by decide, pd_19⟩, by decide⟩
theorem kb_La_91 : ab_kb g_G "TurnRingLaw" 91 mt_Mo_plan 3 := ⟨g_good, cd_Mo_plan, g_memT (g_t1 11 rfl) rfl, Or.inl (g_memT (g_t7 59 rfl) rfl), ⟨by decide, by decide, pd_46⟩, by decide⟩
theorem kb_Mo_400 : ab_kb g_G "TurnRingModel" 400 mt_Mo_third 1 := ⟨g_good, cd_Mo_third, g_memT (g_t1 11 rfl) rfl, Or.inl (g_memT (g_t7 64 rfl) rfl), ⟨by decide, by decide, pd_3⟩, by decide⟩
theorem kb_Mo_408 : ab_kb g_G "TurnRingModel" 408 mt_Mo_worthOf 3 := ⟨g_good, cd_Mo_worthOf, g_memT (g_t1 11 rfl) rfl, Or.inl (g_memT (g_t7 67 rfl) rfl), ⟨by decide, by decide, pd_61⟩, by decide⟩
theorem kb_Mo_403 : ab_kb g_G "TurnRingModel" 403 mt_Mo_digitOf 3 := ⟨g_good, cd_Mo_digitOf, g_memT (g_t1 11 rfl) rfl, Or.inl (g_memT (g_t7 71 rfl) rfl), ⟨by decide, by decide, pd_51⟩, by decide⟩
theorem kb_La_96 : ab_kb g_G "TurnRingLaw" 96 mt_Mo_errand 4 := ⟨g_good, cd_Mo_errand, g_memT (g_t1 11 rfl) rfl, Or.inl (g_memT (g_t7 74 rfl) rfl), ⟨by decide, by decide, pd_32⟩, by decide⟩
theorem kb_Mo_417 : ab_kb g_G "TurnRingModel" 417 mt_Mo_backFrom 3 := ⟨g_good, cd_Mo_backFrom, g_memT (g_t1 11 rfl) rfl, Or.inl (g_memT (g_t7 79 rfl) rfl), ⟨by decide, by decide, pd_51⟩, by decide⟩
theorem kb_Mo_412 : ab_kb g_G "TurnRingModel" 412 mt_Mo_way 2 := ⟨g_good, cd_Mo_way, g_memT (g_t1 11 rfl) rfl, Or.inl (g_memT (g_t7 83 rfl) rfl), ⟨by decide, by decide, pd_19⟩, by decide⟩
theorem kb_La_100 : ab_kb g_G "TurnRingLaw" 100 mt_Mo_stay 1 := ⟨g_good, cd_Mo_stay, g_memT (g_t1 11 rfl) rfl, Or.inl (g_memT (g_t7 86 rfl) rfl), ⟨by decide, by decide, pd_3⟩, by decide⟩
theorem kb_La_104 : ab_kb g_G "TurnRingLaw" 104 mt_Mo_swings 1 := ⟨g_good, cd_Mo_swings, g_memT (g_t1 11 rfl) rfl, Or.inl (g_memT (g_t7 90 rfl) rfl), ⟨by decide, by decide, pd_3⟩, by decide⟩
theorem kb_La_108 : ab_kb g_G "TurnRingLaw" 108 mt_Mo_trade 1 := ⟨g_good, cd_Mo_trade, g_memT (g_t1 11 rfl) rfl, Or.inl (g_memT (g_t7 94 rfl) rfl), ⟨by decide, by decide, pd_3⟩, by decide⟩
theorem kb_Mo_434 : ab_kb g_G "TurnRingModel" 434 mt_Mo_fillsDays 0 := ⟨g_good, cd_Mo_fillsDays, g_memT (g_t1 11 rfl) rfl, Or.inl (g_memT (g_t7 99 rfl) rfl), ⟨by decide, by decide, pd_0⟩, by decide⟩
theorem kb_Mo_437 : ab_kb g_G "TurnRingModel" 437 mt_Mo_gathersTrades 0 := ⟨g_good, cd_Mo_gathersTrades, g_memT (g_t1 11 rfl) rfl, Or.inl (g_memT (g_t7 103 rfl) rfl), ⟨by decide, by decide, pd_0⟩, by decide⟩
theorem kb_Mo_426 : ab_kb g_G "TurnRingModel" 426 mt_Mo_countsRow 0 := ⟨g_good, cd_Mo_countsRow, g_memT (g_t1 11 rfl) rfl, Or.inl (g_memT (g_t7 107 rfl) rfl), ⟨by decide, by decide, pd_0⟩, by decide⟩
theorem kb_Mo_429 : ab_kb g_G "TurnRingModel" 429 mt_Mo_dayNow 1 := ⟨g_good, cd_Mo_dayNow, g_memT (g_t1 11 rfl) rfl, Or.inl (g_memT (g_t7 111 rfl) rfl), ⟨by decide, by decide, pd_3⟩, by decide⟩
theorem kb_La_113 : ab_kb g_G "TurnRingLaw" 113 mt_Mo_spare 3 := ⟨g_good, cd_Mo_spare, g_memT (g_t1 11 rfl) rfl, Or.inl (g_memT (g_t7 115 rfl) rfl), ⟨by decide, by decide, pd_51⟩, by decide⟩
theorem kb_Mo_442 : ab_kb g_G "TurnRingModel" 442 mt_Mo_stepsOf 2 := ⟨g_good, cd_Mo_stepsOf, g_memT (g_t1 11 rfl) rfl, Or.inl (g_memT (g_t7 120 rfl) rfl), ⟨by decide, by decide, pd_19⟩, by decide⟩
theorem kb_Mo_445 : ab_kb g_G "TurnRingModel" 445 mt_Mo_mostWorn 2 := ⟨g_good, cd_Mo_mostWorn, g_memT (g_t1 11 rfl) rfl, Or.inl (g_memT (g_t7 123 rfl) rfl), ⟨by decide, by decide, pd_19⟩, by decide⟩
theorem kb_La_117 : ab_kb g_G "TurnRingLaw" 117 mt_Mo_apart 5 := ⟨g_good, cd_Mo_apart, g_memT (g_t1 11 rfl) rfl, Or.inl (g_memT (g_t7 127 rfl) rfl), ⟨by decide, by decide, pd_1⟩, by decide⟩
theorem kb_Mo_452 : ab_kb g_G "TurnRingModel" 452 mt_Mo_seenBy 4 := ⟨g_good, cd_Mo_seenBy, g_memT (g_t1 11 rfl) rfl, Or.inl (g_memT (g_t7 133 rfl) rfl), ⟨by decide, by decide, pd_32⟩, by decide⟩
theorem kb_La_122 : ab_kb g_G "TurnRingLaw" 122 mt_Mo_diary 4 := ⟨g_good, cd_Mo_diary, g_memT (g_t1 11 rfl) rfl, Or.inl (g_memT (g_t7 137 rfl) rfl), ⟨by decide, by decide, pd_53⟩, by decide⟩
theorem kb_La_126 : ab_kb g_G "TurnRingLaw" 126 mt_Mo_turned 1 := ⟨g_good, cd_Mo_turned, g_memT (g_t1 11 rfl) rfl, Or.inl (g_memT (g_t7 142 rfl) rfl), ⟨by decide, by decide, pd_3⟩, by decide⟩
theorem kb_Mo_462 : ab_kb g_G "TurnRingModel" 462 mt_Mo_fitsDiary 1 := ⟨g_good, cd_Mo_fitsDiary, g_memT (g_t1 11 rfl) rfl, Or.inl (g_memT (g_t7 146 rfl) rfl), ⟨by decide, by decide, pd_21⟩, by decide⟩
theorem kb_Mo_458 : ab_kb g_G "TurnRingModel" 458 mt_Mo_sawBy 4 := ⟨g_good, cd_Mo_sawBy, g_memT (g_t1 11 rfl) rfl, Or.inl (g_memT (g_t7 150 rfl) rfl), ⟨by decide, by decide, pd_62⟩, by decide⟩
theorem kb_La_130 : ab_kb g_G "TurnRingLaw" 130 mt_Mo_look 2 := ⟨g_good, cd_Mo_look, g_memT (g_t1 11 rfl) rfl, Or.inl (g_memT (g_t7 154 rfl) rfl), ⟨by decide, by decide, pd_19⟩, by decide⟩
theorem kb_La_134 : ab_kb g_G "TurnRingLaw" 134 mt_Mo_seed 1 := ⟨g_good, cd_Mo_seed, g_memT (g_t1 11 rfl) rfl, Or.inl (g_memT (g_t7 158 rfl) rfl), ⟨by decide, by decide, pd_3⟩, by decide⟩
theorem kb_La_138 : ab_kb g_G "TurnRingLaw" 138 mt_Mo_days 4 := ⟨g_good, cd_Mo_days, g_memT (g_t1 11 rfl) rfl, Or.inl (g_memT (g_t7 162 rfl) rfl), ⟨by decide, by decide, pd_32⟩, by decide⟩
theorem kb_Mo_481 : ab_kb g_G "TurnRingModel" 481 mt_Mo_draw 1 := ⟨g_good, cd_Mo_draw, g_memT (g_t1 11 rfl) rfl, Or.inl (g_memT (g_t7 167 rfl) rfl), ⟨by decide, by decide, pd_3⟩, by decide⟩
theorem kb_La_142 : ab_kb g_G "TurnRingLaw" 142 mt_Mo_count 1 := ⟨g_good, cd_Mo_count, g_memT (g_t1 11 rfl) rfl, Or.inl (g_memT (g_t7 175 rfl) rfl), ⟨by decide, by decide, pd_3⟩, by decide⟩
theorem kb_La_146 : ab_kb g_G "TurnRingLaw" 146 mt_Mo_image 1 := ⟨g_good, cd_Mo_image, g_memT (g_t1 11 rfl) rfl, Or.inl (g_memT (g_t7 179 rfl) rfl), ⟨by decide, by decide, pd_3⟩, by decide⟩
theorem kb_La_150 : ab_kb g_G "TurnRingLaw" 150 mt_Mo_back 1 := ⟨g_good, cd_Mo_back, g_memT (g_t1 11 rfl) rfl, Or.inl (g_memT (g_t7 183 rfl) rfl), ⟨by decide, by decide, pd_3⟩, by decide⟩
theorem nw_La_7 : ab_nw g_G "TurnRingLaw" 7 10 13 df_Tu := ⟨"TurnRing", tf_Tu, ty_Tu, rfl, uw_Tu, tk_Tu, g_memT (g_t1 22 rfl) rfl, g_memT (g_t1 23 rfl) rfl, g_memT (g_t1 1 rfl) rfl, dk_Tu⟩
theorem cw_La_7 : Cond.classLink "TurnRingLaw" 7 "TurnRing" ∈ g_G.2.1 := g_memT (g_t1 22 rfl) rfl
theorem nw_Tu_7 : ab_nw g_G "TurnRing" 7 8 9 df_Ta := ⟨"TurnRing$Tape", tf_Ta, ty_Ta, rfl, uw_Ta, tk_Ta, g_memT (g_t1 30 rfl) rfl, g_memT (g_t1 31 rfl) rfl, g_memT (g_t1 2 rfl) rfl, dk_Ta⟩
theorem cw_Tu_7 : Cond.classLink "TurnRing" 7 "TurnRing$Tape" ∈ g_G.2.1 := g_memT (g_t1 30 rfl) rfl
theorem nw_Tu_16 : ab_nw g_G "TurnRing" 16 5 18 df_Ri := ⟨"TurnRing$Ring", tf_Ri, ty_Ri, rfl, uw_Ri, tk_Ri, g_memT (g_t1 75 rfl) rfl, g_memT (g_t1 76 rfl) rfl, g_memT (g_t1 3 rfl) rfl, dk_Ri⟩
theorem cw_Tu_16 : Cond.classLink "TurnRing" 16 "TurnRing$Ring" ∈ g_G.2.1 := g_memT (g_t1 75 rfl) rfl
theorem nw_Ri_34 : ab_nw g_G "TurnRing$Ring" 34 1 5 df_Di := ⟨"TurnRing$Diary", tf_Di, ty_Di, rfl, uw_Di, tk_Di, g_memT (g_t1 81 rfl) rfl, g_memT (g_t1 82 rfl) rfl, g_memT (g_t1 4 rfl) rfl, dk_Di⟩
theorem cw_Ri_34 : Cond.classLink "TurnRing$Ring" 34 "TurnRing$Diary" ∈ g_G.2.1 := g_memT (g_t1 81 rfl) rfl
theorem nw_Tu_34 : ab_nw g_G "TurnRing" 34 6 1 df_Ro := ⟨"TurnRing$Rule", tf_Ro, ty_Ro, rfl, uw_Ro, tk_Ro, g_memT (g_t1 207 rfl) rfl, g_memT (g_t3 97 rfl) rfl, g_memT (g_t1 19 rfl) rfl, dk_Ro⟩
theorem cw_Tu_34 : Cond.classLink "TurnRing" 34 "TurnRing$Rule" ∈ g_G.2.1 := g_memT (g_t1 207 rfl) rfl
theorem nw_Tu_40 : ab_nw g_G "TurnRing" 40 0 5 df_Ac := ⟨"TurnRing$ActLog", tf_Ac, ty_Ac, rfl, uw_Ac, tk_Ac, g_memT (g_t1 209 rfl) rfl, g_memT (g_t1 210 rfl) rfl, g_memT (g_t1 5 rfl) rfl, dk_Ac⟩
theorem cw_Tu_40 : Cond.classLink "TurnRing" 40 "TurnRing$ActLog" ∈ g_G.2.1 := g_memT (g_t1 209 rfl) rfl
theorem nw_Tu_47 : ab_nw g_G "TurnRing" 47 7 3 df_Ru := ⟨"TurnRing$RuleReader", tf_Ru, ty_Ru, rfl, uw_Ru, tk_Ru, g_memT (g_t1 233 rfl) rfl, g_memT (g_t1 234 rfl) rfl, g_memT (g_t1 6 rfl) rfl, dk_Ru⟩
theorem cw_Tu_47 : Cond.classLink "TurnRing" 47 "TurnRing$RuleReader" ∈ g_G.2.1 := g_memT (g_t1 233 rfl) rfl
theorem nw_Tu_54 : ab_nw g_G "TurnRing" 54 3 2 df_Ma := ⟨"TurnRing$Machine", tf_Ma, ty_Ma, rfl, uw_Ma, tk_Ma, g_memT (g_t2 9 rfl) rfl, g_memT (g_t2 10 rfl) rfl, g_memT (g_t1 7 rfl) rfl, dk_Ma⟩
theorem cw_Tu_54 : Cond.classLink "TurnRing" 54 "TurnRing$Machine" ∈ g_G.2.1 := g_memT (g_t2 9 rfl) rfl
theorem nw_Tu_61 : ab_nw g_G "TurnRing" 61 4 5 df_Pl := ⟨"TurnRing$Planner", tf_Pl, ty_Pl, rfl, uw_Pl, tk_Pl, g_memT (g_t2 22 rfl) rfl, g_memT (g_t2 23 rfl) rfl, g_memT (g_t1 8 rfl) rfl, dk_Pl⟩
theorem cw_Tu_61 : Cond.classLink "TurnRing" 61 "TurnRing$Planner" ∈ g_G.2.1 := g_memT (g_t2 22 rfl) rfl
theorem nw_Tu_68 : ab_nw g_G "TurnRing" 68 9 5 df_Tr := ⟨"TurnRing$Trader", tf_Tr, ty_Tr, rfl, uw_Tr, tk_Tr, g_memT (g_t2 46 rfl) rfl, g_memT (g_t2 47 rfl) rfl, g_memT (g_t1 9 rfl) rfl, dk_Tr⟩
theorem cw_Tu_68 : Cond.classLink "TurnRing" 68 "TurnRing$Trader" ∈ g_G.2.1 := g_memT (g_t2 46 rfl) rfl
theorem nw_Tu_75 : ab_nw g_G "TurnRing" 75 2 6 df_Gu := ⟨"TurnRing$Guesser", tf_Gu, ty_Gu, rfl, uw_Gu, tk_Gu, g_memT (g_t2 70 rfl) rfl, g_memT (g_t2 71 rfl) rfl, g_memT (g_t1 10 rfl) rfl, dk_Gu⟩
theorem cw_Tu_75 : Cond.classLink "TurnRing" 75 "TurnRing$Guesser" ∈ g_G.2.1 := g_memT (g_t2 70 rfl) rfl
theorem nw_La_10 : ab_nw g_G "TurnRingLaw" 10 11 37 df_Mo := ⟨"TurnRingModel", tf_Mo, ty_Mo, rfl, uw_Mo, tk_Mo, g_memT (g_t5 52 rfl) rfl, g_memT (g_t5 53 rfl) rfl, g_memT (g_t1 11 rfl) rfl, dk_Mo⟩
theorem cw_La_10 : Cond.classLink "TurnRingLaw" 10 "TurnRingModel" ∈ g_G.2.1 := g_memT (g_t5 52 rfl) rfl
theorem cn_Tu_208 : Cond.constant "TurnRing" 208 (-100000) ∈ g_G.2.1 := g_memT (g_t3 205 rfl) rfl
theorem cn_In_265 : Cond.constant "java/lang/Integer" 265 (1431655765) ∈ g_G.2.1 := g_memT (g_t4 204 rfl) rfl
theorem cn_In_266 : Cond.constant "java/lang/Integer" 266 (858993459) ∈ g_G.2.1 := g_memT (g_t4 205 rfl) rfl
theorem cn_In_267 : Cond.constant "java/lang/Integer" 267 (252645135) ∈ g_G.2.1 := g_memT (g_t4 206 rfl) rfl
theorem cn_Tu_334 : Cond.constant "TurnRing" 334 (-10000000) ∈ g_G.2.1 := g_memT (g_t5 43 rfl) rfl
theorem cn_Tu_338 : Cond.constant "TurnRing" 338 (65536) ∈ g_G.2.1 := g_memT (g_t5 50 rfl) rfl
theorem cn_Mo_163 : Cond.constant "TurnRingModel" 163 (99999) ∈ g_G.2.1 := g_memT (g_t6 45 rfl) rfl
theorem cn_Mo_399 : Cond.constant "TurnRingModel" 399 (-100000) ∈ g_G.2.1 := g_memT (g_t7 58 rfl) rfl
theorem cn_Mo_480 : Cond.constant "TurnRingModel" 480 (-10000000) ∈ g_G.2.1 := g_memT (g_t7 166 rfl) rfl
theorem cn_Ma_49 : Cond.constantLong "TurnRing$Machine" 49 (-3) ∈ g_G.2.1 := g_memT (g_t4 70 rfl) rfl
theorem cn_Ma_51 : Cond.constantLong "TurnRing$Machine" 51 (3) ∈ g_G.2.1 := g_memT (g_t4 71 rfl) rfl
theorem cn_Tu_342 : Cond.constantLong "TurnRing" 342 (1103515245) ∈ g_G.2.1 := g_memT (g_t5 47 rfl) rfl
theorem cn_Tu_344 : Cond.constantLong "TurnRing" 344 (12345) ∈ g_G.2.1 := g_memT (g_t5 48 rfl) rfl
theorem cn_Tu_346 : Cond.constantLong "TurnRing" 346 (2147483648) ∈ g_G.2.1 := g_memT (g_t5 49 rfl) rfl
theorem cn_Mo_219 : Cond.constantLong "TurnRingModel" 219 (1919512167) ∈ g_G.2.1 := g_memT (g_t5 202 rfl) rfl
theorem cn_Mo_224 : Cond.constantLong "TurnRingModel" 224 (448546567013) ∈ g_G.2.1 := g_memT (g_t5 211 rfl) rfl
theorem cn_Mo_229 : Cond.constantLong "TurnRingModel" 229 (495689623668) ∈ g_G.2.1 := g_memT (g_t5 212 rfl) rfl
theorem cn_Mo_234 : Cond.constantLong "TurnRingModel" 234 (465625113971) ∈ g_G.2.1 := g_memT (g_t5 213 rfl) rfl
theorem cn_Mo_239 : Cond.constantLong "TurnRingModel" 239 (30521761840260467) ∈ g_G.2.1 := g_memT (g_t5 214 rfl) rfl
theorem cn_Mo_241 : Cond.constantLong "TurnRingModel" 241 (1734440037) ∈ g_G.2.1 := g_memT (g_t5 215 rfl) rfl
theorem cn_Mo_125 : Cond.constantLong "TurnRingModel" 125 (1918989413) ∈ g_G.2.1 := g_memT (g_t5 216 rfl) rfl
theorem cn_Mo_252 : Cond.constantLong "TurnRingModel" 252 (1953854062) ∈ g_G.2.1 := g_memT (g_t5 217 rfl) rfl
theorem cn_Mo_119 : Cond.constantLong "TurnRingModel" 119 (1752135026) ∈ g_G.2.1 := g_memT (g_t6 58 rfl) rfl
theorem cn_Mo_121 : Cond.constantLong "TurnRingModel" 121 (6578553) ∈ g_G.2.1 := g_memT (g_t6 59 rfl) rfl
theorem cn_Mo_123 : Cond.constantLong "TurnRingModel" 123 (418464099429) ∈ g_G.2.1 := g_memT (g_t6 60 rfl) rfl
theorem cn_Mo_127 : Cond.constantLong "TurnRingModel" 127 (2003792494) ∈ g_G.2.1 := g_memT (g_t6 61 rfl) rfl
theorem cn_Mo_129 : Cond.constantLong "TurnRingModel" 129 (465625113956) ∈ g_G.2.1 := g_memT (g_t6 62 rfl) rfl
theorem cn_Mo_131 : Cond.constantLong "TurnRingModel" 131 (1650815860) ∈ g_G.2.1 := g_memT (g_t6 63 rfl) rfl
theorem cn_Mo_133 : Cond.constantLong "TurnRingModel" 133 (465557353332) ∈ g_G.2.1 := g_memT (g_t6 64 rfl) rfl
theorem cn_Mo_135 : Cond.constantLong "TurnRingModel" 135 (495873784179) ∈ g_G.2.1 := g_memT (g_t6 65 rfl) rfl
theorem cn_Mo_137 : Cond.constantLong "TurnRingModel" 137 (508676040051) ∈ g_G.2.1 := g_memT (g_t6 66 rfl) rfl
theorem cn_Mo_139 : Cond.constantLong "TurnRingModel" 139 (444016649587) ∈ g_G.2.1 := g_memT (g_t6 67 rfl) rfl
theorem cn_Mo_141 : Cond.constantLong "TurnRingModel" 141 (495874699379) ∈ g_G.2.1 := g_memT (g_t6 68 rfl) rfl
theorem cn_Mo_207 : Cond.constantLong "TurnRingModel" 207 (26982) ∈ g_G.2.1 := g_memT (g_t6 69 rfl) rfl
theorem cn_Mo_183 : Cond.constantLong "TurnRingModel" 183 (7237492) ∈ g_G.2.1 := g_memT (g_t6 82 rfl) rfl
theorem cn_Mo_203 : Cond.constantLong "TurnRingModel" 203 (6385252) ∈ g_G.2.1 := g_memT (g_t6 106 rfl) rfl
theorem cn_Mo_205 : Cond.constantLong "TurnRingModel" 205 (28530) ∈ g_G.2.1 := g_memT (g_t6 107 rfl) rfl
theorem cn_Mo_319 : Cond.constantLong "TurnRingModel" 319 (100) ∈ g_G.2.1 := g_memT (g_t6 150 rfl) rfl
theorem cn_Mo_321 : Cond.constantLong "TurnRingModel" 321 (104) ∈ g_G.2.1 := g_memT (g_t6 151 rfl) rfl
theorem cn_Mo_326 : Cond.constantLong "TurnRingModel" 326 (11) ∈ g_G.2.1 := g_memT (g_t6 160 rfl) rfl
theorem cn_Mo_328 : Cond.constantLong "TurnRingModel" 328 (2) ∈ g_G.2.1 := g_memT (g_t6 161 rfl) rfl
theorem cn_Mo_330 : Cond.constantLong "TurnRingModel" 330 (23) ∈ g_G.2.1 := g_memT (g_t6 166 rfl) rfl
theorem cn_Mo_350 : Cond.constantLong "TurnRingModel" 350 (-3) ∈ g_G.2.1 := g_memT (g_t6 207 rfl) rfl
theorem cn_Mo_352 : Cond.constantLong "TurnRingModel" 352 (3) ∈ g_G.2.1 := g_memT (g_t6 208 rfl) rfl
theorem cn_Mo_383 : Cond.constantLong "TurnRingModel" 383 (96) ∈ g_G.2.1 := g_memT (g_t6 225 rfl) rfl
theorem cn_Mo_388 : Cond.constantLong "TurnRingModel" 388 (200) ∈ g_G.2.1 := g_memT (g_t7 37 rfl) rfl
theorem cn_Mo_406 : Cond.constantLong "TurnRingModel" 406 (5) ∈ g_G.2.1 := g_memT (g_t7 63 rfl) rfl
theorem cn_Mo_415 : Cond.constantLong "TurnRingModel" 415 (24) ∈ g_G.2.1 := g_memT (g_t7 78 rfl) rfl
theorem cn_Mo_432 : Cond.constantLong "TurnRingModel" 432 (8) ∈ g_G.2.1 := g_memT (g_t7 98 rfl) rfl
theorem cn_Mo_440 : Cond.constantLong "TurnRingModel" 440 (10) ∈ g_G.2.1 := g_memT (g_t7 119 rfl) rfl
theorem cn_Mo_448 : Cond.constantLong "TurnRingModel" 448 (4) ∈ g_G.2.1 := g_memT (g_t7 131 rfl) rfl
theorem cn_Mo_450 : Cond.constantLong "TurnRingModel" 450 (60) ∈ g_G.2.1 := g_memT (g_t7 132 rfl) rfl
theorem cn_Mo_456 : Cond.constantLong "TurnRingModel" 456 (99) ∈ g_G.2.1 := g_memT (g_t7 141 rfl) rfl
theorem cn_Mo_472 : Cond.constantLong "TurnRingModel" 472 (1103515245) ∈ g_G.2.1 := g_memT (g_t7 171 rfl) rfl
theorem cn_Mo_474 : Cond.constantLong "TurnRingModel" 474 (12345) ∈ g_G.2.1 := g_memT (g_t7 172 rfl) rfl
theorem cn_Mo_476 : Cond.constantLong "TurnRingModel" 476 (2147483648) ∈ g_G.2.1 := g_memT (g_t7 173 rfl) rfl
theorem cn_Mo_478 : Cond.constantLong "TurnRingModel" 478 (65536) ∈ g_G.2.1 := g_memT (g_t7 174 rfl) rfl
theorem ac_int : Cond.arrayClass .int ∈ g_G.2.1 := g_memT (g_t1 110 rfl) rfl
theorem ac_byte : Cond.arrayClass .byte ∈ g_G.2.1 := g_memT (g_t1 74 rfl) rfl
theorem ac_boolean : Cond.arrayClass .boolean ∈ g_G.2.1 := g_memT (g_t1 232 rfl) rfl
theorem ac_long : Cond.arrayClass .long ∈ g_G.2.1 := g_memT (g_t1 111 rfl) rfl
theorem oi_Tu : Cond.methodLink "TurnRing" 1 Lib.objectInit ∈ g_G.2.1 ∧ Cond.instanceMethod Lib.objectInit ∈ g_G.2.1 ∧ Cond.code Lib.objectInit ⟨#[0xb1]⟩ 1 none ∈ g_G.2.1 := ⟨g_memT (g_t1 27 rfl) rfl, g_memT (g_t1 28 rfl) rfl, g_memT (g_t1 29 rfl) rfl⟩
theorem oi_Ta : Cond.methodLink "TurnRing$Tape" 3 Lib.objectInit ∈ g_G.2.1 ∧ Cond.instanceMethod Lib.objectInit ∈ g_G.2.1 ∧ Cond.code Lib.objectInit ⟨#[0xb1]⟩ 1 none ∈ g_G.2.1 := ⟨g_memT (g_t1 35 rfl) rfl, g_memT (g_t1 28 rfl) rfl, g_memT (g_t1 29 rfl) rfl⟩
theorem oi_Ri : Cond.methodLink "TurnRing$Ring" 3 Lib.objectInit ∈ g_G.2.1 ∧ Cond.instanceMethod Lib.objectInit ∈ g_G.2.1 ∧ Cond.code Lib.objectInit ⟨#[0xb1]⟩ 1 none ∈ g_G.2.1 := ⟨g_memT (g_t1 80 rfl) rfl, g_memT (g_t1 28 rfl) rfl, g_memT (g_t1 29 rfl) rfl⟩
theorem oi_Di : Cond.methodLink "TurnRing$Diary" 3 Lib.objectInit ∈ g_G.2.1 ∧ Cond.instanceMethod Lib.objectInit ∈ g_G.2.1 ∧ Cond.code Lib.objectInit ⟨#[0xb1]⟩ 1 none ∈ g_G.2.1 := ⟨g_memT (g_t1 86 rfl) rfl, g_memT (g_t1 28 rfl) rfl, g_memT (g_t1 29 rfl) rfl⟩
theorem oi_Ac : Cond.methodLink "TurnRing$ActLog" 1 Lib.objectInit ∈ g_G.2.1 ∧ Cond.instanceMethod Lib.objectInit ∈ g_G.2.1 ∧ Cond.code Lib.objectInit ⟨#[0xb1]⟩ 1 none ∈ g_G.2.1 := ⟨g_memT (g_t1 214 rfl) rfl, g_memT (g_t1 28 rfl) rfl, g_memT (g_t1 29 rfl) rfl⟩
theorem oi_Ru : Cond.methodLink "TurnRing$RuleReader" 3 Lib.objectInit ∈ g_G.2.1 ∧ Cond.instanceMethod Lib.objectInit ∈ g_G.2.1 ∧ Cond.code Lib.objectInit ⟨#[0xb1]⟩ 1 none ∈ g_G.2.1 := ⟨g_memT (g_t1 238 rfl) rfl, g_memT (g_t1 28 rfl) rfl, g_memT (g_t1 29 rfl) rfl⟩
theorem oi_Ma : Cond.methodLink "TurnRing$Machine" 3 Lib.objectInit ∈ g_G.2.1 ∧ Cond.instanceMethod Lib.objectInit ∈ g_G.2.1 ∧ Cond.code Lib.objectInit ⟨#[0xb1]⟩ 1 none ∈ g_G.2.1 := ⟨g_memT (g_t2 14 rfl) rfl, g_memT (g_t1 28 rfl) rfl, g_memT (g_t1 29 rfl) rfl⟩
theorem oi_Pl : Cond.methodLink "TurnRing$Planner" 3 Lib.objectInit ∈ g_G.2.1 ∧ Cond.instanceMethod Lib.objectInit ∈ g_G.2.1 ∧ Cond.code Lib.objectInit ⟨#[0xb1]⟩ 1 none ∈ g_G.2.1 := ⟨g_memT (g_t2 27 rfl) rfl, g_memT (g_t1 28 rfl) rfl, g_memT (g_t1 29 rfl) rfl⟩
theorem oi_Tr : Cond.methodLink "TurnRing$Trader" 3 Lib.objectInit ∈ g_G.2.1 ∧ Cond.instanceMethod Lib.objectInit ∈ g_G.2.1 ∧ Cond.code Lib.objectInit ⟨#[0xb1]⟩ 1 none ∈ g_G.2.1 := ⟨g_memT (g_t2 51 rfl) rfl, g_memT (g_t1 28 rfl) rfl, g_memT (g_t1 29 rfl) rfl⟩
theorem oi_Gu : Cond.methodLink "TurnRing$Guesser" 3 Lib.objectInit ∈ g_G.2.1 ∧ Cond.instanceMethod Lib.objectInit ∈ g_G.2.1 ∧ Cond.code Lib.objectInit ⟨#[0xb1]⟩ 1 none ∈ g_G.2.1 := ⟨g_memT (g_t2 75 rfl) rfl, g_memT (g_t1 28 rfl) rfl, g_memT (g_t1 29 rfl) rfl⟩
theorem ck_Ar_150 : ab_ck g_G "java/util/Arrays" 150 := ⟨g_memT (g_t3 115 rfl) rfl, g_memT (g_t3 117 rfl) rfl, g_memT (g_t3 116 rfl) rfl, g_memT (g_t1 20 rfl) rfl⟩
theorem oi_Ro : Cond.methodLink "TurnRing$Rule" 1 Lib.objectInit ∈ g_G.2.1 ∧ Cond.instanceMethod Lib.objectInit ∈ g_G.2.1 ∧ Cond.code Lib.objectInit ⟨#[0xb1]⟩ 1 none ∈ g_G.2.1 := ⟨g_memT (g_t3 121 rfl) rfl, g_memT (g_t1 28 rfl) rfl, g_memT (g_t1 29 rfl) rfl⟩
theorem ck_Ri_85 : ab_ck g_G "TurnRing$Ring" 85 := ⟨g_memT (g_t4 93 rfl) rfl, g_memT (g_t3 117 rfl) rfl, g_memT (g_t3 116 rfl) rfl, g_memT (g_t1 20 rfl) rfl⟩
theorem ck_Di_28 : ab_ck g_G "TurnRing$Diary" 28 := ⟨g_memT (g_t4 98 rfl) rfl, g_memT (g_t3 117 rfl) rfl, g_memT (g_t3 116 rfl) rfl, g_memT (g_t1 20 rfl) rfl⟩
theorem ck_Pl_50 : ab_ck g_G "TurnRing$Planner" 50 := ⟨g_memT (g_t4 178 rfl) rfl, g_memT (g_t3 117 rfl) rfl, g_memT (g_t3 116 rfl) rfl, g_memT (g_t1 20 rfl) rfl⟩
theorem oi_Mo : Cond.methodLink "TurnRingModel" 1 Lib.objectInit ∈ g_G.2.1 ∧ Cond.instanceMethod Lib.objectInit ∈ g_G.2.1 ∧ Cond.code Lib.objectInit ⟨#[0xb1]⟩ 1 none ∈ g_G.2.1 := ⟨g_memT (g_t5 57 rfl) rfl, g_memT (g_t1 28 rfl) rfl, g_memT (g_t1 29 rfl) rfl⟩
end
section
section EVI
variable {G : ab_G} {rs : List String} {M : ab_M} {d bc bs pc : Nat} {l : ab_L} {st : List ab_V} {w : ab_W} {Q : Option ab_V → ab_W → Prop}
theorem ev_ldc2i {n : Int} {v : Int64} {idx : Nat} (hd : decode M.2.1 pc = .ok (.ldc2_w idx, 3)) (hc : Cond.constantLong M.1.cls idx v ∈ G.2.1) (hn : v = Int64.ofInt n) (k : ab_Ev G rs M d bc bs (pc + 3) l (.inr (.inl (Int64.ofInt n)) :: st) w Q) : ab_Ev G rs M d bc bs pc l st w Q := by subst hn; exact ev_ldc2 hd hc k
theorem ev_lconsti {n : Int} {j : Fin 2} (hd : decode M.2.1 pc = .ok (.lconst j, 1)) (hn : Int64.ofNat (j : Nat) = Int64.ofInt n) (k : ab_Ev G rs M d bc bs (pc + 1) l (.inr (.inl (Int64.ofInt n)) :: st) w Q) : ab_Ev G rs M d bc bs pc l st w Q := by refine ev_lconst hd ?_; rw [hn]; exact k
end EVI
theorem ab_cmpI {a b : Int} (ha : ab_in a) (hb : ab_in b) : (ab_cmp (Int64.ofInt a) (Int64.ofInt b) < 0 ↔ a < b) ∧ (0 < ab_cmp (Int64.ofInt a) (Int64.ofInt b) ↔ b < a) ∧ -1 ≤ ab_cmp (Int64.ofInt a) (Int64.ofInt b) ∧ ab_cmp (Int64.ofInt a) (Int64.ofInt b) ≤ 1 := by
  have ta : (Int64.ofInt a).toInt = a := Int64.toInt_ofInt_of_le (by omega) (by omega)
  have tb : (Int64.ofInt b).toInt = b := Int64.toInt_ofInt_of_le (by omega) (by omega)
  have e1 : (Int64.ofInt a > Int64.ofInt b) ↔ b < a := by
    show Int64.ofInt b < Int64.ofInt a ↔ _
    rw [Int64.lt_iff_toInt_lt, ta, tb]
  have e2 : (Int64.ofInt a = Int64.ofInt b) ↔ a = b := by
    rw [← Int64.toInt_inj, ta, tb]
  unfold ab_cmp
  by_cases h1 : b < a
  · rw [if_pos (e1.mpr h1)]; omega
  · rw [if_neg (fun z => h1 (e1.mp z))]
    by_cases h2 : a = b
    · rw [if_pos (e2.mpr h2)]; omega
    · rw [if_neg (fun z => h2 (e2.mp z))]; omega
end
section
theorem ev_loc {G : ab_G} {rs : List String} {M : ab_M} {d bc bs pc : Nat} {l l2 : ab_L} {st : List ab_V} {w : ab_W} {Q : Option ab_V → ab_W → Prop} (h : l = l2) (k : ab_Ev G rs M d bc bs pc l2 st w Q) : ab_Ev G rs M d bc bs pc l st w Q := by rw [h]; exact k
theorem ev_conseq {G : ab_G} {rs : List String} {M : ab_M} {d bc bs pc : Nat} {l : ab_L} {st : List ab_V} {w : ab_W} {Q Q' : Option ab_V → ab_W → Prop} (h : ∀ r w2, Q r w2 → Q' r w2) (k : ab_Ev G rs M d bc bs pc l st w Q) : ab_Ev G rs M d bc bs pc l st w Q' := by
  intro p la e R s m args below meth c H locs cells slots D dA aK aV as A ls Qc free hF hs hP hD hS hl h1 h2 hR
  exact k p la e R s m args below meth c H locs cells slots D dA aK aV as A ls Qc free hF hs hP hD hS hl h1 h2 (fun r w' as' H' locs' q => hR r w' as' H' locs' (h r w' q))
/-! what is made in a world without rows of references, by deciding -/
def ab_okb (n : Nat) : ab_V → Bool
  | .inr (.inr (some i)) => decide (i < n) || decide (ab_sb ≤ i)
  | _ => true
def ab_okEb (n : Nat) : ab_E → Bool
  | .inr (.inr (.inl _)) => false
  | .inr (.inr (.inr (_, fs))) => fs.all (ab_okb n)
  | _ => true
theorem ab_okb_ok {n : Nat} {v : ab_V} (h : ab_okb n v = true) : ab_ok n v := by
  rcases v with a | a | _ | i
  · exact trivial
  · exact trivial
  · exact trivial
  · have h2 : (decide (i < n) || decide (ab_sb ≤ i)) = true := h
    rw [Bool.or_eq_true, decide_eq_true_eq, decide_eq_true_eq] at h2
    exact h2
theorem ab_okS_of {n : Nat} {st : List ab_V} (h : st.all (ab_okb n) = true) : ab_okS n st := fun v hv => ab_okb_ok (List.all_eq_true.mp h v hv)
theorem ab_okL_of {n : Nat} {l : ab_L} (h : l.all (fun o => match o with | some v => ab_okb n v | none => true) = true) : ab_okL n l := by
  intro i v hi
  exact ab_okb_ok (List.all_eq_true.mp h (some v) (List.mem_of_getElem? hi))
theorem ab_okW_of {w : ab_W} (h : w.all (ab_okEb w.length) = true) : ab_okW w := by
  intro e he
  have h2 := List.all_eq_true.mp h e he
  rcases e with ⟨t, m, f⟩ | ⟨m, f⟩ | ⟨t, m, f⟩ | ⟨ci, fs⟩
  · exact trivial
  · exact trivial
  · cases h2
  · exact ab_okS_of h2
end
section
theorem ab_Mt.conseq {G : ab_G} {rs : List String} {M : ab_M} {d mc ms : Nat} {av : List ab_V} {w : ab_W} {Q Q' : Option ab_V → ab_W → Prop} (h : ∀ r w2, Q r w2 → Q' r w2) (k : ab_Mt G rs M d mc ms av w Q) : ab_Mt G rs M d mc ms av w Q' := by
  intro l D dA aK aV as sz hs
  refine MetFree.mono (k l D dA aK aV as sz hs) (fun _ _ q => q) (fun _ _ _ _ _ q => q) (fun a st o t _ q => ?_)
  obtain ⟨⟨⟨r, w', as', q1, q2⟩, q3⟩, q4⟩ := q
  exact ⟨⟨⟨r, w', as', h r w' q1, q2⟩, q3⟩, q4⟩
section EVH
variable {G : ab_G} {rs : List String} {M : ab_M} {d bc bs pc : Nat} {l : ab_L} {st : List ab_V} {w : ab_W} {Q : Option ab_V → ab_W → Prop}
theorem ev_if_ne_t {a : Int} {off : Int} {tgt : Nat} (hd : decode M.2.1 pc = .ok (.ifCond .ne off, 3)) (ht : (pc : Int) + off = (tgt : Int)) (ha : ab_in a) (h : ¬ a = 0) (k : ab_Ev G rs M d bc bs tgt l st w Q) : ab_Ev G rs M d bc bs pc l (.inl a :: st) w Q := ev_if_ne hd ht ha (fun _ => k) (fun z => absurd z h)
theorem ev_if_ne_f {a : Int} {off : Int} {tgt : Nat} (hd : decode M.2.1 pc = .ok (.ifCond .ne off, 3)) (ht : (pc : Int) + off = (tgt : Int)) (ha : ab_in a) (h : a = 0) (k : ab_Ev G rs M d bc bs (pc + 3) l st w Q) : ab_Ev G rs M d bc bs pc l (.inl a :: st) w Q := ev_if_ne hd ht ha (fun z => absurd h z) (fun _ => k)
theorem ev_if_eq_t {a : Int} {off : Int} {tgt : Nat} (hd : decode M.2.1 pc = .ok (.ifCond .eq off, 3)) (ht : (pc : Int) + off = (tgt : Int)) (ha : ab_in a) (h : a = 0) (k : ab_Ev G rs M d bc bs tgt l st w Q) : ab_Ev G rs M d bc bs pc l (.inl a :: st) w Q := ev_if_eq hd ht ha (fun _ => k) (fun z => absurd h z)
theorem ev_if_eq_f {a : Int} {off : Int} {tgt : Nat} (hd : decode M.2.1 pc = .ok (.ifCond .eq off, 3)) (ht : (pc : Int) + off = (tgt : Int)) (ha : ab_in a) (h : ¬ a = 0) (k : ab_Ev G rs M d bc bs (pc + 3) l st w Q) : ab_Ev G rs M d bc bs pc l (.inl a :: st) w Q := ev_if_eq hd ht ha (fun z => absurd z h) (fun _ => k)
end EVH
end
section
/-! worlds with rows of references; constructors; rows filled -/
def ab_isr : ab_E → Bool
  | .inr (.inr (.inl _)) => true
  | _ => false
def ab_okEc (n : Nat) : ab_E → Bool
  | .inr (.inr (.inr (_, fs))) => fs.all (ab_okb n)
  | _ => true
theorem ab_okW_r {w : ab_W} {ars : List ab_E} (h : w.all (ab_okEc w.length) = true) (hf : w.filter ab_isr = ars) (hr : ∀ e ∈ ars, ab_okE w.length e) : ab_okW w := by
  intro e he
  have h2 := List.all_eq_true.mp h e he
  have h3 : ab_isr e = true → ab_okE w.length e := fun z => hr e (by rw [← hf]; exact List.mem_filter.mpr ⟨he, z⟩)
  rcases e with ⟨t, m, f⟩ | ⟨m, f⟩ | ⟨t, m, f⟩ | ⟨ci, fs⟩
  · exact trivial
  · exact trivial
  · exact h3 rfl
  · exact ab_okS_of h2
theorem ab_all1 {P : ab_E → Prop} {a : ab_E} (h : P a) : ∀ e ∈ [a], P e := by
  intro e he
  rw [List.mem_singleton.mp he]
  exact h
theorem ab_all2 {P : ab_E → Prop} {a b : ab_E} (h : P a) (h2 : P b) : ∀ e ∈ [a, b], P e := by
  intro e he
  rcases List.mem_cons.mp he with rfl | he
  · exact h
  · exact ab_all1 h2 e he
theorem ab_okr0 {n t m : Nat} : ab_okE n (ab_ar t m (fun _ => none)) := fun k i h => by cases h
theorem ab_okru {n t m i : Nat} {f : Int → Option Nat} {k : Int} (hi : i < n) (h : ab_okE n (ab_ar t m f)) : ab_okE n (ab_ar t m (ab_up f k (some i))) := by
  intro j x hx
  have hx2 : (if j = k then some i else f j) = some x := hx
  by_cases e : j = k
  · rw [if_pos e] at hx2
    cases hx2
    exact Or.inl hi
  · rw [if_neg e] at hx2
    exact h j x hx2
section EVX
variable {G : ab_G} {rs : List String} {M : ab_M} {d bc bs pc : Nat} {l : ab_L} {st : List ab_V} {w w' : ab_W} {Q : Option ab_V → ab_W → Prop}
theorem ev_xn {cm : ab_M} {idx d' mc ms o : Nat} {av st0 : List ab_V} (hd : decode M.2.1 pc = .ok (.invokespecial idx, 3)) (hm : ab_Mt G rs cm d' mc ms (.inr (.inr (some o)) :: av) w (ab_is none w')) (hk : ab_kb G M.1.cls idx cm av.length) (hst : Cond.instanceMethod cm.1 ∈ G.2.1 ∧ cm.1.name = "<init>" ∧ cm.2.2.2 = none) (h0 : st0 = av.reverse ++ .inr (.inr (some o)) :: st) (hw : ab_wd st ≤ 8) (hdd : d' + 1 ≤ d) (hL : ab_okL w.length l) (hS : ab_okS w.length st)
    (kk : ab_Ev G rs M d bc bs (pc + 3) l st w' Q) : ab_Ev G rs M d (bc + mc) (bs + ms) pc l st0 w Q := ev_special hd hm hk hst h0 hw hdd (Or.inr ⟨hL, hS⟩) (fun r w1 h => by obtain ⟨rfl, rfl⟩ := h; exact kk)
/-- a call that leaves a row with anything -/
theorem ev_vnE {cm : ab_M} {idx d' o ci N : Nat} {T : u_T} {fs av st0 : List ab_V} {W : (Int → Int) → ab_W} (hd : decode M.2.1 pc = .ok (.invokevirtual idx, 3)) (hm : ab_Mt G rs cm d' 0 0 (.inr (.inr (some o)) :: av) w (fun r w2 => r = none ∧ ∃ f, w2 = W f)) (hk : ab_kb G M.1.cls idx cm av.length) (hst : Cond.instanceMethod cm.1 ∈ G.2.1 ∧ Cond.selects cm.1.cls cm.1 cm.1 ∈ G.2.1) (hcl : G.1[ci]? = some (cm.1.cls, T, N)) (hwo : w[o]? = some (ab_ob ci fs)) (h0 : st0 = av.reverse ++ .inr (.inr (some o)) :: st) (hw : ab_wd st ≤ 8) (hdd : d' + 1 ≤ d) (hok : ∀ f, (W f).length = w.length)
    (kk : ∀ f, ab_Ev G rs M d bc bs (pc + 3) l st (W f) Q) : ab_Ev G rs M d bc bs pc l st0 w Q := ev_virtual hd hm hk hst hcl hwo h0 hw hdd (Or.inl (fun _ _ h => by obtain ⟨-, f, h⟩ := h; rw [h]; exact hok f)) (fun r w1 h => by obtain ⟨rfl, f, rfl⟩ := h; exact kk f)
end EVX
def ab_fv {α : Type} (f : Int → α) (v : α) (n : Int) : Int → α := fun k => if 0 ≤ k ∧ k < n then v else f k
theorem ab_fv0 {α : Type} (f : Int → α) (v : α) : ab_fv f v 0 = f := by
  funext k
  exact if_neg (by omega)
theorem ab_fvS {α : Type} (f : Int → α) (v : α) {n : Int} (h : 0 ≤ n) : ab_up (ab_fv f v n) n v = ab_fv f v (n + 1) := by
  funext k
  unfold ab_up ab_fv
  by_cases e : k = n
  · rw [if_pos e, if_pos (by omega)]
  · rw [if_neg e]
    by_cases e2 : 0 ≤ k ∧ k < n
    · rw [if_pos e2, if_pos (by omega)]
    · rw [if_neg e2, if_neg (by omega)]
theorem ab_gs {w : ab_W} {o : Nat} {e E : ab_E} (h : w[o]? = some e) : (w.set o E)[o]? = some E := by
  have h2 : o < w.length := (List.getElem?_eq_some_iff.mp h).1
  rw [List.getElem?_set_self h2]
theorem ab_s0 {w : ab_W} {o : Nat} {e : ab_E} (h : w[o]? = some e) : w.set o e = w := by
  obtain ⟨h2, h3⟩ := List.getElem?_eq_some_iff.mp h
  rw [← h3, List.set_getElem_self]
end
section
theorem de_Ar_fill_AIIV_0 : decode prog_22_method_103_code 0 = .ok (.iconst 0, 1) := by decide +kernel
theorem de_Ar_fill_AIIV_1 : decode prog_22_method_103_code 1 = .ok (.istore_n 2, 1) := by decide +kernel
theorem de_Ar_fill_AIIV_2 : decode prog_22_method_103_code 2 = .ok (.aload_n 0, 1) := by decide +kernel
theorem de_Ar_fill_AIIV_3 : decode prog_22_method_103_code 3 = .ok (.arraylength, 1) := by decide +kernel
theorem de_Ar_fill_AIIV_4 : decode prog_22_method_103_code 4 = .ok (.istore_n 3, 1) := by decide +kernel
theorem de_Ar_fill_AIIV_5 : decode prog_22_method_103_code 5 = .ok (.iload_n 2, 1) := by decide +kernel
theorem de_Ar_fill_AIIV_6 : decode prog_22_method_103_code 6 = .ok (.iload_n 3, 1) := by decide +kernel
theorem de_Ar_fill_AIIV_7 : decode prog_22_method_103_code 7 = .ok (.if_icmp .ge 13, 3) := by decide +kernel
theorem de_Ar_fill_AIIV_10 : decode prog_22_method_103_code 10 = .ok (.aload_n 0, 1) := by decide +kernel
theorem de_Ar_fill_AIIV_11 : decode prog_22_method_103_code 11 = .ok (.iload_n 2, 1) := by decide +kernel
theorem de_Ar_fill_AIIV_12 : decode prog_22_method_103_code 12 = .ok (.iload_n 1, 1) := by decide +kernel
theorem de_Ar_fill_AIIV_13 : decode prog_22_method_103_code 13 = .ok (.iastore, 1) := by decide +kernel
theorem de_Ar_fill_AIIV_14 : decode prog_22_method_103_code 14 = .ok (.iinc 2 1, 3) := by decide +kernel
theorem de_Ar_fill_AIIV_17 : decode prog_22_method_103_code 17 = .ok (.goto (-12), 3) := by decide +kernel
theorem de_Ar_fill_AIIV_20 : decode prog_22_method_103_code 20 = .ok (.return_, 1) := by decide +kernel
set_option maxRecDepth 10000 in
theorem lp_Ar_fill_AIIV (w : ab_W) (o n : Nat) (f : Int → Int) (v : Int) (hw : w[o]? = some (ab_ai 0 n f)) (hn : n ≤ 100000) : ∀ (m : Nat) (i : Nat), i ≤ n → n < i + m → ab_Ev g_G g_rs mt_Ar_fill_AIIV 0 0 0 5 [some (ab_R o), some (ab_I v), some (ab_I (i : Int)), some (ab_I (n : Int))] [] (w.set o (ab_ai 0 n (ab_fv f v (i : Int)))) (ab_is none (w.set o (ab_ai 0 n (ab_fv f v (n : Int))))) := by
  intro m
  induction m with
  | zero =>
    intro i
    intro h1 h2; omega
  | succ m ih =>
    intro i
    intro h1 h2
    refine ev_iload_n de_Ar_fill_AIIV_5 rfl rfl ?_
    refine ev_iload_n de_Ar_fill_AIIV_6 rfl rfl ?_
    refine ev_icmp_ge (tgt := 20) de_Ar_fill_AIIV_7 (by decide) (by omega) (by omega) (fun h7 => ?_) (fun h7 => ?_)
    · skip
      have e : i = n := by omega
      subst e
      exact ev_return de_Ar_fill_AIIV_20 rfl ⟨rfl, rfl⟩
    · skip
      refine ev_aload_n de_Ar_fill_AIIV_10 rfl rfl ?_
      refine ev_iload_n de_Ar_fill_AIIV_11 rfl rfl ?_
      refine ev_iload_n de_Ar_fill_AIIV_12 rfl rfl ?_
      refine ev_iastore de_Ar_fill_AIIV_13 (ab_gs hw) (by omega) (by omega) (by omega) ?_
      refine ev_world (w' := w.set o (ab_ai 0 n (ab_fv f v ((i + 1 : Nat) : Int)))) (by rw [List.set_set, ab_fvS f v (by omega)]; rfl) ?_
      refine ev_iinc (l' := [_, _, _, _]) de_Ar_fill_AIIV_14 rfl rfl ?_
      refine ev_goto (tgt := 5) de_Ar_fill_AIIV_17 (by decide) ?_
      exact ih (i + 1) (by omega) (by omega)
set_option maxRecDepth 10000 in
theorem co_Ar_fill_AIIV (w : ab_W) (o n : Nat) (f : Int → Int) (v : Int) (hw : w[o]? = some (ab_ai 0 n f)) (hn : n ≤ 100000) : ab_Mt g_G g_rs mt_Ar_fill_AIIV 0 0 0 [ab_R o, ab_I v] w (ab_is none (w.set o (ab_ai 0 n (ab_fv f v (n : Int))))) := by
  refine ab_Mt.of rfl (Nat.le_of_ble_eq_true rfl) ?_
  show ab_Ev g_G g_rs mt_Ar_fill_AIIV _ _ _ 0 [some (ab_R o), some (ab_I v), none, none] [] _ _
  refine ev_iconst de_Ar_fill_AIIV_0 ?_
  refine ev_istore_n (l' := [_, _, _, _]) de_Ar_fill_AIIV_1 rfl (Nat.le_of_ble_eq_true rfl) rfl ?_
  refine ev_aload_n de_Ar_fill_AIIV_2 rfl rfl ?_
  refine ev_alen de_Ar_fill_AIIV_3 hw (t := 0) (n := n) (Or.inl ⟨_, _, by decide, rfl⟩) ?_
  refine ev_istore_n (l' := [_, _, _, _]) de_Ar_fill_AIIV_4 rfl (Nat.le_of_ble_eq_true rfl) rfl ?_
  refine ev_world (w' := w.set o (ab_ai 0 n (ab_fv f v ((0 : Nat) : Int)))) (by rw [show (((0 : Nat) : Int)) = 0 from rfl, ab_fv0, ab_s0 hw]) ?_
  exact lp_Ar_fill_AIIV w o n f v hw hn (n + 1) 0 (by omega) (by omega)
theorem de_Ar_fill_AJJV_0 : decode prog_22_method_101_code 0 = .ok (.iconst 0, 1) := by decide +kernel
theorem de_Ar_fill_AJJV_1 : decode prog_22_method_101_code 1 = .ok (.istore_n 3, 1) := by decide +kernel
theorem de_Ar_fill_AJJV_2 : decode prog_22_method_101_code 2 = .ok (.aload_n 0, 1) := by decide +kernel
theorem de_Ar_fill_AJJV_3 : decode prog_22_method_101_code 3 = .ok (.arraylength, 1) := by decide +kernel
theorem de_Ar_fill_AJJV_4 : decode prog_22_method_101_code 4 = .ok (.istore 4, 2) := by decide +kernel
theorem de_Ar_fill_AJJV_6 : decode prog_22_method_101_code 6 = .ok (.iload_n 3, 1) := by decide +kernel
theorem de_Ar_fill_AJJV_7 : decode prog_22_method_101_code 7 = .ok (.iload 4, 2) := by decide +kernel
theorem de_Ar_fill_AJJV_9 : decode prog_22_method_101_code 9 = .ok (.if_icmp .ge 13, 3) := by decide +kernel
theorem de_Ar_fill_AJJV_12 : decode prog_22_method_101_code 12 = .ok (.aload_n 0, 1) := by decide +kernel
theorem de_Ar_fill_AJJV_13 : decode prog_22_method_101_code 13 = .ok (.iload_n 3, 1) := by decide +kernel
theorem de_Ar_fill_AJJV_14 : decode prog_22_method_101_code 14 = .ok (.lload_n 1, 1) := by decide +kernel
theorem de_Ar_fill_AJJV_15 : decode prog_22_method_101_code 15 = .ok (.lastore, 1) := by decide +kernel
theorem de_Ar_fill_AJJV_16 : decode prog_22_method_101_code 16 = .ok (.iinc 3 1, 3) := by decide +kernel
theorem de_Ar_fill_AJJV_19 : decode prog_22_method_101_code 19 = .ok (.goto (-13), 3) := by decide +kernel
theorem de_Ar_fill_AJJV_22 : decode prog_22_method_101_code 22 = .ok (.return_, 1) := by decide +kernel
set_option maxRecDepth 10000 in
theorem lp_Ar_fill_AJJV (w : ab_W) (o n : Nat) (f : Int → Int64) (v : Int64) (hw : w[o]? = some (ab_al n f)) (hn : n ≤ 100000) : ∀ (m : Nat) (i : Nat), i ≤ n → n < i + m → ab_Ev g_G g_rs mt_Ar_fill_AJJV 0 0 0 6 [some (ab_R o), some (ab_J v), none, some (ab_I (i : Int)), some (ab_I (n : Int))] [] (w.set o (ab_al n (ab_fv f v (i : Int)))) (ab_is none (w.set o (ab_al n (ab_fv f v (n : Int))))) := by
  intro m
  induction m with
  | zero =>
    intro i
    intro h1 h2; omega
  | succ m ih =>
    intro i
    intro h1 h2
    refine ev_iload_n de_Ar_fill_AJJV_6 rfl rfl ?_
    refine ev_iload de_Ar_fill_AJJV_7 rfl ?_
    refine ev_icmp_ge (tgt := 22) de_Ar_fill_AJJV_9 (by decide) (by omega) (by omega) (fun h9 => ?_) (fun h9 => ?_)
    · skip
      have e : i = n := by omega
      subst e
      exact ev_return de_Ar_fill_AJJV_22 rfl ⟨rfl, rfl⟩
    · skip
      refine ev_aload_n de_Ar_fill_AJJV_12 rfl rfl ?_
      refine ev_iload_n de_Ar_fill_AJJV_13 rfl rfl ?_
      refine ev_lload_n de_Ar_fill_AJJV_14 rfl rfl ?_
      refine ev_lastore de_Ar_fill_AJJV_15 (ab_gs hw) (by omega) (by omega) (by omega) ?_
      refine ev_world (w' := w.set o (ab_al n (ab_fv f v ((i + 1 : Nat) : Int)))) (by rw [List.set_set, ab_fvS f v (by omega)]; rfl) ?_
      refine ev_iinc (l' := [_, _, _, _, _]) de_Ar_fill_AJJV_16 rfl rfl ?_
      refine ev_goto (tgt := 6) de_Ar_fill_AJJV_19 (by decide) ?_
      exact ih (i + 1) (by omega) (by omega)
set_option maxRecDepth 10000 in
theorem co_Ar_fill_AJJV (w : ab_W) (o n : Nat) (f : Int → Int64) (v : Int64) (hw : w[o]? = some (ab_al n f)) (hn : n ≤ 100000) : ab_Mt g_G g_rs mt_Ar_fill_AJJV 0 0 0 [ab_R o, ab_J v] w (ab_is none (w.set o (ab_al n (ab_fv f v (n : Int))))) := by
  refine ab_Mt.of rfl (Nat.le_of_ble_eq_true rfl) ?_
  show ab_Ev g_G g_rs mt_Ar_fill_AJJV _ _ _ 0 [some (ab_R o), some (ab_J v), none, none, none] [] _ _
  refine ev_iconst de_Ar_fill_AJJV_0 ?_
  refine ev_istore_n (l' := [_, _, _, _, _]) de_Ar_fill_AJJV_1 rfl (Nat.le_of_ble_eq_true rfl) rfl ?_
  refine ev_aload_n de_Ar_fill_AJJV_2 rfl rfl ?_
  refine ev_alen de_Ar_fill_AJJV_3 hw (t := 0) (n := n) (Or.inr (Or.inl ⟨_, rfl⟩)) ?_
  refine ev_istore (l' := [_, _, _, _, _]) de_Ar_fill_AJJV_4 (Nat.le_of_ble_eq_true rfl) rfl ?_
  refine ev_world (w' := w.set o (ab_al n (ab_fv f v ((0 : Nat) : Int)))) (by rw [show (((0 : Nat) : Int)) = 0 from rfl, ab_fv0, ab_s0 hw]) ?_
  exact lp_Ar_fill_AJJV w o n f v hw hn (n + 1) 0 (by omega) (by omega)
end
section
/-! the law's walk: a judgement with the script beside the world; its end is 1 on the stack -/
def ab_wl (G : ab_G) : List Cond := G.2.1
def ab_Fl (G : ab_G) (rs : List String) (M : ab_M) (d : Nat) (p : Program) (R : Room) (s : State) (m : MethodId) (args : Array Value) (meth : Method) (c : Code) (D : va_G) (dA : Nat → ClassId) (aK aV : Nat → Nat) (A : Nat → Prop) : Prop :=
  p.tables.exec = Jvm.exec ∧ c.code = M.2.1 ∧ c.maxLocals = M.2.2.1 ∧ True ∧ True ∧ s.vm.findClass M.1.cls = some m.cls ∧ True ∧ (∀ x ∈ ab_wl G, x.before args s = true) ∧ d ≤ R.frames ∧ 60 * d ≤ R.locals ∧ ab_Cx G rs D dA aK aV A s s.heap ∧ ∀ q, s.heap.size ≤ q → A q
def ab_Xs (b L : Nat) (xs : Nat → Int32) (G : ab_G) (aK as : Nat → Nat) (s : State) (A : Nat → Prop) : Prop := (∀ i, i < G.2.2.2.2.1.length → as (ab_sb + i) = aK i) ∧ as (ab_sb + 1000) = b ∧ va_X b L xs s s.heap ∧ b < s.heap.size ∧ ¬ A b
def ab_Ex (b L : Nat) (xs : Nat → Int32) (G : ab_G) (rs : List String) (M : ab_M) (d bc bs : Nat) (pc : Nat) (l : ab_L) (st : List ab_V) (w : ab_W) (_ : Unit) : Prop :=
  ∀ (p : Program) (la : Launch) (e : Env) (R : Room) (s : State) (m : MethodId) (args : Array Value) (below : List Frame) (meth : Method) (c : Code) (H : Heap) (locs : List Loc) (cells slots : Nat) (D : va_G) (dA : Nat → ClassId) (aK aV as : Nat → Nat) (A : Nat → Prop) (ls : Array Slot) (Qz : State → Prop),
    ab_Fl G rs M d p R s m args meth c D dA aK aV A → ab_Xs b L xs G aK as s A → va_P D G.1 (ab_cw dA as w) H → va_D A (ab_cw dA as w) → va_S A s.heap H locs → ab_lo as ls M.2.2.1 l → cells + bc ≤ R.cells → slots + bs ≤ R.slots →
    (∀ (pc : Nat) (ls : Array Slot) (H : Heap) (locs : List Loc) (cells slots : Nat), decode M.2.1 pc = .ok (.ireturn, 1) → va_S A s.heap H locs → cells ≤ R.cells → slots ≤ R.slots → W p la e R s m args below meth c H locs cells slots Qz (F0 m pc ls [.int 1])) →
    W p la e R s m args below meth c H locs cells slots Qz (F0 m pc ls (st.map (ab_cv as)))
section EXA
variable {b L : Nat} {xs : Nat → Int32} {G : ab_G} {rs : List String} {M : ab_M} {d bc bs pc : Nat} {l l' : ab_L} {st : List ab_V} {w w' : ab_W} {Q : Unit}
theorem ex_top {a c : ab_V} (h : a = c) (k : ab_Ex b L xs G rs M d bc bs pc l (c :: st) w Q) : ab_Ex b L xs G rs M d bc bs pc l (a :: st) w Q := by rw [h]; exact k
theorem ex_world (h : w = w') (k : ab_Ex b L xs G rs M d bc bs pc l st w' Q) : ab_Ex b L xs G rs M d bc bs pc l st w Q := by rw [h]; exact k
theorem ex_loc (h : l = l') (k : ab_Ex b L xs G rs M d bc bs pc l' st w Q) : ab_Ex b L xs G rs M d bc bs pc l st w Q := by rw [h]; exact k
theorem ax_go {pc' : Nat} {st st' : List ab_V}
    (h : ∀ {p : Program} {la : Launch} {e : Env} {R : Room} {s : State} {m : MethodId} {args : Array Value} {below : List Frame} {meth : Method} {c : Code} {H : Heap} {locs : List Loc} {cells slots : Nat} {Qz : State → Prop} {ls : Array Slot} (as : Nat → Nat), p.tables.exec = Jvm.exec → c.code = M.2.1 → s.vm.findClass M.1.cls = some m.cls → (∀ x ∈ ab_wl G, x.before args s = true) → ab_lo as ls M.2.2.1 l →
      W p la e R s m args below meth c H locs cells slots Qz (F0 m pc' ls (st'.map (ab_cv as))) → W p la e R s m args below meth c H locs cells slots Qz (F0 m pc ls (st.map (ab_cv as))))
    (k : ab_Ex b L xs G rs M d bc bs pc' l st' w Q) : ab_Ex b L xs G rs M d bc bs pc l st w Q := by
  intro p la e R s m args below meth c H locs cells slots D dA aK aV as A ls Qz hF hs hP hD hS hl h1 h2 hR
  exact h as hF.1 hF.2.1 hF.2.2.2.2.2.1 hF.2.2.2.2.2.2.2.1 hl (k p la e R s m args below meth c H locs cells slots D dA aK aV as A ls Qz hF hs hP hD hS hl h1 h2 hR)
theorem ax_go2 {pc1 pc2 : Nat} {st st' : List ab_V} {C : Prop}
    (h : ∀ {p : Program} {la : Launch} {e : Env} {R : Room} {s : State} {m : MethodId} {args : Array Value} {below : List Frame} {meth : Method} {c : Code} {H : Heap} {locs : List Loc} {cells slots : Nat} {Qz : State → Prop} {ls : Array Slot} (as : Nat → Nat), p.tables.exec = Jvm.exec → c.code = M.2.1 →
      (C → W p la e R s m args below meth c H locs cells slots Qz (F0 m pc1 ls (st'.map (ab_cv as)))) → (¬ C → W p la e R s m args below meth c H locs cells slots Qz (F0 m pc2 ls (st'.map (ab_cv as)))) → W p la e R s m args below meth c H locs cells slots Qz (F0 m pc ls (st.map (ab_cv as))))
    (k1 : C → ab_Ex b L xs G rs M d bc bs pc1 l st' w Q) (k2 : ¬ C → ab_Ex b L xs G rs M d bc bs pc2 l st' w Q) : ab_Ex b L xs G rs M d bc bs pc l st w Q := by
  intro p la e R s m args below meth c H locs cells slots D dA aK aV as A ls Qz hF hs hP hD hS hl h1 h2 hR
  exact h as hF.1 hF.2.1 (fun q => k1 q p la e R s m args below meth c H locs cells slots D dA aK aV as A ls Qz hF hs hP hD hS hl h1 h2 hR) (fun q => k2 q p la e R s m args below meth c H locs cells slots D dA aK aV as A ls Qz hF hs hP hD hS hl h1 h2 hR)
theorem ax_gol {pc' : Nat} {st st' : List ab_V}
    (h : ∀ {p : Program} {la : Launch} {e : Env} {R : Room} {s : State} {m : MethodId} {args : Array Value} {below : List Frame} {meth : Method} {c : Code} {H : Heap} {locs : List Loc} {cells slots : Nat} {Qz : State → Prop} {ls : Array Slot} (as : Nat → Nat), p.tables.exec = Jvm.exec → c.code = M.2.1 → ab_lo as ls M.2.2.1 l →
      (∀ ls' : Array Slot, ab_lo as ls' M.2.2.1 l' → W p la e R s m args below meth c H locs cells slots Qz (F0 m pc' ls' (st'.map (ab_cv as)))) → W p la e R s m args below meth c H locs cells slots Qz (F0 m pc ls (st.map (ab_cv as))))
    (k : ab_Ex b L xs G rs M d bc bs pc' l' st' w Q) : ab_Ex b L xs G rs M d bc bs pc l st w Q := by
  intro p la e R s m args below meth c H locs cells slots D dA aK aV as A ls Qz hF hs hP hD hS hl h1 h2 hR
  exact h as hF.1 hF.2.1 hl (fun ls' hl' => k p la e R s m args below meth c H locs cells slots D dA aK aV as A ls' Qz hF hs hP hD hS hl' h1 h2 hR)
theorem ex_iconst {n : Int} (hd : decode M.2.1 pc = .ok (.iconst n, 1)) (k : ab_Ex b L xs G rs M d bc bs (pc + 1) l (.inl n :: st) w Q) : ab_Ex b L xs G rs M d bc bs pc l st w Q := ax_go (fun _ hx hb _ _ _ kk => lv_iconst hx hb hd rfl kk) k
theorem ex_bipush {n : Int} (hd : decode M.2.1 pc = .ok (.bipush n, 2)) (hn : (Int8.ofInt n).toInt32 = Int32.ofInt n) (k : ab_Ex b L xs G rs M d bc bs (pc + 2) l (.inl n :: st) w Q) : ab_Ex b L xs G rs M d bc bs pc l st w Q := ax_go (fun _ hx hb _ _ _ kk => lv_bipush hx hb hd hn kk) k
theorem ex_iload_n {k : Fin 4} {i : Nat} {a : Int} (hd : decode M.2.1 pc = .ok (.iload_n k, 1)) (hi : (k : Nat) = i) (hl : l[i]? = some (some (.inl a))) (kk : ab_Ex b L xs G rs M d bc bs (pc + 1) l (.inl a :: st) w Q) : ab_Ex b L xs G rs M d bc bs pc l st w Q := ax_go (fun _ hx hb _ _ hL kk => lv_iload_n hx hb hd hi (hL.at hl) kk) kk
theorem ex_aload_n {k : Fin 4} {i : Nat} {a : Nat} (hd : decode M.2.1 pc = .ok (.aload_n k, 1)) (hi : (k : Nat) = i) (hl : l[i]? = some (some (.inr (.inr (some a))))) (kk : ab_Ex b L xs G rs M d bc bs (pc + 1) l (.inr (.inr (some a)) :: st) w Q) : ab_Ex b L xs G rs M d bc bs pc l st w Q := ax_go (fun _ hx hb _ _ hL kk => lv_aload_n hx hb hd hi (hL.at hl) kk) kk
theorem ex_iadd {a c : Int} (hd : decode M.2.1 pc = .ok (.iadd, 1)) (k : ab_Ex b L xs G rs M d bc bs (pc + 1) l (.inl (a + c) :: st) w Q) : ab_Ex b L xs G rs M d bc bs pc l (.inl c :: .inl a :: st) w Q := ax_go (fun _ hx hb _ _ _ kk => lv_iadd hx hb hd (by rw [← Int32.ofInt_add]; exact kk)) k
theorem ex_isub {a c : Int} (hd : decode M.2.1 pc = .ok (.isub, 1)) (k : ab_Ex b L xs G rs M d bc bs (pc + 1) l (.inl (a - c) :: st) w Q) : ab_Ex b L xs G rs M d bc bs pc l (.inl c :: .inl a :: st) w Q := ax_go (fun _ hx hb _ _ _ kk => lv_isub hx hb hd (by rw [← Int32.ofInt_sub]; exact kk)) k
theorem ex_iand {a c : Int} (hd : decode M.2.1 pc = .ok (.iand, 1)) (k : ab_Ex b L xs G rs M d bc bs (pc + 1) l (.inl (ab_iand a c) :: st) w Q) : ab_Ex b L xs G rs M d bc bs pc l (.inl c :: .inl a :: st) w Q := ax_go (fun _ hx hb _ _ _ kk => lv_iand hx hb hd (by rw [← ab_of (Int32.ofInt a &&& Int32.ofInt c)]; exact kk)) k
theorem ex_dup {v : ab_V} (hd : decode M.2.1 pc = .ok (.dup, 1)) (hv : ab_c1 v = true) (k : ab_Ex b L xs G rs M d bc bs (pc + 1) l (v :: v :: st) w Q) : ab_Ex b L xs G rs M d bc bs pc l (v :: st) w Q := ax_go (fun _ hx hb _ _ _ kk => lv_dup hx hb hd (ab_cat hv) kk) k
theorem ex_goto {off : Int} {tgt : Nat} (hd : decode M.2.1 pc = .ok (.goto off, 3)) (ht : (pc : Int) + off = (tgt : Int)) (k : ab_Ex b L xs G rs M d bc bs tgt l st w Q) : ab_Ex b L xs G rs M d bc bs pc l st w Q := ax_go (fun _ hx hb _ _ _ kk => lv_goto hx hb hd ht kk) k
theorem ex_icmp_eq {a c : Int} {off : Int} {tgt : Nat} (hd : decode M.2.1 pc = .ok (.if_icmp .eq off, 3)) (ht : (pc : Int) + off = (tgt : Int)) (ha : ab_in a) (hb : ab_in c) (k1 : a = c → ab_Ex b L xs G rs M d bc bs tgt l st w Q) (k2 : ¬ (a = c) → ab_Ex b L xs G rs M d bc bs (pc + 3) l st w Q) : ab_Ex b L xs G rs M d bc bs pc l (.inl c :: .inl a :: st) w Q := ax_go2 (fun _ hx hc q1 q2 => lv_icmp_eq hx hc hd ht (fun h => q1 ((ab_eq ha hb).mp h)) (fun h => q2 (fun z => h ((ab_eq ha hb).mpr z)))) k1 k2
theorem ex_icmp_ne {a c : Int} {off : Int} {tgt : Nat} (hd : decode M.2.1 pc = .ok (.if_icmp .ne off, 3)) (ht : (pc : Int) + off = (tgt : Int)) (ha : ab_in a) (hb : ab_in c) (k1 : ¬ a = c → ab_Ex b L xs G rs M d bc bs tgt l st w Q) (k2 : a = c → ab_Ex b L xs G rs M d bc bs (pc + 3) l st w Q) : ab_Ex b L xs G rs M d bc bs pc l (.inl c :: .inl a :: st) w Q := ax_go2 (C := ¬ a = c) (fun _ hx hc q1 q2 => lv_icmp_ne hx hc hd ht (fun h => q1 (fun z => h ((ab_eq ha hb).mpr z))) (fun h => q2 (fun z => z ((ab_eq ha hb).mp h)))) k1 (fun z => k2 (Decidable.of_not_not z))
theorem ex_icmp_gt {a c : Int} {off : Int} {tgt : Nat} (hd : decode M.2.1 pc = .ok (.if_icmp .gt off, 3)) (ht : (pc : Int) + off = (tgt : Int)) (ha : ab_in a) (hb : ab_in c) (k1 : c < a → ab_Ex b L xs G rs M d bc bs tgt l st w Q) (k2 : ¬ (c < a) → ab_Ex b L xs G rs M d bc bs (pc + 3) l st w Q) : ab_Ex b L xs G rs M d bc bs pc l (.inl c :: .inl a :: st) w Q := ax_go2 (fun _ hx hc q1 q2 => lv_icmp_gt hx hc hd ht (fun h => q1 ((ab_lt hb ha).mp h)) (fun h => q2 (fun z => h ((ab_lt hb ha).mpr z)))) k1 k2
theorem ex_icmp_le {a c : Int} {off : Int} {tgt : Nat} (hd : decode M.2.1 pc = .ok (.if_icmp .le off, 3)) (ht : (pc : Int) + off = (tgt : Int)) (ha : ab_in a) (hb : ab_in c) (k1 : a ≤ c → ab_Ex b L xs G rs M d bc bs tgt l st w Q) (k2 : ¬ (a ≤ c) → ab_Ex b L xs G rs M d bc bs (pc + 3) l st w Q) : ab_Ex b L xs G rs M d bc bs pc l (.inl c :: .inl a :: st) w Q := ax_go2 (fun _ hx hc q1 q2 => lv_icmp_le hx hc hd ht (fun h => q1 ((ab_le ha hb).mp h)) (fun h => q2 (fun z => h ((ab_le ha hb).mpr z)))) k1 k2
theorem ex_if_eq {a : Int} {off : Int} {tgt : Nat} (hd : decode M.2.1 pc = .ok (.ifCond .eq off, 3)) (ht : (pc : Int) + off = (tgt : Int)) (ha : ab_in a) (k1 : a = 0 → ab_Ex b L xs G rs M d bc bs tgt l st w Q) (k2 : ¬ (a = 0) → ab_Ex b L xs G rs M d bc bs (pc + 3) l st w Q) : ab_Ex b L xs G rs M d bc bs pc l (.inl a :: st) w Q := ax_go2 (fun _ hx hc q1 q2 => lv_if_eq hx hc hd ht (fun h => q1 ((ab_eq ha ab_in0).mp h)) (fun h => q2 (fun z => h ((ab_eq ha ab_in0).mpr z)))) k1 k2
theorem ex_if_ne {a : Int} {off : Int} {tgt : Nat} (hd : decode M.2.1 pc = .ok (.ifCond .ne off, 3)) (ht : (pc : Int) + off = (tgt : Int)) (ha : ab_in a) (k1 : ¬ a = 0 → ab_Ex b L xs G rs M d bc bs tgt l st w Q) (k2 : a = 0 → ab_Ex b L xs G rs M d bc bs (pc + 3) l st w Q) : ab_Ex b L xs G rs M d bc bs pc l (.inl a :: st) w Q := ax_go2 (C := ¬ a = 0) (fun _ hx hc q1 q2 => lv_if_ne hx hc hd ht (fun h => q1 (fun z => h ((ab_eq ha ab_in0).mpr z))) (fun h => q2 (fun z => z ((ab_eq ha ab_in0).mp h)))) k1 (fun z => k2 (Decidable.of_not_not z))
theorem ex_tableIn {dflt lo hi : Int} {offs : Array Int} {len : Nat} {a off : Int} {tgt : Nat} (hd : decode M.2.1 pc = .ok (.tableswitch dflt lo hi offs, len)) (ha : ab_in a) (h1 : ¬ a < lo) (h2 : ¬ hi < a) (ho : offs[(a - lo).toNat]? = some off) (ht : (pc : Int) + off = (tgt : Int)) (k : ab_Ex b L xs G rs M d bc bs tgt l st w Q) : ab_Ex b L xs G rs M d bc bs pc l (.inl a :: st) w Q := ax_go (fun _ hx hb _ _ _ kk => lv_tableIn hx hb hd (by rw [ab_ti ha]; exact h1) (by rw [ab_ti ha]; exact h2) (by rw [ab_ti ha]; exact ho) ht kk) k
theorem ex_tableOut {dflt lo hi : Int} {offs : Array Int} {len : Nat} {a : Int} {tgt : Nat} (hd : decode M.2.1 pc = .ok (.tableswitch dflt lo hi offs, len)) (ha : ab_in a) (h : a < lo ∨ hi < a) (ht : (pc : Int) + dflt = (tgt : Int)) (k : ab_Ex b L xs G rs M d bc bs tgt l st w Q) : ab_Ex b L xs G rs M d bc bs pc l (.inl a :: st) w Q := ax_go (fun _ hx hb _ _ _ kk => lv_tableOut hx hb hd (by rw [ab_ti ha]; exact h) ht kk) k
theorem ex_istore_n {k : Fin 4} {i : Nat} {a : Int} (hd : decode M.2.1 pc = .ok (.istore_n k, 1)) (hi : (k : Nat) = i) (hn : i < l.length) (hl : ab_s1 l i (.inl a) = l') (kk : ab_Ex b L xs G rs M d bc bs (pc + 1) l' st w Q) : ab_Ex b L xs G rs M d bc bs pc l (.inl a :: st) w Q := ax_gol (fun _ hx hb hL kk => by
  obtain ⟨h1, lv, h2, h3⟩ := hL
  subst hl
  exact lv_istore_n hx hb hd hi h2 (by omega) rfl (fun ls' h' => kk ls' (ab_lo_s1 h1 h3 h'))) kk
theorem ex_astore_n {k : Fin 4} {i : Nat} {a : Nat} (hd : decode M.2.1 pc = .ok (.astore_n k, 1)) (hi : (k : Nat) = i) (hn : i < l.length) (hl : ab_s1 l i (.inr (.inr (some a))) = l') (kk : ab_Ex b L xs G rs M d bc bs (pc + 1) l' st w Q) : ab_Ex b L xs G rs M d bc bs pc l (.inr (.inr (some a)) :: st) w Q := ax_gol (fun _ hx hb hL kk => by
  obtain ⟨h1, lv, h2, h3⟩ := hL
  subst hl
  exact lv_astore_n hx hb hd hi h2 (by omega) rfl (fun ls' h' => kk ls' (ab_lo_s1 h1 h3 h'))) kk
theorem ex_iinc {i : Nat} {n a : Int} (hd : decode M.2.1 pc = .ok (.iinc i n, 3)) (hi : l[i]? = some (some (.inl a))) (hl : ab_s1 l i (.inl (a + n)) = l') (kk : ab_Ex b L xs G rs M d bc bs (pc + 3) l' st w Q) : ab_Ex b L xs G rs M d bc bs pc l st w Q := ax_gol (fun as hx hb hL kk => by
  obtain ⟨h1, lv, h2, h3⟩ := hL
  subst hl
  have hm := h3 i _ hi
  obtain ⟨k, hk⟩ := List.getElem?_of_mem hm
  have hlt : i < l.length := (List.getElem?_eq_some_iff.mp hi).1
  exact lv_iinc hx hb hd h2 hk (Int32.ofInt_add a n).symm (by omega) rfl (fun ls' h' => kk ls' (ab_lo_s1 h1 h3 h'))) kk
theorem ex_ireturn (hd : decode M.2.1 pc = .ok (.ireturn, 1)) : ab_Ex b L xs G rs M d bc bs pc l [.inl 1] w Q := by
  intro p la e R s m args below meth c H locs cells slots D dA aK aV as A ls Qz hF hs hP hD hS hl h1 h2 hR
  exact hR pc ls H locs cells slots hd hS (by omega) (by omega)
theorem ex_slen (hd : decode M.2.1 pc = .ok (.arraylength, 1)) (kk : ab_Ex b L xs G rs M d bc bs (pc + 1) l (.inl (L : Int) :: st) w Q) : ab_Ex b L xs G rs M d bc bs pc l (.inr (.inr (some (ab_sb + 1000))) :: st) w Q := by
  intro p la e R s m args below meth c H locs cells slots D dA aK aV as A ls Qz hF hs hP hD hS hl h1 h2 hR
  have k := kk p la e R s m args below meth c H locs cells slots D dA aK aV as A ls Qz hF hs hP hD hS hl h1 h2 hR
  obtain ⟨-, hb, hX, hlt, hnA⟩ := hs
  show W p la e R s m args below meth c H locs cells slots Qz (F0 m pc ls (.ref (as (ab_sb + 1000)) :: _))
  rw [hb]
  exact va_slen hF.1 hF.2.1 hX hlt hnA hS hd k
theorem ex_sld {j a : Int} (hd : decode M.2.1 pc = .ok (.iaload, 1)) (h0 : 0 ≤ j) (hn : j < L) (hj : ab_in j) (ha : (xs j.toNat).toInt = a) (kk : ab_Ex b L xs G rs M d bc bs (pc + 1) l (.inl a :: st) w Q) : ab_Ex b L xs G rs M d bc bs pc l (.inl j :: .inr (.inr (some (ab_sb + 1000))) :: st) w Q := by
  intro p la e R s m args below meth c H locs cells slots D dA aK aV as A ls Qz hF hs hP hD hS hl h1 h2 hR
  have k := kk p la e R s m args below meth c H locs cells slots D dA aK aV as A ls Qz hF hs hP hD hS hl h1 h2 hR
  obtain ⟨-, hb, hX, hlt, hnA⟩ := hs
  show W p la e R s m args below meth c H locs cells slots Qz (F0 m pc ls (.int (Int32.ofInt j) :: .ref (as (ab_sb + 1000)) :: _))
  rw [hb]
  refine va_sld hF.1 hF.2.1 hX hlt hnA hS (ab_ix h0 hn hj) hd ?_
  rw [ab_tn hj]
  have e1 : xs j.toNat = Int32.ofInt a := by rw [← ha, ab_of]
  rw [e1]
  exact k
theorem ab_Pl_at {p : Program} {R : Room} {s : State} {m : MethodId} {args : Array Value} {meth : Method} {c : Code} {D : va_G} {dA : Nat → ClassId} {aK aV as : Nat → Nat} {A : Nat → Prop} {H : Heap} {locs : List Loc} {av : List Value} (hF : ab_Fl G rs M d p R s m args meth c D dA aK aV A) (hP : va_P D G.1 (ab_cw dA as w) H) (hD : va_D A (ab_cw dA as w)) (hS : va_S A s.heap H locs) : ∀ U : State, U.heap = H → s.WarmedH U.vm → va_Pc av (ab_Pc G rs D dA aK aV as w H.size) av.toArray U := by
  intro U hU hW
  obtain ⟨-, -, -, -, -, -, -, -, -, -, hC, hA⟩ := hF
  refine ⟨rfl, by rw [hU], by rw [hU]; exact hP, hD.weaken (fun _ _ _ _ => trivial), ?_⟩
  rw [hU]
  exact hC.warm hW hS.2.1 (ab_sub hD hS hA)
theorem ax_after {Q1 : Option ab_V → ab_W → Prop} {mc ms : Nat} {p : Program} {la : Launch} {e : Env} {R : Room} {s : State} {m : MethodId} {args : Array Value} {below : List Frame} {meth : Method} {c : Code} {H : Heap} {locs : List Loc} {cells slots : Nat} {D : va_G} {dA : Nat → ClassId} {aK aV as : Nat → Nat} {A : Nat → Prop} {ls : Array Slot} {Qz : State → Prop} {st0 : List Value} {a : Array Value}
    (hF : ab_Fl G rs M d p R s m args meth c D dA aK aV A) (hs : ab_Xs b L xs G aK as s A) (_hP : va_P D G.1 (ab_cw dA as w) H) (hD : va_D A (ab_cw dA as w)) (hS : va_S A s.heap H locs) (hl : ab_lo as ls M.2.2.1 l) (h1 : cells + (bc + mc) ≤ R.cells) (h2 : slots + (bs + ms) ≤ R.slots)
    (hR : ∀ (pc : Nat) (ls : Array Slot) (H : Heap) (locs : List Loc) (cells slots : Nat), decode M.2.1 pc = .ok (.ireturn, 1) → va_S A s.heap H locs → cells ≤ R.cells → slots ≤ R.slots → W p la e R s m args below meth c H locs cells slots Qz (F0 m pc ls [.int 1]))
    (hrun : va_Run p la e R s m args below meth c H locs cells slots mc ms (F0 m pc ls st0) (st.map (ab_cv as)) (ab_Qc G D dA as w H.size Q1 a) (va_A (ab_cw dA as w) H.size))
    (hok : (∀ r w1, Q1 r w1 → w1.length = w.length) ∨ (ab_okL w.length l ∧ ab_okS w.length st))
    (kk : ∀ r w1, Q1 r w1 → ab_Ex b L xs G rs M d bc bs (pc + 3) l (r.toList ++ st) w1 Q) : W p la e R s m args below meth c H locs cells slots Qz (F0 m pc ls st0) := by
  have hA := hF.2.2.2.2.2.2.2.2.2.2.2
  have hsub := ab_sub hD hS hA
  intro T hT X
  obtain ⟨v, st₀, t, T', L1, h0, X', hL, e1, e2, ⟨⟨r, w1, as1, q1, q2, q3, q4, q5, q6, q7⟩, hz, hk⟩, stp⟩ := hrun T hT X
  cases q5
  rw [h0] at hz hk
  have hlo : ab_lo as1 ls M.2.2.1 l ∧ st.map (ab_cv as1) = st.map (ab_cv as) := by
    rcases hok with h | h
    · rw [q4 (h r w1 q1)]
      exact ⟨hl, rfl⟩
    · exact ⟨ab_ok_lo h.1 q3 hl, ab_ok_map h.2 q3⟩
  have hS1 : va_S A s.heap T'.heap (locs ++ L1) := ⟨Nat.le_trans hS.1 (by rw [e1]; exact hz), fun q g1 g2 => by rw [e1, hk q (Nat.lt_of_lt_of_le g1 hS.1) (fun z => g2 (hsub q z))]; exact hS.2.1 q g1 g2, fun q hq => by
      rcases List.mem_append.mp hq with h | h
      · exact hS.2.2 q h
      · exact hsub _ (hL q h)⟩
  have hs1 : ab_Xs b L xs G aK as1 s A := ⟨fun i hi => by rw [q3 _ (Or.inr (Nat.le_add_right _ _))]; exact hs.1 i hi, by rw [q3 _ (Or.inr (Nat.le_add_right _ _))]; exact hs.2.1, hs.2.2⟩
  obtain ⟨t2, a1, b1⟩ := kk r w1 q1 p la e R s m args below meth c T'.heap (locs ++ L1) (cells + mc) (slots + ms) D dA aK aV as1 A ls Qz hF hs1 (by rw [e1]; exact q6) (q7.weaken (fun k q _ h => hsub q.1 h)) hS1 hlo.1 (by omega) (by omega) hR T' rfl X'
  refine ⟨t2, stp t2 ?_, b1⟩
  have e3 : (r.map (ab_cv as1)).toList ++ st.map (ab_cv as) = (r.toList ++ st).map (ab_cv as1) := by
    rw [← hlo.2]
    cases r <;> simp
  show Steps p.tables e below (T'.setTop (F0 m (pc + 3) ls ((r.map (ab_cv as1)).toList ++ st.map (ab_cv as)))) t2
  rw [e3]
  exact a1
theorem ax_kgood {own : String} {idx n : Nat} {cm : ab_M} (h : ab_kb G own idx cm n) : GoodIn (ab_wl G) (ab_ws G cm) := by
  intro x hx
  rcases List.mem_cons.mp hx with rfl | hx
  · exact ⟨h.2.1, good_of_word (h.1 _ h.2.1)⟩
  · exact ⟨hx, good_of_word (h.1 _ hx)⟩
theorem ex_virtual {cm : ab_M} {idx d' mc ms o ci N : Nat} {T : u_T} {fs av st0 : List ab_V} {Q1 : Option ab_V → ab_W → Prop} (hd : decode M.2.1 pc = .ok (.invokevirtual idx, 3)) (hm : ab_Mt G rs cm d' mc ms (.inr (.inr (some o)) :: av) w Q1) (hk : ab_kb G M.1.cls idx cm av.length) (hst : Cond.instanceMethod cm.1 ∈ G.2.1 ∧ Cond.selects cm.1.cls cm.1 cm.1 ∈ G.2.1) (hcl : G.1[ci]? = some (cm.1.cls, T, N)) (hwo : w[o]? = some (ab_ob ci fs)) (h0 : st0 = av.reverse ++ .inr (.inr (some o)) :: st) (hw : ab_wd st ≤ 8) (hdd : d' + 1 ≤ d) (hok : (∀ r w1, Q1 r w1 → w1.length = w.length) ∨ (ab_okL w.length l ∧ ab_okS w.length st))
    (kk : ∀ r w1, Q1 r w1 → ab_Ex b L xs G rs M d bc bs (pc + 3) l (r.toList ++ st) w1 Q) : ab_Ex b L xs G rs M d (bc + mc) (bs + ms) pc l st0 w Q := by
  intro p la e R s m args below meth c H locs cells slots D dA aK aV as A ls Qz hF hs hP hD hS hl h1 h2 hR
  refine ax_after (a := (Value.ref (as o) :: av.map (ab_cv as)).toArray) hF hs hP hD hS hl h1 h2 hR ?_ hok kk
  have hF' := hF
  obtain ⟨hx, hb, hml, -, -, ho, -, ht, hfr, hlc, hC, hA⟩ := hF'
  have hM := hm la D dA aK aV as H.size hs.1
  have hpre : PreV s H cm.1.cls (as o) (va_Pc ((Sum.inr (Sum.inr (some o)) :: av).map (ab_cv as)) (ab_Pc G rs D dA aK aV as w H.size)) (av.map (ab_cv as)) := ⟨ab_Pc_blind, va_recv (q := (cm.1.cls, T, N)) hC.1 hP hcl (ab_cw_get hwo), ab_Pl_at hF hP hD hS⟩
  have hrm : (ab_rm d' mc ms).frames + 1 ≤ R.frames ∧ 8 + (cm.2.2.1 + 11) + (ab_rm d' mc ms).locals ≤ R.locals := by
    have := hk.2.2.2.2.2
    show d' + 1 ≤ R.frames ∧ 8 + (cm.2.2.1 + 11) + 60 * d' ≤ R.locals
    omega
  have hstk : st0.map (ab_cv as) = (av.map (ab_cv as)).reverse ++ Value.ref (as o) :: st.map (ab_cv as) := by rw [h0]; simp [ab_cv]
  have hwd : 2 * (F0 m pc ls (st0.map (ab_cv as))).monitorRoom + ((st.map (ab_cv as)).map fun v => v.category).sum ≤ 8 := lv_room (by rw [ab_wsum]; exact hw)
  have hsz : (F0 m pc ls (st0.map (ab_cv as))).locals.size = M.2.2.1 := by obtain ⟨-, lv, z, -⟩ := hl; exact z.1
  rcases hk.2.2.2.1 with hlk | ⟨h, hlk⟩
  · exact va_runV (C := cm.1.cls) ⟨hx, hb, hml, ho, ht⟩ hM ⟨callB_of av.length ht (ax_kgood hk) rfl rfl rfl (ht _ hk.2.2.1) (ht _ hlk) hk.2.2.2.2.1 hrm, ht _ hst.1, ht _ hst.2⟩ hpre rfl (List.length_map ..) hsz hstk hwd hd ⟨by omega, by omega⟩
  · exact va_runVN (C := cm.1.cls) ⟨hx, hb, hml, ho, ht⟩ hM ⟨va_cnB av.length ht (ax_kgood hk) rfl rfl rfl (hC.2.2.1 _ hlk) (ht _ hk.2.2.1) hk.2.2.2.2.1 hrm, ht _ hst.1, ht _ hst.2⟩ hpre rfl (List.length_map ..) hsz hstk hwd hd ⟨by omega, by omega⟩
theorem ex_special {cm : ab_M} {idx d' mc ms o : Nat} {av st0 : List ab_V} {Q1 : Option ab_V → ab_W → Prop} (hd : decode M.2.1 pc = .ok (.invokespecial idx, 3)) (hm : ab_Mt G rs cm d' mc ms (.inr (.inr (some o)) :: av) w Q1) (hk : ab_kb G M.1.cls idx cm av.length) (hst : Cond.instanceMethod cm.1 ∈ G.2.1 ∧ cm.1.name = "<init>" ∧ cm.2.2.2 = none) (h0 : st0 = av.reverse ++ .inr (.inr (some o)) :: st) (hw : ab_wd st ≤ 8) (hdd : d' + 1 ≤ d) (hok : (∀ r w1, Q1 r w1 → w1.length = w.length) ∨ (ab_okL w.length l ∧ ab_okS w.length st))
    (kk : ∀ r w1, Q1 r w1 → ab_Ex b L xs G rs M d bc bs (pc + 3) l (r.toList ++ st) w1 Q) : ab_Ex b L xs G rs M d (bc + mc) (bs + ms) pc l st0 w Q := by
  intro p la e R s m args below meth c H locs cells slots D dA aK aV as A ls Qz hF hs hP hD hS hl h1 h2 hR
  refine ax_after (a := (Value.ref (as o) :: av.map (ab_cv as)).toArray) hF hs hP hD hS hl h1 h2 hR ?_ hok kk
  have hF' := hF
  obtain ⟨hx, hb, hml, -, -, ho, -, ht, hfr, hlc, hC, hA⟩ := hF'
  have hM := hm la D dA aK aV as H.size hs.1
  have hpre : PreS s H (va_Pc ((Sum.inr (Sum.inr (some o)) :: av).map (ab_cv as)) (ab_Pc G rs D dA aK aV as w H.size)) (Value.ref (as o) :: av.map (ab_cv as)) := ⟨ab_Pc_blind, ab_Pl_at hF hP hD hS⟩
  have hrm : (ab_rm d' mc ms).frames + 1 ≤ R.frames ∧ 8 + (cm.2.2.1 + 11) + (ab_rm d' mc ms).locals ≤ R.locals := by
    have := hk.2.2.2.2.2
    show d' + 1 ≤ R.frames ∧ 8 + (cm.2.2.1 + 11) + 60 * d' ≤ R.locals
    omega
  have hstk : st0.map (ab_cv as) = (av.map (ab_cv as)).reverse ++ Value.ref (as o) :: st.map (ab_cv as) := by rw [h0]; simp [ab_cv]
  have hwd : 2 * (F0 m pc ls (st0.map (ab_cv as))).monitorRoom + ((st.map (ab_cv as)).map fun v => v.category).sum ≤ 8 := lv_room (by rw [ab_wsum]; exact hw)
  have hsz : (F0 m pc ls (st0.map (ab_cv as))).locals.size = M.2.2.1 := by obtain ⟨-, lv, z, -⟩ := hl; exact z.1
  have hkc := callB_of (R := R) (rm := ab_rm d' mc ms) (mc := mc) (ms := ms) (own := M.1.cls) (index := idx) (y := cm.1) (bytes := cm.2.1) (maxL := cm.2.2.1) (ret := cm.2.2.2) (ws := ab_ws G cm) (ws' := G.2.1) av.length ht (ax_kgood hk) rfl rfl rfl (ht _ hk.2.2.1)
  have hkn := fun host => va_cnB (R := R) (rm := ab_rm d' mc ms) (mc := mc) (ms := ms) (own := M.1.cls) (index := idx) (host := host) (y := cm.1) (bytes := cm.2.1) (maxL := cm.2.2.1) (ret := cm.2.2.2) (ws := ab_ws G cm) (ws' := G.2.1) av.length ht (ax_kgood hk) rfl rfl rfl
  rw [hst.2.2] at hkc hkn
  rcases hk.2.2.2.1 with hlk | ⟨h, hlk⟩
  · exact va_runI ⟨hx, hb, hml, ho, ht⟩ hM ⟨hkc (ht _ hlk) hk.2.2.2.2.1 hrm, hst.2.1, ht _ hst.1⟩ hpre rfl (List.length_map ..) hsz hstk hwd hd ⟨by omega, by omega⟩
  · exact va_runIN ⟨hx, hb, hml, ho, ht⟩ hM ⟨hkn h (hC.2.2.1 _ hlk) (ht _ hk.2.2.1) hk.2.2.2.2.1 hrm, hst.2.1, ht _ hst.1⟩ hpre rfl (List.length_map ..) hsz hstk hwd hd ⟨by omega, by omega⟩
theorem ax_grow {E : ab_E} {pc' : Nat} (hlt : w.length < ab_sb) (hW : ab_okW w) (hE : ab_okE w.length E) (hL : ab_okL w.length l) (hSt : ab_okS w.length st) (kk : ab_Ex b L xs G rs M d bc bs pc' l (.inr (.inr (some w.length)) :: st) (w ++ [E]) Q)
    {p : Program} {la : Launch} {e : Env} {R : Room} {s : State} {m : MethodId} {args : Array Value} {below : List Frame} {meth : Method} {c : Code} {locs : List Loc} {cells slots : Nat} {D : va_G} {dA : Nat → ClassId} {aK aV as : Nat → Nat} {A : Nat → Prop} {ls : Array Slot} {Qz : State → Prop}
    (hF : ab_Fl G rs M d p R s m args meth c D dA aK aV A) (hs : ab_Xs b L xs G aK as s A) (hl : ab_lo as ls M.2.2.1 l)
    (hR : ∀ (pc : Nat) (ls : Array Slot) (H : Heap) (locs : List Loc) (cells slots : Nat), decode M.2.1 pc = .ok (.ireturn, 1) → va_S A s.heap H locs → cells ≤ R.cells → slots ≤ R.slots → W p la e R s m args below meth c H locs cells slots Qz (F0 m pc ls [.int 1]))
    (h1 : cells + bc ≤ R.cells) (h2 : slots + bs ≤ R.slots)
    {q : Nat} {H1 : Heap} (hP1 : va_P D G.1 (ab_cw dA as w ++ [(q, ab_ce dA as E)]) H1) (hD1 : va_D A (ab_cw dA as w ++ [(q, ab_ce dA as E)])) (hS1 : va_S A s.heap H1 locs) :
    W p la e R s m args below meth c H1 locs cells slots Qz (F0 m pc' ls (.ref q :: st.map (ab_cv as))) := by
  obtain ⟨as1, has⟩ : ∃ as1 : Nat → Nat, as1 = fun i => if i = w.length then q else as i := ⟨_, rfl⟩
  have ha : ∀ i, (i < w.length ∨ ab_sb ≤ i) → as1 i = as i := by
    intro i hi
    rw [has]
    exact if_neg (by omega)
  have hq : as1 w.length = q := by rw [has]; exact if_pos rfl
  have ew : ab_cw dA as1 (w ++ [E]) = ab_cw dA as w ++ [(q, ab_ce dA as E)] := by
    rw [ab_cw_push hW ha, hq, ab_ok_ce hE ha]
  have hs1 : ab_Xs b L xs G aK as1 s A := ⟨fun i hi => by rw [ha _ (Or.inr (Nat.le_add_right _ _))]; exact hs.1 i hi, by rw [ha _ (Or.inr (Nat.le_add_right _ _))]; exact hs.2.1, hs.2.2⟩
  have k := kk p la e R s m args below meth c H1 locs cells slots D dA aK aV as1 A ls Qz hF hs1 (by rw [ew]; exact hP1) (by rw [ew]; exact hD1) hS1 (ab_ok_lo hL ha hl) h1 h2 hR
  have es : (Sum.inr (Sum.inr (some w.length)) :: st : List ab_V).map (ab_cv as1) = Value.ref q :: st.map (ab_cv as) := by
    rw [List.map_cons, ab_ok_map hSt ha]
    show Value.ref (as1 w.length) :: _ = _
    rw [hq]
  rw [es] at k
  exact k
theorem ex_new {idx ci N : Nat} {fs : List ab_V} (hd : decode M.2.1 pc = .ok (.new idx, 3)) (hn : ab_nw G M.1.cls idx ci N fs) (hlt : w.length < ab_sb) (hW : ab_okW w) (hE : ab_okS w.length fs) (hL : ab_okL w.length l) (hSt : ab_okS w.length st) (kk : ab_Ex b L xs G rs M d bc bs (pc + 3) l (.inr (.inr (some w.length)) :: st) (w ++ [ab_ob ci fs]) Q) : ab_Ex b L xs G rs M d (bc + 1) (bs + N) pc l st w Q := by
  intro p la e R s m args below meth c H locs cells slots D dA aK aV as A ls Qz hF hs hP hD hS hl h1 h2 hR
  have hF' := hF
  obtain ⟨hx, hb, hml, -, -, ho, -, ht, hfr, hlc, hC, hA⟩ := hF'
  obtain ⟨C, T, ty0, g1, g2, g3, g4, g5, g6, g7⟩ := hn
  exact va_new hx hb ht (fun x hx => g2 x hx) ty0 g3 ho (ht _ g4) (ht _ g5) (ht _ g6) hC.1 hP hD hS hA g1 (fs := fs.map (ab_cv as)) (g7 as) (by omega) (by omega) hd (fun q H1 hP1 hD1 hS1 => ax_grow (E := ab_ob ci fs) hlt hW hE hL hSt kk hF hs hl hR (by omega) (by omega) hP1 hD1 hS1)
theorem ex_vv {cm : ab_M} {idx d' o ci N : Nat} {T : u_T} {fs av st0 : List ab_V} {v : ab_V} (hd : decode M.2.1 pc = .ok (.invokevirtual idx, 3)) (hm : ab_Mt G rs cm d' 0 0 (.inr (.inr (some o)) :: av) w (ab_is (some v) w')) (hk : ab_kb G M.1.cls idx cm av.length) (hst : Cond.instanceMethod cm.1 ∈ G.2.1 ∧ Cond.selects cm.1.cls cm.1 cm.1 ∈ G.2.1) (hcl : G.1[ci]? = some (cm.1.cls, T, N)) (hwo : w[o]? = some (ab_ob ci fs)) (h0 : st0 = av.reverse ++ .inr (.inr (some o)) :: st) (hw : ab_wd st ≤ 8) (hdd : d' + 1 ≤ d) (hok : w'.length = w.length)
    (kk : ab_Ex b L xs G rs M d bc bs (pc + 3) l (v :: st) w' Q) : ab_Ex b L xs G rs M d bc bs pc l st0 w Q := ex_virtual hd hm hk hst hcl hwo h0 hw hdd (Or.inl (fun _ _ h => by rw [h.2]; exact hok)) (fun r w1 h => by obtain ⟨rfl, rfl⟩ := h; exact kk)
/-- a call of which the answer alone is said -/
theorem ex_va {cm : ab_M} {idx d' o ci N : Nat} {T : u_T} {fs av st0 : List ab_V} {v : ab_V} (hd : decode M.2.1 pc = .ok (.invokevirtual idx, 3)) (hm : ab_Mt G rs cm d' 0 0 (.inr (.inr (some o)) :: av) w (fun r w2 => r = some v ∧ w2.length = w.length)) (hk : ab_kb G M.1.cls idx cm av.length) (hst : Cond.instanceMethod cm.1 ∈ G.2.1 ∧ Cond.selects cm.1.cls cm.1 cm.1 ∈ G.2.1) (hcl : G.1[ci]? = some (cm.1.cls, T, N)) (hwo : w[o]? = some (ab_ob ci fs)) (h0 : st0 = av.reverse ++ .inr (.inr (some o)) :: st) (hw : ab_wd st ≤ 8) (hdd : d' + 1 ≤ d)
    (kk : ∀ w2, ab_Ex b L xs G rs M d bc bs (pc + 3) l (v :: st) w2 Q) : ab_Ex b L xs G rs M d bc bs pc l st0 w Q := ex_virtual hd hm hk hst hcl hwo h0 hw hdd (Or.inl (fun _ _ h => h.2)) (fun r w1 h => by obtain ⟨rfl, -⟩ := h; exact kk w1)
theorem ex_vE {cm : ab_M} {idx d' o ci N : Nat} {T : u_T} {fs av st0 : List ab_V} {v : ab_V} {W : (Int → Int) → ab_W} (hd : decode M.2.1 pc = .ok (.invokevirtual idx, 3)) (hm : ab_Mt G rs cm d' 0 0 (.inr (.inr (some o)) :: av) w (fun r w2 => r = some v ∧ ∃ f, w2 = W f)) (hk : ab_kb G M.1.cls idx cm av.length) (hst : Cond.instanceMethod cm.1 ∈ G.2.1 ∧ Cond.selects cm.1.cls cm.1 cm.1 ∈ G.2.1) (hcl : G.1[ci]? = some (cm.1.cls, T, N)) (hwo : w[o]? = some (ab_ob ci fs)) (h0 : st0 = av.reverse ++ .inr (.inr (some o)) :: st) (hw : ab_wd st ≤ 8) (hdd : d' + 1 ≤ d) (hok : ∀ f, (W f).length = w.length)
    (kk : ∀ f, ab_Ex b L xs G rs M d bc bs (pc + 3) l (v :: st) (W f) Q) : ab_Ex b L xs G rs M d bc bs pc l st0 w Q := ex_virtual hd hm hk hst hcl hwo h0 hw hdd (Or.inl (fun _ _ h => by obtain ⟨-, f, h⟩ := h; rw [h]; exact hok f)) (fun r w1 h => by obtain ⟨rfl, f, rfl⟩ := h; exact kk f)
theorem ex_xn {cm : ab_M} {idx d' mc ms o : Nat} {av st0 : List ab_V} (hd : decode M.2.1 pc = .ok (.invokespecial idx, 3)) (hm : ab_Mt G rs cm d' mc ms (.inr (.inr (some o)) :: av) w (ab_is none w')) (hk : ab_kb G M.1.cls idx cm av.length) (hst : Cond.instanceMethod cm.1 ∈ G.2.1 ∧ cm.1.name = "<init>" ∧ cm.2.2.2 = none) (h0 : st0 = av.reverse ++ .inr (.inr (some o)) :: st) (hw : ab_wd st ≤ 8) (hdd : d' + 1 ≤ d) (hL : ab_okL w.length l) (hS : ab_okS w.length st)
    (kk : ab_Ex b L xs G rs M d bc bs (pc + 3) l st w' Q) : ab_Ex b L xs G rs M d (bc + mc) (bs + ms) pc l st0 w Q := ex_special hd hm hk hst h0 hw hdd (Or.inr ⟨hL, hS⟩) (fun r w1 h => by obtain ⟨rfl, rfl⟩ := h; exact kk)
end EXA
end

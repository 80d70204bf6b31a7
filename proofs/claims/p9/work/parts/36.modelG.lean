section MO
variable {tape : Int → Int} {taped : Int} {rules : Int} {sign : Int → Int} {leng : Int → Int} {clause : Int → Int} {clauses : Int → Int} {read : Int → Int} {next : Int} {wrong : Int} {number : Int} {text : Int} {made : Int} {deep : Int} {lines : Int} {opn : Int → Int} {opened : Int} {stack : Int → Int64} {top : Int} {word : Int → Int64} {said : Int → Int} {xx : Int} {was : Int → Int} {undone : Int} {kept : Int → Int} {sumOf : Int → Int} {faced : Int → Int} {slotAt : Int → Int} {dayAt : Int → Int} {row : Int → Int} {bestRow : Int → Int} {tMany : Int} {tMost : Int} {drawX : Int64} {images : Int → Int} {imageX : Int → Int} {isMade : Int → Int}
def mo_0 : ab_W := (mo_W (fun _ => 0) 0 0 (fun _ => 0) (fun _ => 0) (fun _ => 0) (fun _ => 0) (fun _ => 0) 0 0 0 0 0 0 0 (fun _ => 0) 0 (fun _ => 0) 0 (fun _ => 0) (fun _ => 0) 0 (fun _ => 0) 0 (fun _ => 0) (fun _ => 0) (fun _ => 0) (fun _ => 0) (fun _ => 0) (fun _ => 0) (fun _ => 0) 0 0 0 (fun _ => 0) (fun _ => 0) (fun _ => 0))
theorem de_Mo_init_0 : decode prog_14_method_1_code 0 = .ok (.aload_n 0, 1) := by decide +kernel
theorem de_Mo_init_1 : decode prog_14_method_1_code 1 = .ok (.invokespecial 1, 3) := by decide +kernel
theorem de_Mo_init_4 : decode prog_14_method_1_code 4 = .ok (.aload_n 0, 1) := by decide +kernel
theorem de_Mo_init_5 : decode prog_14_method_1_code 5 = .ok (.sipush 400, 3) := by decide +kernel
theorem de_Mo_init_8 : decode prog_14_method_1_code 8 = .ok (.newarray .byte, 2) := by decide +kernel
theorem de_Mo_init_10 : decode prog_14_method_1_code 10 = .ok (.putfield 7, 3) := by decide +kernel
theorem de_Mo_init_13 : decode prog_14_method_1_code 13 = .ok (.aload_n 0, 1) := by decide +kernel
theorem de_Mo_init_14 : decode prog_14_method_1_code 14 = .ok (.sipush 2400, 3) := by decide +kernel
theorem de_Mo_init_17 : decode prog_14_method_1_code 17 = .ok (.newarray .int, 2) := by decide +kernel
theorem de_Mo_init_19 : decode prog_14_method_1_code 19 = .ok (.putfield 13, 3) := by decide +kernel
theorem de_Mo_init_22 : decode prog_14_method_1_code 22 = .ok (.aload_n 0, 1) := by decide +kernel
theorem de_Mo_init_23 : decode prog_14_method_1_code 23 = .ok (.bipush 7, 2) := by decide +kernel
theorem de_Mo_init_25 : decode prog_14_method_1_code 25 = .ok (.newarray .int, 2) := by decide +kernel
theorem de_Mo_init_27 : decode prog_14_method_1_code 27 = .ok (.putfield 17, 3) := by decide +kernel
theorem de_Mo_init_30 : decode prog_14_method_1_code 30 = .ok (.aload_n 0, 1) := by decide +kernel
theorem de_Mo_init_31 : decode prog_14_method_1_code 31 = .ok (.sipush 288, 3) := by decide +kernel
theorem de_Mo_init_34 : decode prog_14_method_1_code 34 = .ok (.newarray .int, 2) := by decide +kernel
theorem de_Mo_init_36 : decode prog_14_method_1_code 36 = .ok (.putfield 20, 3) := by decide +kernel
theorem de_Mo_init_39 : decode prog_14_method_1_code 39 = .ok (.aload_n 0, 1) := by decide +kernel
theorem de_Mo_init_40 : decode prog_14_method_1_code 40 = .ok (.bipush 6, 2) := by decide +kernel
theorem de_Mo_init_42 : decode prog_14_method_1_code 42 = .ok (.newarray .int, 2) := by decide +kernel
theorem de_Mo_init_44 : decode prog_14_method_1_code 44 = .ok (.putfield 23, 3) := by decide +kernel
theorem de_Mo_init_47 : decode prog_14_method_1_code 47 = .ok (.aload_n 0, 1) := by decide +kernel
theorem de_Mo_init_48 : decode prog_14_method_1_code 48 = .ok (.sipush 150, 3) := by decide +kernel
theorem de_Mo_init_51 : decode prog_14_method_1_code 51 = .ok (.newarray .int, 2) := by decide +kernel
theorem de_Mo_init_53 : decode prog_14_method_1_code 53 = .ok (.putfield 26, 3) := by decide +kernel
theorem de_Mo_init_56 : decode prog_14_method_1_code 56 = .ok (.aload_n 0, 1) := by decide +kernel
theorem de_Mo_init_57 : decode prog_14_method_1_code 57 = .ok (.sipush 400, 3) := by decide +kernel
theorem de_Mo_init_60 : decode prog_14_method_1_code 60 = .ok (.newarray .int, 2) := by decide +kernel
theorem de_Mo_init_62 : decode prog_14_method_1_code 62 = .ok (.putfield 29, 3) := by decide +kernel
theorem de_Mo_init_65 : decode prog_14_method_1_code 65 = .ok (.aload_n 0, 1) := by decide +kernel
theorem de_Mo_init_66 : decode prog_14_method_1_code 66 = .ok (.bipush 64, 2) := by decide +kernel
theorem de_Mo_init_68 : decode prog_14_method_1_code 68 = .ok (.newarray .long, 2) := by decide +kernel
theorem de_Mo_init_70 : decode prog_14_method_1_code 70 = .ok (.putfield 32, 3) := by decide +kernel
theorem de_Mo_init_73 : decode prog_14_method_1_code 73 = .ok (.aload_n 0, 1) := by decide +kernel
theorem de_Mo_init_74 : decode prog_14_method_1_code 74 = .ok (.bipush 12, 2) := by decide +kernel
theorem de_Mo_init_76 : decode prog_14_method_1_code 76 = .ok (.newarray .long, 2) := by decide +kernel
theorem de_Mo_init_78 : decode prog_14_method_1_code 78 = .ok (.putfield 36, 3) := by decide +kernel
theorem de_Mo_init_81 : decode prog_14_method_1_code 81 = .ok (.aload_n 0, 1) := by decide +kernel
theorem de_Mo_init_82 : decode prog_14_method_1_code 82 = .ok (.sipush 191, 3) := by decide +kernel
theorem de_Mo_init_85 : decode prog_14_method_1_code 85 = .ok (.newarray .int, 2) := by decide +kernel
theorem de_Mo_init_87 : decode prog_14_method_1_code 87 = .ok (.putfield 39, 3) := by decide +kernel
theorem de_Mo_init_90 : decode prog_14_method_1_code 90 = .ok (.aload_n 0, 1) := by decide +kernel
theorem de_Mo_init_91 : decode prog_14_method_1_code 91 = .ok (.sipush 1060, 3) := by decide +kernel
theorem de_Mo_init_94 : decode prog_14_method_1_code 94 = .ok (.newarray .int, 2) := by decide +kernel
theorem de_Mo_init_96 : decode prog_14_method_1_code 96 = .ok (.putfield 42, 3) := by decide +kernel
theorem de_Mo_init_99 : decode prog_14_method_1_code 99 = .ok (.aload_n 0, 1) := by decide +kernel
theorem de_Mo_init_100 : decode prog_14_method_1_code 100 = .ok (.bipush 53, 2) := by decide +kernel
theorem de_Mo_init_102 : decode prog_14_method_1_code 102 = .ok (.newarray .int, 2) := by decide +kernel
theorem de_Mo_init_104 : decode prog_14_method_1_code 104 = .ok (.putfield 45, 3) := by decide +kernel
theorem de_Mo_init_107 : decode prog_14_method_1_code 107 = .ok (.aload_n 0, 1) := by decide +kernel
theorem de_Mo_init_108 : decode prog_14_method_1_code 108 = .ok (.bipush 7, 2) := by decide +kernel
theorem de_Mo_init_110 : decode prog_14_method_1_code 110 = .ok (.newarray .int, 2) := by decide +kernel
theorem de_Mo_init_112 : decode prog_14_method_1_code 112 = .ok (.putfield 48, 3) := by decide +kernel
theorem de_Mo_init_115 : decode prog_14_method_1_code 115 = .ok (.aload_n 0, 1) := by decide +kernel
theorem de_Mo_init_116 : decode prog_14_method_1_code 116 = .ok (.bipush 97, 2) := by decide +kernel
theorem de_Mo_init_118 : decode prog_14_method_1_code 118 = .ok (.newarray .int, 2) := by decide +kernel
theorem de_Mo_init_120 : decode prog_14_method_1_code 120 = .ok (.putfield 51, 3) := by decide +kernel
theorem de_Mo_init_123 : decode prog_14_method_1_code 123 = .ok (.aload_n 0, 1) := by decide +kernel
theorem de_Mo_init_124 : decode prog_14_method_1_code 124 = .ok (.bipush 7, 2) := by decide +kernel
theorem de_Mo_init_126 : decode prog_14_method_1_code 126 = .ok (.newarray .int, 2) := by decide +kernel
theorem de_Mo_init_128 : decode prog_14_method_1_code 128 = .ok (.putfield 54, 3) := by decide +kernel
theorem de_Mo_init_131 : decode prog_14_method_1_code 131 = .ok (.aload_n 0, 1) := by decide +kernel
theorem de_Mo_init_132 : decode prog_14_method_1_code 132 = .ok (.bipush 49, 2) := by decide +kernel
theorem de_Mo_init_134 : decode prog_14_method_1_code 134 = .ok (.newarray .int, 2) := by decide +kernel
theorem de_Mo_init_136 : decode prog_14_method_1_code 136 = .ok (.putfield 57, 3) := by decide +kernel
theorem de_Mo_init_139 : decode prog_14_method_1_code 139 = .ok (.aload_n 0, 1) := by decide +kernel
theorem de_Mo_init_140 : decode prog_14_method_1_code 140 = .ok (.bipush 7, 2) := by decide +kernel
theorem de_Mo_init_142 : decode prog_14_method_1_code 142 = .ok (.newarray .int, 2) := by decide +kernel
theorem de_Mo_init_144 : decode prog_14_method_1_code 144 = .ok (.putfield 60, 3) := by decide +kernel
theorem de_Mo_init_147 : decode prog_14_method_1_code 147 = .ok (.aload_n 0, 1) := by decide +kernel
theorem de_Mo_init_148 : decode prog_14_method_1_code 148 = .ok (.bipush 7, 2) := by decide +kernel
theorem de_Mo_init_150 : decode prog_14_method_1_code 150 = .ok (.newarray .int, 2) := by decide +kernel
theorem de_Mo_init_152 : decode prog_14_method_1_code 152 = .ok (.putfield 63, 3) := by decide +kernel
theorem de_Mo_init_155 : decode prog_14_method_1_code 155 = .ok (.aload_n 0, 1) := by decide +kernel
theorem de_Mo_init_156 : decode prog_14_method_1_code 156 = .ok (.sipush 764, 3) := by decide +kernel
theorem de_Mo_init_159 : decode prog_14_method_1_code 159 = .ok (.newarray .int, 2) := by decide +kernel
theorem de_Mo_init_161 : decode prog_14_method_1_code 161 = .ok (.putfield 66, 3) := by decide +kernel
theorem de_Mo_init_164 : decode prog_14_method_1_code 164 = .ok (.aload_n 0, 1) := by decide +kernel
theorem de_Mo_init_165 : decode prog_14_method_1_code 165 = .ok (.iconst 4, 1) := by decide +kernel
theorem de_Mo_init_166 : decode prog_14_method_1_code 166 = .ok (.newarray .int, 2) := by decide +kernel
theorem de_Mo_init_168 : decode prog_14_method_1_code 168 = .ok (.putfield 69, 3) := by decide +kernel
theorem de_Mo_init_171 : decode prog_14_method_1_code 171 = .ok (.aload_n 0, 1) := by decide +kernel
theorem de_Mo_init_172 : decode prog_14_method_1_code 172 = .ok (.iconst 4, 1) := by decide +kernel
theorem de_Mo_init_173 : decode prog_14_method_1_code 173 = .ok (.newarray .boolean, 2) := by decide +kernel
theorem de_Mo_init_175 : decode prog_14_method_1_code 175 = .ok (.putfield 72, 3) := by decide +kernel
theorem de_Mo_init_178 : decode prog_14_method_1_code 178 = .ok (.return_, 1) := by decide +kernel
set_option maxRecDepth 20000 in
theorem co_Mo_init : ab_Mt g_G g_rs mt_Mo_init 1 21 5977 [ab_R 0] [ab_ob 11 df_Mo] (ab_is none mo_0) := by
  refine ab_Mt.of rfl (Nat.le_of_ble_eq_true rfl) ?_
  show ab_Ev g_G g_rs mt_Mo_init _ _ _ 0 [some (ab_R 0)] [] _ _
  refine ev_aload_n de_Mo_init_0 rfl rfl ?_
  refine ev_objInit de_Mo_init_1 oi_Mo (Nat.le_of_ble_eq_true rfl) (by decide) ?_
  refine ev_aload_n de_Mo_init_4 rfl rfl ?_
  refine ev_sipush de_Mo_init_5 rfl ?_
  refine ev_newab (n := 400) (bc := 20) (bs := 5577) de_Mo_init_8 ac_byte (by decide) (by decide) (Nat.le_of_ble_eq_true rfl) (ab_okW_of rfl) (ab_okL_of rfl) (ab_okS_of rfl) ?_
  refine ev_putfield de_Mo_init_10 rfl fp_Mo_7 (Nat.le_of_ble_eq_true rfl) trivial ?_
  refine ev_aload_n de_Mo_init_13 rfl rfl ?_
  refine ev_sipush de_Mo_init_14 rfl ?_
  refine ev_newai (n := 2400) (bc := 19) (bs := 3177) de_Mo_init_17 ac_int (by decide) (by decide) (Nat.le_of_ble_eq_true rfl) (ab_okW_of rfl) (ab_okL_of rfl) (ab_okS_of rfl) ?_
  refine ev_putfield de_Mo_init_19 rfl fp_Mo_13 (Nat.le_of_ble_eq_true rfl) trivial ?_
  refine ev_aload_n de_Mo_init_22 rfl rfl ?_
  refine ev_bipush de_Mo_init_23 rfl ?_
  refine ev_newai (n := 7) (bc := 18) (bs := 3170) de_Mo_init_25 ac_int (by decide) (by decide) (Nat.le_of_ble_eq_true rfl) (ab_okW_of rfl) (ab_okL_of rfl) (ab_okS_of rfl) ?_
  refine ev_putfield de_Mo_init_27 rfl fp_Mo_17 (Nat.le_of_ble_eq_true rfl) trivial ?_
  refine ev_aload_n de_Mo_init_30 rfl rfl ?_
  refine ev_sipush de_Mo_init_31 rfl ?_
  refine ev_newai (n := 288) (bc := 17) (bs := 2882) de_Mo_init_34 ac_int (by decide) (by decide) (Nat.le_of_ble_eq_true rfl) (ab_okW_of rfl) (ab_okL_of rfl) (ab_okS_of rfl) ?_
  refine ev_putfield de_Mo_init_36 rfl fp_Mo_20 (Nat.le_of_ble_eq_true rfl) trivial ?_
  refine ev_aload_n de_Mo_init_39 rfl rfl ?_
  refine ev_bipush de_Mo_init_40 rfl ?_
  refine ev_newai (n := 6) (bc := 16) (bs := 2876) de_Mo_init_42 ac_int (by decide) (by decide) (Nat.le_of_ble_eq_true rfl) (ab_okW_of rfl) (ab_okL_of rfl) (ab_okS_of rfl) ?_
  refine ev_putfield de_Mo_init_44 rfl fp_Mo_23 (Nat.le_of_ble_eq_true rfl) trivial ?_
  refine ev_aload_n de_Mo_init_47 rfl rfl ?_
  refine ev_sipush de_Mo_init_48 rfl ?_
  refine ev_newai (n := 150) (bc := 15) (bs := 2726) de_Mo_init_51 ac_int (by decide) (by decide) (Nat.le_of_ble_eq_true rfl) (ab_okW_of rfl) (ab_okL_of rfl) (ab_okS_of rfl) ?_
  refine ev_putfield de_Mo_init_53 rfl fp_Mo_26 (Nat.le_of_ble_eq_true rfl) trivial ?_
  refine ev_aload_n de_Mo_init_56 rfl rfl ?_
  refine ev_sipush de_Mo_init_57 rfl ?_
  refine ev_newai (n := 400) (bc := 14) (bs := 2326) de_Mo_init_60 ac_int (by decide) (by decide) (Nat.le_of_ble_eq_true rfl) (ab_okW_of rfl) (ab_okL_of rfl) (ab_okS_of rfl) ?_
  refine ev_putfield de_Mo_init_62 rfl fp_Mo_29 (Nat.le_of_ble_eq_true rfl) trivial ?_
  refine ev_aload_n de_Mo_init_65 rfl rfl ?_
  refine ev_bipush de_Mo_init_66 rfl ?_
  refine ev_newal (n := 64) (bc := 13) (bs := 2262) de_Mo_init_68 ac_long (by decide) (by decide) (Nat.le_of_ble_eq_true rfl) (ab_okW_of rfl) (ab_okL_of rfl) (ab_okS_of rfl) ?_
  refine ev_putfield de_Mo_init_70 rfl fp_Mo_32 (Nat.le_of_ble_eq_true rfl) trivial ?_
  refine ev_aload_n de_Mo_init_73 rfl rfl ?_
  refine ev_bipush de_Mo_init_74 rfl ?_
  refine ev_newal (n := 12) (bc := 12) (bs := 2250) de_Mo_init_76 ac_long (by decide) (by decide) (Nat.le_of_ble_eq_true rfl) (ab_okW_of rfl) (ab_okL_of rfl) (ab_okS_of rfl) ?_
  refine ev_putfield de_Mo_init_78 rfl fp_Mo_36 (Nat.le_of_ble_eq_true rfl) trivial ?_
  refine ev_aload_n de_Mo_init_81 rfl rfl ?_
  refine ev_sipush de_Mo_init_82 rfl ?_
  refine ev_newai (n := 191) (bc := 11) (bs := 2059) de_Mo_init_85 ac_int (by decide) (by decide) (Nat.le_of_ble_eq_true rfl) (ab_okW_of rfl) (ab_okL_of rfl) (ab_okS_of rfl) ?_
  refine ev_putfield de_Mo_init_87 rfl fp_Mo_39 (Nat.le_of_ble_eq_true rfl) trivial ?_
  refine ev_aload_n de_Mo_init_90 rfl rfl ?_
  refine ev_sipush de_Mo_init_91 rfl ?_
  refine ev_newai (n := 1060) (bc := 10) (bs := 999) de_Mo_init_94 ac_int (by decide) (by decide) (Nat.le_of_ble_eq_true rfl) (ab_okW_of rfl) (ab_okL_of rfl) (ab_okS_of rfl) ?_
  refine ev_putfield de_Mo_init_96 rfl fp_Mo_42 (Nat.le_of_ble_eq_true rfl) trivial ?_
  refine ev_aload_n de_Mo_init_99 rfl rfl ?_
  refine ev_bipush de_Mo_init_100 rfl ?_
  refine ev_newai (n := 53) (bc := 9) (bs := 946) de_Mo_init_102 ac_int (by decide) (by decide) (Nat.le_of_ble_eq_true rfl) (ab_okW_of rfl) (ab_okL_of rfl) (ab_okS_of rfl) ?_
  refine ev_putfield de_Mo_init_104 rfl fp_Mo_45 (Nat.le_of_ble_eq_true rfl) trivial ?_
  refine ev_aload_n de_Mo_init_107 rfl rfl ?_
  refine ev_bipush de_Mo_init_108 rfl ?_
  refine ev_newai (n := 7) (bc := 8) (bs := 939) de_Mo_init_110 ac_int (by decide) (by decide) (Nat.le_of_ble_eq_true rfl) (ab_okW_of rfl) (ab_okL_of rfl) (ab_okS_of rfl) ?_
  refine ev_putfield de_Mo_init_112 rfl fp_Mo_48 (Nat.le_of_ble_eq_true rfl) trivial ?_
  refine ev_aload_n de_Mo_init_115 rfl rfl ?_
  refine ev_bipush de_Mo_init_116 rfl ?_
  refine ev_newai (n := 97) (bc := 7) (bs := 842) de_Mo_init_118 ac_int (by decide) (by decide) (Nat.le_of_ble_eq_true rfl) (ab_okW_of rfl) (ab_okL_of rfl) (ab_okS_of rfl) ?_
  refine ev_putfield de_Mo_init_120 rfl fp_Mo_51 (Nat.le_of_ble_eq_true rfl) trivial ?_
  refine ev_aload_n de_Mo_init_123 rfl rfl ?_
  refine ev_bipush de_Mo_init_124 rfl ?_
  refine ev_newai (n := 7) (bc := 6) (bs := 835) de_Mo_init_126 ac_int (by decide) (by decide) (Nat.le_of_ble_eq_true rfl) (ab_okW_of rfl) (ab_okL_of rfl) (ab_okS_of rfl) ?_
  refine ev_putfield de_Mo_init_128 rfl fp_Mo_54 (Nat.le_of_ble_eq_true rfl) trivial ?_
  refine ev_aload_n de_Mo_init_131 rfl rfl ?_
  refine ev_bipush de_Mo_init_132 rfl ?_
  refine ev_newai (n := 49) (bc := 5) (bs := 786) de_Mo_init_134 ac_int (by decide) (by decide) (Nat.le_of_ble_eq_true rfl) (ab_okW_of rfl) (ab_okL_of rfl) (ab_okS_of rfl) ?_
  refine ev_putfield de_Mo_init_136 rfl fp_Mo_57 (Nat.le_of_ble_eq_true rfl) trivial ?_
  refine ev_aload_n de_Mo_init_139 rfl rfl ?_
  refine ev_bipush de_Mo_init_140 rfl ?_
  refine ev_newai (n := 7) (bc := 4) (bs := 779) de_Mo_init_142 ac_int (by decide) (by decide) (Nat.le_of_ble_eq_true rfl) (ab_okW_of rfl) (ab_okL_of rfl) (ab_okS_of rfl) ?_
  refine ev_putfield de_Mo_init_144 rfl fp_Mo_60 (Nat.le_of_ble_eq_true rfl) trivial ?_
  refine ev_aload_n de_Mo_init_147 rfl rfl ?_
  refine ev_bipush de_Mo_init_148 rfl ?_
  refine ev_newai (n := 7) (bc := 3) (bs := 772) de_Mo_init_150 ac_int (by decide) (by decide) (Nat.le_of_ble_eq_true rfl) (ab_okW_of rfl) (ab_okL_of rfl) (ab_okS_of rfl) ?_
  refine ev_putfield de_Mo_init_152 rfl fp_Mo_63 (Nat.le_of_ble_eq_true rfl) trivial ?_
  refine ev_aload_n de_Mo_init_155 rfl rfl ?_
  refine ev_sipush de_Mo_init_156 rfl ?_
  refine ev_newai (n := 764) (bc := 2) (bs := 8) de_Mo_init_159 ac_int (by decide) (by decide) (Nat.le_of_ble_eq_true rfl) (ab_okW_of rfl) (ab_okL_of rfl) (ab_okS_of rfl) ?_
  refine ev_putfield de_Mo_init_161 rfl fp_Mo_66 (Nat.le_of_ble_eq_true rfl) trivial ?_
  refine ev_aload_n de_Mo_init_164 rfl rfl ?_
  refine ev_iconst de_Mo_init_165 ?_
  refine ev_newai (n := 4) (bc := 1) (bs := 4) de_Mo_init_166 ac_int (by decide) (by decide) (Nat.le_of_ble_eq_true rfl) (ab_okW_of rfl) (ab_okL_of rfl) (ab_okS_of rfl) ?_
  refine ev_putfield de_Mo_init_168 rfl fp_Mo_69 (Nat.le_of_ble_eq_true rfl) trivial ?_
  refine ev_aload_n de_Mo_init_171 rfl rfl ?_
  refine ev_iconst de_Mo_init_172 ?_
  refine ev_newaz (n := 4) (bc := 0) (bs := 0) de_Mo_init_173 ac_boolean (by decide) (by decide) (Nat.le_of_ble_eq_true rfl) (ab_okW_of rfl) (ab_okL_of rfl) (ab_okS_of rfl) ?_
  refine ev_putfield de_Mo_init_175 rfl fp_Mo_72 (Nat.le_of_ble_eq_true rfl) trivial ?_
  exact ev_return de_Mo_init_178 rfl ⟨rfl, rfl⟩
end MO

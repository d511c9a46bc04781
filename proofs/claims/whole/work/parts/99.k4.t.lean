def ftL : List (Nat × (Nat × Int × Nat)) := []
theorem ftL_ok : ftL.all (fun q => flchk RL q.1 q.2) = true := by decide +kernel
def ntL : List (Nat × Nat) := [(7, 10), (10, 11)]
theorem ntL_ok : ncchk RL ntL = true := by decide +kernel
def kcL : List (Nat × Option Int) := []
theorem kcL_ok : kcL.all (fun q => match q.2 with | some z => decide (Jvm.Cond.constant RL q.1 (Int32.ofInt z) ∈ tgw) | none => true) = true := by decide +kernel
def klL : List (Nat × Option Int64) := []
theorem klL_ok : klL.all (fun q => match q.2 with | some z => decide (Jvm.Cond.constantLong RL q.1 z ∈ tgw) | none => true) = true := by decide +kernel
theorem co_L_49 : CallOK RL (.invokespecial 12) (1, 1, 26, 283098, T_Model_init) := call_I S_Model_init (by decide) rfl (by decide +kernel) (by decide +kernel) (by decide +kernel) (by decide +kernel) (by decide +kernel) (fun as M k h => by obtain ⟨b, As, h1, -⟩ := T_Model_init_r as M k h; exact ⟨b, As, h1⟩)
theorem co_L_37 : CallOK RL (.invokespecial 9) (1, 3, 137, 123042, T_PR_init) := call_I S_PR_init (by decide) rfl (by decide +kernel) (by decide +kernel) (by decide +kernel) (by decide +kernel) (by decide +kernel) (fun as M k h => by obtain ⟨b, As, h1, -⟩ := T_PR_init_r as M k h; exact ⟨b, As, h1⟩)
theorem co_L_408 : CallOK RL (.invokevirtual 102) (5, 8, 0, 0, T_Model_differs) := call_V S_Model_differs (by decide) (ci := 11) rfl (by decide +kernel) (by decide +kernel) (by decide +kernel) (by decide +kernel) (by decide +kernel) (by decide +kernel) T_Model_differs_r
theorem co_L_412 : CallOK RL (.invokevirtual 103) (4, 1, 0, 0, T_PR_grown) := call_V S_PR_grown (by decide) (ci := 10) rfl (by decide +kernel) (by decide +kernel) (by decide +kernel) (by decide +kernel) (by decide +kernel) (by decide +kernel) T_PR_grown_r
theorem co_L_424 : CallOK RL (.invokevirtual 106) (4, 3, 0, 0, T_Model_grown) := call_V S_Model_grown (by decide) (ci := 11) rfl (by decide +kernel) (by decide +kernel) (by decide +kernel) (by decide +kernel) (by decide +kernel) (by decide +kernel) T_Model_grown_r
theorem co_L_52 : CallOK RL (.invokevirtual 13) (6, 1, 0, 0, T_PR_feed) := call_V S_PR_feed (by decide) (ci := 10) rfl (by decide +kernel) (by decide +kernel) (by decide +kernel) (by decide +kernel) (by decide +kernel) (by decide +kernel) T_PR_feed_r
theorem co_L_68 : CallOK RL (.invokevirtual 17) (6, 0, 0, 0, T_Model_feed) := call_V S_Model_feed (by decide) (ci := 11) rfl (by decide +kernel) (by decide +kernel) (by decide +kernel) (by decide +kernel) (by decide +kernel) (by decide +kernel) T_Model_feed_r
theorem co_L_72 : CallOK RL (.invokevirtual 18) (2, 1, 0, 0, T_PR_end) := call_V S_PR_end (by decide) (ci := 10) rfl (by decide +kernel) (by decide +kernel) (by decide +kernel) (by decide +kernel) (by decide +kernel) (by decide +kernel) T_PR_end_r
theorem co_L_88 : CallOK RL (.invokevirtual 22) (2, 0, 0, 0, T_Model_end) := call_V S_Model_end (by decide) (ci := 11) rfl (by decide +kernel) (by decide +kernel) (by decide +kernel) (by decide +kernel) (by decide +kernel) (by decide +kernel) T_Model_end_r
theorem co_L_92 : CallOK RL (.invokevirtual 23) (2, 7, 0, 0, T_PR_read) := call_V S_PR_read (by decide) (ci := 10) rfl (by decide +kernel) (by decide +kernel) (by decide +kernel) (by decide +kernel) (by decide +kernel) (by decide +kernel) T_PR_read_r
theorem co_L_104 : CallOK RL (.invokevirtual 26) (2, 8, 0, 0, T_Model_read) := call_V S_Model_read (by decide) (ci := 11) rfl (by decide +kernel) (by decide +kernel) (by decide +kernel) (by decide +kernel) (by decide +kernel) (by decide +kernel) T_Model_read_r
theorem co_L_108 : CallOK RL (.invokevirtual 27) (3, 2, 0, 0, T_PR_about) := call_V S_PR_about (by decide) (ci := 10) rfl (by decide +kernel) (by decide +kernel) (by decide +kernel) (by decide +kernel) (by decide +kernel) (by decide +kernel) T_PR_about_r
theorem co_L_124 : CallOK RL (.invokevirtual 31) (3, 8, 0, 0, T_Model_about) := call_V S_Model_about (by decide) (ci := 11) rfl (by decide +kernel) (by decide +kernel) (by decide +kernel) (by decide +kernel) (by decide +kernel) (by decide +kernel) T_Model_about_r
theorem co_L_128 : CallOK RL (.invokevirtual 32) (4, 1, 0, 0, T_PR_hole) := call_V S_PR_hole (by decide) (ci := 10) rfl (by decide +kernel) (by decide +kernel) (by decide +kernel) (by decide +kernel) (by decide +kernel) (by decide +kernel) T_PR_hole_r
theorem co_L_144 : CallOK RL (.invokevirtual 36) (4, 1, 0, 0, T_Model_hole) := call_V S_Model_hole (by decide) (ci := 11) rfl (by decide +kernel) (by decide +kernel) (by decide +kernel) (by decide +kernel) (by decide +kernel) (by decide +kernel) T_Model_hole_r
theorem co_L_148 : CallOK RL (.invokevirtual 37) (3, 2, 0, 0, T_PR_thing) := call_V S_PR_thing (by decide) (ci := 10) rfl (by decide +kernel) (by decide +kernel) (by decide +kernel) (by decide +kernel) (by decide +kernel) (by decide +kernel) T_PR_thing_r
theorem co_L_160 : CallOK RL (.invokevirtual 40) (3, 3, 0, 0, T_Model_thing) := call_V S_Model_thing (by decide) (ci := 11) rfl (by decide +kernel) (by decide +kernel) (by decide +kernel) (by decide +kernel) (by decide +kernel) (by decide +kernel) T_Model_thing_r
theorem co_L_164 : CallOK RL (.invokevirtual 41) (4, 3, 0, 0, T_PR_told) := call_V S_PR_told (by decide) (ci := 10) rfl (by decide +kernel) (by decide +kernel) (by decide +kernel) (by decide +kernel) (by decide +kernel) (by decide +kernel) T_PR_told_r
theorem co_L_176 : CallOK RL (.invokevirtual 44) (4, 8, 0, 0, T_Model_told) := call_V S_Model_told (by decide) (ci := 11) rfl (by decide +kernel) (by decide +kernel) (by decide +kernel) (by decide +kernel) (by decide +kernel) (by decide +kernel) T_Model_told_r
theorem co_L_180 : CallOK RL (.invokevirtual 45) (4, 3, 0, 0, T_PR_value) := call_V S_PR_value (by decide) (ci := 10) rfl (by decide +kernel) (by decide +kernel) (by decide +kernel) (by decide +kernel) (by decide +kernel) (by decide +kernel) T_PR_value_r
theorem co_L_196 : CallOK RL (.invokevirtual 49) (4, 6, 0, 0, T_Model_value) := call_V S_Model_value (by decide) (ci := 11) rfl (by decide +kernel) (by decide +kernel) (by decide +kernel) (by decide +kernel) (by decide +kernel) (by decide +kernel) T_Model_value_r
theorem co_L_200 : CallOK RL (.invokevirtual 50) (4, 3, 0, 0, T_PR_ref) := call_V S_PR_ref (by decide) (ci := 10) rfl (by decide +kernel) (by decide +kernel) (by decide +kernel) (by decide +kernel) (by decide +kernel) (by decide +kernel) T_PR_ref_r
theorem co_L_212 : CallOK RL (.invokevirtual 53) (4, 6, 0, 0, T_Model_ref) := call_V S_Model_ref (by decide) (ci := 11) rfl (by decide +kernel) (by decide +kernel) (by decide +kernel) (by decide +kernel) (by decide +kernel) (by decide +kernel) T_Model_ref_r
theorem co_L_216 : CallOK RL (.invokevirtual 54) (4, 2, 0, 0, T_PR_under) := call_V S_PR_under (by decide) (ci := 10) rfl (by decide +kernel) (by decide +kernel) (by decide +kernel) (by decide +kernel) (by decide +kernel) (by decide +kernel) T_PR_under_r
theorem co_L_228 : CallOK RL (.invokevirtual 57) (4, 2, 0, 0, T_Model_under) := call_V S_Model_under (by decide) (ci := 11) rfl (by decide +kernel) (by decide +kernel) (by decide +kernel) (by decide +kernel) (by decide +kernel) (by decide +kernel) T_Model_under_r
theorem co_L_232 : CallOK RL (.invokevirtual 58) (3, 3, 0, 0, T_PR_alive) := call_V S_PR_alive (by decide) (ci := 10) rfl (by decide +kernel) (by decide +kernel) (by decide +kernel) (by decide +kernel) (by decide +kernel) (by decide +kernel) T_PR_alive_r
theorem co_L_244 : CallOK RL (.invokevirtual 61) (3, 9, 0, 0, T_Model_alive) := call_V S_Model_alive (by decide) (ci := 11) rfl (by decide +kernel) (by decide +kernel) (by decide +kernel) (by decide +kernel) (by decide +kernel) (by decide +kernel) T_Model_alive_r
theorem co_L_248 : CallOK RL (.invokevirtual 62) (3, 3, 0, 0, T_PR_keeper) := call_V S_PR_keeper (by decide) (ci := 10) rfl (by decide +kernel) (by decide +kernel) (by decide +kernel) (by decide +kernel) (by decide +kernel) (by decide +kernel) T_PR_keeper_r
theorem co_L_260 : CallOK RL (.invokevirtual 65) (3, 9, 0, 0, T_Model_keeper) := call_V S_Model_keeper (by decide) (ci := 11) rfl (by decide +kernel) (by decide +kernel) (by decide +kernel) (by decide +kernel) (by decide +kernel) (by decide +kernel) T_Model_keeper_r
theorem co_L_264 : CallOK RL (.invokevirtual 66) (3, 3, 0, 0, T_PR_kept) := call_V S_PR_kept (by decide) (ci := 10) rfl (by decide +kernel) (by decide +kernel) (by decide +kernel) (by decide +kernel) (by decide +kernel) (by decide +kernel) T_PR_kept_r
theorem co_L_276 : CallOK RL (.invokevirtual 69) (3, 9, 0, 0, T_Model_kept) := call_V S_Model_kept (by decide) (ci := 11) rfl (by decide +kernel) (by decide +kernel) (by decide +kernel) (by decide +kernel) (by decide +kernel) (by decide +kernel) T_Model_kept_r
theorem co_L_280 : CallOK RL (.invokevirtual 70) (3, 3, 0, 0, T_PR_height) := call_V S_PR_height (by decide) (ci := 10) rfl (by decide +kernel) (by decide +kernel) (by decide +kernel) (by decide +kernel) (by decide +kernel) (by decide +kernel) T_PR_height_r
theorem co_L_292 : CallOK RL (.invokevirtual 73) (3, 9, 0, 0, T_Model_height) := call_V S_Model_height (by decide) (ci := 11) rfl (by decide +kernel) (by decide +kernel) (by decide +kernel) (by decide +kernel) (by decide +kernel) (by decide +kernel) T_Model_height_r
theorem co_L_296 : CallOK RL (.invokevirtual 74) (4, 3, 0, 0, T_PR_way) := call_V S_PR_way (by decide) (ci := 10) rfl (by decide +kernel) (by decide +kernel) (by decide +kernel) (by decide +kernel) (by decide +kernel) (by decide +kernel) T_PR_way_r
theorem co_L_308 : CallOK RL (.invokevirtual 77) (4, 9, 0, 0, T_Model_way) := call_V S_Model_way (by decide) (ci := 11) rfl (by decide +kernel) (by decide +kernel) (by decide +kernel) (by decide +kernel) (by decide +kernel) (by decide +kernel) T_Model_way_r
theorem co_L_312 : CallOK RL (.invokevirtual 78) (2, 1, 0, 0, T_PR_step) := call_V S_PR_step (by decide) (ci := 10) rfl (by decide +kernel) (by decide +kernel) (by decide +kernel) (by decide +kernel) (by decide +kernel) (by decide +kernel) T_PR_step_r
theorem co_L_324 : CallOK RL (.invokevirtual 81) (2, 0, 0, 0, T_Model_step) := call_V S_Model_step (by decide) (ci := 11) rfl (by decide +kernel) (by decide +kernel) (by decide +kernel) (by decide +kernel) (by decide +kernel) (by decide +kernel) T_Model_step_r
theorem co_L_328 : CallOK RL (.invokevirtual 82) (2, 1, 0, 0, T_PR_groups) := call_V S_PR_groups (by decide) (ci := 10) rfl (by decide +kernel) (by decide +kernel) (by decide +kernel) (by decide +kernel) (by decide +kernel) (by decide +kernel) T_PR_groups_r
theorem co_L_340 : CallOK RL (.invokevirtual 85) (2, 7, 0, 0, T_Model_groups) := call_V S_Model_groups (by decide) (ci := 11) rfl (by decide +kernel) (by decide +kernel) (by decide +kernel) (by decide +kernel) (by decide +kernel) (by decide +kernel) T_Model_groups_r
theorem co_L_344 : CallOK RL (.invokevirtual 86) (4, 3, 0, 0, T_PR_group) := call_V S_PR_group (by decide) (ci := 10) rfl (by decide +kernel) (by decide +kernel) (by decide +kernel) (by decide +kernel) (by decide +kernel) (by decide +kernel) T_PR_group_r
theorem co_L_356 : CallOK RL (.invokevirtual 89) (4, 7, 0, 0, T_Model_group) := call_V S_Model_group (by decide) (ci := 11) rfl (by decide +kernel) (by decide +kernel) (by decide +kernel) (by decide +kernel) (by decide +kernel) (by decide +kernel) T_Model_group_r
theorem co_L_360 : CallOK RL (.invokevirtual 90) (3, 2, 0, 0, T_PR_top) := call_V S_PR_top (by decide) (ci := 10) rfl (by decide +kernel) (by decide +kernel) (by decide +kernel) (by decide +kernel) (by decide +kernel) (by decide +kernel) T_PR_top_r
theorem co_L_372 : CallOK RL (.invokevirtual 93) (3, 9, 0, 0, T_Model_top) := call_V S_Model_top (by decide) (ci := 11) rfl (by decide +kernel) (by decide +kernel) (by decide +kernel) (by decide +kernel) (by decide +kernel) (by decide +kernel) T_Model_top_r
theorem co_L_376 : CallOK RL (.invokevirtual 94) (4, 6, 0, 0, T_PR_differ) := call_V S_PR_differ (by decide) (ci := 10) rfl (by decide +kernel) (by decide +kernel) (by decide +kernel) (by decide +kernel) (by decide +kernel) (by decide +kernel) T_PR_differ_r
theorem co_L_388 : CallOK RL (.invokevirtual 97) (4, 8, 0, 0, T_Model_differ) := call_V S_Model_differ (by decide) (ci := 11) rfl (by decide +kernel) (by decide +kernel) (by decide +kernel) (by decide +kernel) (by decide +kernel) (by decide +kernel) T_Model_differ_r
theorem co_L_392 : CallOK RL (.invokevirtual 98) (5, 6, 0, 0, T_PR_differs) := call_V S_PR_differs (by decide) (ci := 10) rfl (by decide +kernel) (by decide +kernel) (by decide +kernel) (by decide +kernel) (by decide +kernel) (by decide +kernel) T_PR_differs_r
def tb_law : List (Nat × Option (List Nat) × Instr × List Nat) := tl_0 ++ (tl_1 ++ (tl_2 ++ (tl_3 ++ (tl_4 ++ (tl_5 ++ (tl_6 ++ (tl_7 ++ (tl_8 ++ (tl_9 ++ (tl_10 ++ (tl_11 ++ (tl_12 ++ (tl_13 ++ (tl_14 ++ (tl_15 ++ (tl_16 ++ (tl_17 ++ (tl_18 ++ (tl_19 ++ (tl_20 ++ (tl_21 ++ (tl_22 ++ (tl_23 ++ (tl_24 ++ (tl_25 ++ (tl_26 ++ (tl_27 ++ (tl_28 ++ (tl_29 ++ (tl_30 ++ (tl_31 ++ (tl_32 ++ (tl_33 ++ (tl_34 ++ (tl_35 ++ (tl_36 ++ (tl_37 ++ (tl_38 ++ (tl_39 ++ (tl_40 ++ (tl_41 ++ (tl_42 ++ (tl_43 ++ (tl_44 ++ (tl_45 ++ (tl_46 ++ (tl_47 ++ (tl_48 ++ (tl_49 ++ (tl_50 ++ (tl_51 ++ (tl_52 ++ (tl_53 ++ (tl_54 ++ (tl_55 ++ (tl_56 ++ (tl_57 ++ (tl_58 ++ (tl_59 ++ (tl_60 ++ (tl_61 ++ (tl_62 ++ (tl_63 ++ (tl_64 ++ (tl_65 ++ (tl_66 ++ (tl_67 ++ (tl_68 ++ (tl_69 ++ (tl_70 ++ (tl_71 ++ (tl_72))))))))))))))))))))))))))))))))))))))))))))))))))))))))))))))))))))))))
theorem tblOK_app {cc : ByteArray} {nL : Nat} {a b : List (Nat × Option (List Nat) × Instr × List Nat)} (ha : tblOK cc nL a = true) (hb : tblOK cc nL b = true) : tblOK cc nL (a ++ b) = true := by
  unfold tblOK at *
  rw [List.all_append, ha, hb]
  rfl
def P_law : Nat → Option (List Nat) × Instr × List Nat := plk tb_law
theorem tb_law_ok : tblOK code 4 tb_law = true := tblOK_app tl_0_ok (tblOK_app tl_1_ok (tblOK_app tl_2_ok (tblOK_app tl_3_ok (tblOK_app tl_4_ok (tblOK_app tl_5_ok (tblOK_app tl_6_ok (tblOK_app tl_7_ok (tblOK_app tl_8_ok (tblOK_app tl_9_ok (tblOK_app tl_10_ok (tblOK_app tl_11_ok (tblOK_app tl_12_ok (tblOK_app tl_13_ok (tblOK_app tl_14_ok (tblOK_app tl_15_ok (tblOK_app tl_16_ok (tblOK_app tl_17_ok (tblOK_app tl_18_ok (tblOK_app tl_19_ok (tblOK_app tl_20_ok (tblOK_app tl_21_ok (tblOK_app tl_22_ok (tblOK_app tl_23_ok (tblOK_app tl_24_ok (tblOK_app tl_25_ok (tblOK_app tl_26_ok (tblOK_app tl_27_ok (tblOK_app tl_28_ok (tblOK_app tl_29_ok (tblOK_app tl_30_ok (tblOK_app tl_31_ok (tblOK_app tl_32_ok (tblOK_app tl_33_ok (tblOK_app tl_34_ok (tblOK_app tl_35_ok (tblOK_app tl_36_ok (tblOK_app tl_37_ok (tblOK_app tl_38_ok (tblOK_app tl_39_ok (tblOK_app tl_40_ok (tblOK_app tl_41_ok (tblOK_app tl_42_ok (tblOK_app tl_43_ok (tblOK_app tl_44_ok (tblOK_app tl_45_ok (tblOK_app tl_46_ok (tblOK_app tl_47_ok (tblOK_app tl_48_ok (tblOK_app tl_49_ok (tblOK_app tl_50_ok (tblOK_app tl_51_ok (tblOK_app tl_52_ok (tblOK_app tl_53_ok (tblOK_app tl_54_ok (tblOK_app tl_55_ok (tblOK_app tl_56_ok (tblOK_app tl_57_ok (tblOK_app tl_58_ok (tblOK_app tl_59_ok (tblOK_app tl_60_ok (tblOK_app tl_61_ok (tblOK_app tl_62_ok (tblOK_app tl_63_ok (tblOK_app tl_64_ok (tblOK_app tl_65_ok (tblOK_app tl_66_ok (tblOK_app tl_67_ok (tblOK_app tl_68_ok (tblOK_app tl_69_ok (tblOK_app tl_70_ok (tblOK_app tl_71_ok (tl_72_ok))))))))))))))))))))))))))))))))))))))))))))))))))))))))))))))))))))))))
theorem r_law_0 : P_law 0 = (none, .new 7, []) := by decide +kernel
theorem r_law_3 : P_law 3 = (none, .dup, []) := by decide +kernel
theorem r_law_4 : P_law 4 = (none, .invokespecial 9, []) := by decide +kernel
theorem r_law_7 : P_law 7 = (none, .astore_n 1, []) := by decide +kernel
theorem r_law_8 : P_law 8 = (none, .new 10, []) := by decide +kernel
theorem r_law_11 : P_law 11 = (none, .dup, []) := by decide +kernel
theorem r_law_12 : P_law 12 = (none, .invokespecial 12, []) := by decide +kernel
theorem r_law_15 : P_law 15 = (none, .astore_n 2, []) := by decide +kernel
theorem r_law_16 : P_law 16 = (none, .iconst 0, []) := by decide +kernel
theorem r_law_17 : P_law 17 = (none, .istore_n 3, []) := by decide +kernel
theorem r_law_18 : P_law 18 = (some [0, 1, 2, 3], .iload_n 3, []) := by decide +kernel
theorem r_law_19 : P_law 19 = (none, .aload_n 0, []) := by decide +kernel
theorem r_law_20 : P_law 20 = (none, .arraylength, []) := by decide +kernel
theorem r_law_21 : P_law 21 = (none, .bipush 6, []) := by decide +kernel
theorem r_law_23 : P_law 23 = (none, .isub, []) := by decide +kernel
theorem r_law_24 : P_law 24 = (none, .if_icmp .gt 945, [969]) := by decide +kernel
theorem r_law_27 : P_law 27 = (none, .aload_n 0, []) := by decide +kernel
theorem r_law_28 : P_law 28 = (none, .iload_n 3, []) := by decide +kernel
theorem r_law_29 : P_law 29 = (none, .iaload, []) := by decide +kernel
theorem r_law_30 : P_law 30 = (none, .bipush 31, []) := by decide +kernel
theorem r_law_32 : P_law 32 = (none, .iand, []) := by decide +kernel
theorem r_law_33 : P_law 33 = (none, .tableswitch 930 0 21 #[103, 166, 189, 212, 245, 288, 321, 364, 408, 451, 494, 527, 560, 593, 626, 669, 692, 715, 758, 791, 834, 887], [963, 136, 199, 222, 245, 278, 321, 354, 397, 441, 484, 527, 560, 593, 626, 659, 702, 725, 748, 791, 824, 867, 920]) := by decide +kernel
theorem r_law_136 : P_law 136 = (some [0, 1, 2, 3], .aload_n 1, []) := by decide +kernel
theorem r_law_137 : P_law 137 = (none, .aload_n 0, []) := by decide +kernel
theorem r_law_138 : P_law 138 = (none, .iload_n 3, []) := by decide +kernel
theorem r_law_139 : P_law 139 = (none, .iconst 1, []) := by decide +kernel
theorem r_law_140 : P_law 140 = (none, .iadd, []) := by decide +kernel
theorem r_law_141 : P_law 141 = (none, .iaload, []) := by decide +kernel
theorem r_law_142 : P_law 142 = (none, .aload_n 0, []) := by decide +kernel
theorem r_law_143 : P_law 143 = (none, .iload_n 3, []) := by decide +kernel
theorem r_law_144 : P_law 144 = (none, .iconst 2, []) := by decide +kernel
theorem r_law_145 : P_law 145 = (none, .iadd, []) := by decide +kernel
theorem r_law_146 : P_law 146 = (none, .iaload, []) := by decide +kernel
theorem r_law_147 : P_law 147 = (none, .aload_n 0, []) := by decide +kernel
theorem r_law_148 : P_law 148 = (none, .iload_n 3, []) := by decide +kernel
theorem r_law_149 : P_law 149 = (none, .iconst 3, []) := by decide +kernel
theorem r_law_150 : P_law 150 = (none, .iadd, []) := by decide +kernel
theorem r_law_151 : P_law 151 = (none, .iaload, []) := by decide +kernel
theorem r_law_152 : P_law 152 = (none, .aload_n 0, []) := by decide +kernel
theorem r_law_153 : P_law 153 = (none, .iload_n 3, []) := by decide +kernel
theorem r_law_154 : P_law 154 = (none, .iconst 4, []) := by decide +kernel
theorem r_law_155 : P_law 155 = (none, .iadd, []) := by decide +kernel
theorem r_law_156 : P_law 156 = (none, .iaload, []) := by decide +kernel
theorem r_law_157 : P_law 157 = (none, .aload_n 0, []) := by decide +kernel
theorem r_law_158 : P_law 158 = (none, .iload_n 3, []) := by decide +kernel
theorem r_law_159 : P_law 159 = (none, .iconst 5, []) := by decide +kernel
theorem r_law_160 : P_law 160 = (none, .iadd, []) := by decide +kernel
theorem r_law_161 : P_law 161 = (none, .iaload, []) := by decide +kernel
theorem r_law_162 : P_law 162 = (none, .invokevirtual 13, []) := by decide +kernel
theorem r_law_165 : P_law 165 = (none, .aload_n 2, []) := by decide +kernel
theorem r_law_166 : P_law 166 = (none, .aload_n 0, []) := by decide +kernel
theorem r_law_167 : P_law 167 = (none, .iload_n 3, []) := by decide +kernel
theorem r_law_168 : P_law 168 = (none, .iconst 1, []) := by decide +kernel
theorem r_law_169 : P_law 169 = (none, .iadd, []) := by decide +kernel
theorem r_law_170 : P_law 170 = (none, .iaload, []) := by decide +kernel
theorem r_law_171 : P_law 171 = (none, .aload_n 0, []) := by decide +kernel
theorem r_law_172 : P_law 172 = (none, .iload_n 3, []) := by decide +kernel
theorem r_law_173 : P_law 173 = (none, .iconst 2, []) := by decide +kernel
theorem r_law_174 : P_law 174 = (none, .iadd, []) := by decide +kernel
theorem r_law_175 : P_law 175 = (none, .iaload, []) := by decide +kernel
theorem r_law_176 : P_law 176 = (none, .aload_n 0, []) := by decide +kernel
theorem r_law_177 : P_law 177 = (none, .iload_n 3, []) := by decide +kernel
theorem r_law_178 : P_law 178 = (none, .iconst 3, []) := by decide +kernel
theorem r_law_179 : P_law 179 = (none, .iadd, []) := by decide +kernel
theorem r_law_180 : P_law 180 = (none, .iaload, []) := by decide +kernel
theorem r_law_181 : P_law 181 = (none, .aload_n 0, []) := by decide +kernel
theorem r_law_182 : P_law 182 = (none, .iload_n 3, []) := by decide +kernel
theorem r_law_183 : P_law 183 = (none, .iconst 4, []) := by decide +kernel
theorem r_law_184 : P_law 184 = (none, .iadd, []) := by decide +kernel
theorem r_law_185 : P_law 185 = (none, .iaload, []) := by decide +kernel
theorem r_law_186 : P_law 186 = (none, .aload_n 0, []) := by decide +kernel
theorem r_law_187 : P_law 187 = (none, .iload_n 3, []) := by decide +kernel
theorem r_law_188 : P_law 188 = (none, .iconst 5, []) := by decide +kernel
theorem r_law_189 : P_law 189 = (none, .iadd, []) := by decide +kernel
theorem r_law_190 : P_law 190 = (none, .iaload, []) := by decide +kernel
theorem r_law_191 : P_law 191 = (none, .invokevirtual 17, []) := by decide +kernel
theorem r_law_194 : P_law 194 = (none, .if_icmp .eq 769, [963]) := by decide +kernel
theorem r_law_197 : P_law 197 = (none, .iconst 0, []) := by decide +kernel
theorem r_law_198 : P_law 198 = (none, .ireturn, []) := by decide +kernel
theorem r_law_199 : P_law 199 = (some [0, 1, 2, 3], .aload_n 1, []) := by decide +kernel
theorem r_law_200 : P_law 200 = (none, .aload_n 0, []) := by decide +kernel
theorem r_law_201 : P_law 201 = (none, .iload_n 3, []) := by decide +kernel
theorem r_law_202 : P_law 202 = (none, .iconst 1, []) := by decide +kernel
theorem r_law_203 : P_law 203 = (none, .iadd, []) := by decide +kernel
theorem r_law_204 : P_law 204 = (none, .iaload, []) := by decide +kernel
theorem r_law_205 : P_law 205 = (none, .invokevirtual 18, []) := by decide +kernel
theorem r_law_208 : P_law 208 = (none, .aload_n 2, []) := by decide +kernel
theorem r_law_209 : P_law 209 = (none, .aload_n 0, []) := by decide +kernel
theorem r_law_210 : P_law 210 = (none, .iload_n 3, []) := by decide +kernel
theorem r_law_211 : P_law 211 = (none, .iconst 1, []) := by decide +kernel
theorem r_law_212 : P_law 212 = (none, .iadd, []) := by decide +kernel
theorem r_law_213 : P_law 213 = (none, .iaload, []) := by decide +kernel
theorem r_law_214 : P_law 214 = (none, .invokevirtual 22, []) := by decide +kernel
theorem r_law_217 : P_law 217 = (none, .if_icmp .eq 746, [963]) := by decide +kernel
theorem r_law_220 : P_law 220 = (none, .iconst 0, []) := by decide +kernel
theorem r_law_221 : P_law 221 = (none, .ireturn, []) := by decide +kernel
theorem r_law_222 : P_law 222 = (some [0, 1, 2, 3], .aload_n 1, []) := by decide +kernel
theorem r_law_223 : P_law 223 = (none, .aload_n 0, []) := by decide +kernel
theorem r_law_224 : P_law 224 = (none, .iload_n 3, []) := by decide +kernel
theorem r_law_225 : P_law 225 = (none, .iconst 1, []) := by decide +kernel
theorem r_law_226 : P_law 226 = (none, .iadd, []) := by decide +kernel
theorem r_law_227 : P_law 227 = (none, .iaload, []) := by decide +kernel
theorem r_law_228 : P_law 228 = (none, .invokevirtual 23, []) := by decide +kernel
theorem r_law_231 : P_law 231 = (none, .aload_n 2, []) := by decide +kernel
theorem r_law_232 : P_law 232 = (none, .aload_n 0, []) := by decide +kernel
theorem r_law_233 : P_law 233 = (none, .iload_n 3, []) := by decide +kernel
theorem r_law_234 : P_law 234 = (none, .iconst 1, []) := by decide +kernel
theorem r_law_235 : P_law 235 = (none, .iadd, []) := by decide +kernel
theorem r_law_236 : P_law 236 = (none, .iaload, []) := by decide +kernel
theorem r_law_237 : P_law 237 = (none, .invokevirtual 26, []) := by decide +kernel
theorem r_law_240 : P_law 240 = (none, .if_icmp .eq 723, [963]) := by decide +kernel
theorem r_law_243 : P_law 243 = (none, .iconst 0, []) := by decide +kernel
theorem r_law_244 : P_law 244 = (none, .ireturn, []) := by decide +kernel
theorem r_law_245 : P_law 245 = (some [0, 1, 2, 3], .aload_n 1, []) := by decide +kernel
theorem r_law_246 : P_law 246 = (none, .aload_n 0, []) := by decide +kernel
theorem r_law_247 : P_law 247 = (none, .iload_n 3, []) := by decide +kernel
theorem r_law_248 : P_law 248 = (none, .iconst 1, []) := by decide +kernel
theorem r_law_249 : P_law 249 = (none, .iadd, []) := by decide +kernel
theorem r_law_250 : P_law 250 = (none, .iaload, []) := by decide +kernel
theorem r_law_251 : P_law 251 = (none, .aload_n 0, []) := by decide +kernel
theorem r_law_252 : P_law 252 = (none, .iload_n 3, []) := by decide +kernel
theorem r_law_253 : P_law 253 = (none, .iconst 2, []) := by decide +kernel
theorem r_law_254 : P_law 254 = (none, .iadd, []) := by decide +kernel
theorem r_law_255 : P_law 255 = (none, .iaload, []) := by decide +kernel
theorem r_law_256 : P_law 256 = (none, .invokevirtual 27, []) := by decide +kernel
theorem r_law_259 : P_law 259 = (none, .aload_n 2, []) := by decide +kernel
theorem r_law_260 : P_law 260 = (none, .aload_n 0, []) := by decide +kernel
theorem r_law_261 : P_law 261 = (none, .iload_n 3, []) := by decide +kernel
theorem r_law_262 : P_law 262 = (none, .iconst 1, []) := by decide +kernel
theorem r_law_263 : P_law 263 = (none, .iadd, []) := by decide +kernel
theorem r_law_264 : P_law 264 = (none, .iaload, []) := by decide +kernel
theorem r_law_265 : P_law 265 = (none, .aload_n 0, []) := by decide +kernel
theorem r_law_266 : P_law 266 = (none, .iload_n 3, []) := by decide +kernel
theorem r_law_267 : P_law 267 = (none, .iconst 2, []) := by decide +kernel
theorem r_law_268 : P_law 268 = (none, .iadd, []) := by decide +kernel
theorem r_law_269 : P_law 269 = (none, .iaload, []) := by decide +kernel
theorem r_law_270 : P_law 270 = (none, .invokevirtual 31, []) := by decide +kernel
theorem r_law_273 : P_law 273 = (none, .if_icmp .eq 690, [963]) := by decide +kernel
theorem r_law_276 : P_law 276 = (none, .iconst 0, []) := by decide +kernel
theorem r_law_277 : P_law 277 = (none, .ireturn, []) := by decide +kernel
theorem r_law_278 : P_law 278 = (some [0, 1, 2, 3], .aload_n 1, []) := by decide +kernel
theorem r_law_279 : P_law 279 = (none, .aload_n 0, []) := by decide +kernel
theorem r_law_280 : P_law 280 = (none, .iload_n 3, []) := by decide +kernel
theorem r_law_281 : P_law 281 = (none, .iconst 1, []) := by decide +kernel
theorem r_law_282 : P_law 282 = (none, .iadd, []) := by decide +kernel
theorem r_law_283 : P_law 283 = (none, .iaload, []) := by decide +kernel
theorem r_law_284 : P_law 284 = (none, .aload_n 0, []) := by decide +kernel
theorem r_law_285 : P_law 285 = (none, .iload_n 3, []) := by decide +kernel
theorem r_law_286 : P_law 286 = (none, .iconst 2, []) := by decide +kernel
theorem r_law_287 : P_law 287 = (none, .iadd, []) := by decide +kernel
theorem r_law_288 : P_law 288 = (none, .iaload, []) := by decide +kernel
theorem r_law_289 : P_law 289 = (none, .aload_n 0, []) := by decide +kernel
theorem r_law_290 : P_law 290 = (none, .iload_n 3, []) := by decide +kernel
theorem r_law_291 : P_law 291 = (none, .iconst 3, []) := by decide +kernel
theorem r_law_292 : P_law 292 = (none, .iadd, []) := by decide +kernel
theorem r_law_293 : P_law 293 = (none, .iaload, []) := by decide +kernel
theorem r_law_294 : P_law 294 = (none, .invokevirtual 32, []) := by decide +kernel
theorem r_law_297 : P_law 297 = (none, .aload_n 2, []) := by decide +kernel
theorem r_law_298 : P_law 298 = (none, .aload_n 0, []) := by decide +kernel
theorem r_law_299 : P_law 299 = (none, .iload_n 3, []) := by decide +kernel
theorem r_law_300 : P_law 300 = (none, .iconst 1, []) := by decide +kernel
theorem r_law_301 : P_law 301 = (none, .iadd, []) := by decide +kernel
theorem r_law_302 : P_law 302 = (none, .iaload, []) := by decide +kernel
theorem r_law_303 : P_law 303 = (none, .aload_n 0, []) := by decide +kernel
theorem r_law_304 : P_law 304 = (none, .iload_n 3, []) := by decide +kernel
theorem r_law_305 : P_law 305 = (none, .iconst 2, []) := by decide +kernel
theorem r_law_306 : P_law 306 = (none, .iadd, []) := by decide +kernel
theorem r_law_307 : P_law 307 = (none, .iaload, []) := by decide +kernel
theorem r_law_308 : P_law 308 = (none, .aload_n 0, []) := by decide +kernel
theorem r_law_309 : P_law 309 = (none, .iload_n 3, []) := by decide +kernel
theorem r_law_310 : P_law 310 = (none, .iconst 3, []) := by decide +kernel
theorem r_law_311 : P_law 311 = (none, .iadd, []) := by decide +kernel
theorem r_law_312 : P_law 312 = (none, .iaload, []) := by decide +kernel
theorem r_law_313 : P_law 313 = (none, .invokevirtual 36, []) := by decide +kernel
theorem r_law_316 : P_law 316 = (none, .if_icmp .eq 647, [963]) := by decide +kernel
theorem r_law_319 : P_law 319 = (none, .iconst 0, []) := by decide +kernel
theorem r_law_320 : P_law 320 = (none, .ireturn, []) := by decide +kernel
theorem r_law_321 : P_law 321 = (some [0, 1, 2, 3], .aload_n 1, []) := by decide +kernel
theorem r_law_322 : P_law 322 = (none, .aload_n 0, []) := by decide +kernel
theorem r_law_323 : P_law 323 = (none, .iload_n 3, []) := by decide +kernel
theorem r_law_324 : P_law 324 = (none, .iconst 1, []) := by decide +kernel
theorem r_law_325 : P_law 325 = (none, .iadd, []) := by decide +kernel
theorem r_law_326 : P_law 326 = (none, .iaload, []) := by decide +kernel
theorem r_law_327 : P_law 327 = (none, .aload_n 0, []) := by decide +kernel
theorem r_law_328 : P_law 328 = (none, .iload_n 3, []) := by decide +kernel
theorem r_law_329 : P_law 329 = (none, .iconst 2, []) := by decide +kernel
theorem r_law_330 : P_law 330 = (none, .iadd, []) := by decide +kernel
theorem r_law_331 : P_law 331 = (none, .iaload, []) := by decide +kernel
theorem r_law_332 : P_law 332 = (none, .invokevirtual 37, []) := by decide +kernel
theorem r_law_335 : P_law 335 = (none, .aload_n 2, []) := by decide +kernel
theorem r_law_336 : P_law 336 = (none, .aload_n 0, []) := by decide +kernel
theorem r_law_337 : P_law 337 = (none, .iload_n 3, []) := by decide +kernel
theorem r_law_338 : P_law 338 = (none, .iconst 1, []) := by decide +kernel
theorem r_law_339 : P_law 339 = (none, .iadd, []) := by decide +kernel
theorem r_law_340 : P_law 340 = (none, .iaload, []) := by decide +kernel
theorem r_law_341 : P_law 341 = (none, .aload_n 0, []) := by decide +kernel
theorem r_law_342 : P_law 342 = (none, .iload_n 3, []) := by decide +kernel
theorem r_law_343 : P_law 343 = (none, .iconst 2, []) := by decide +kernel
theorem r_law_344 : P_law 344 = (none, .iadd, []) := by decide +kernel
theorem r_law_345 : P_law 345 = (none, .iaload, []) := by decide +kernel
theorem r_law_346 : P_law 346 = (none, .invokevirtual 40, []) := by decide +kernel
theorem r_law_349 : P_law 349 = (none, .if_icmp .eq 614, [963]) := by decide +kernel
theorem r_law_352 : P_law 352 = (none, .iconst 0, []) := by decide +kernel
theorem r_law_353 : P_law 353 = (none, .ireturn, []) := by decide +kernel
theorem r_law_354 : P_law 354 = (some [0, 1, 2, 3], .aload_n 1, []) := by decide +kernel
theorem r_law_355 : P_law 355 = (none, .aload_n 0, []) := by decide +kernel
theorem r_law_356 : P_law 356 = (none, .iload_n 3, []) := by decide +kernel
theorem r_law_357 : P_law 357 = (none, .iconst 1, []) := by decide +kernel
theorem r_law_358 : P_law 358 = (none, .iadd, []) := by decide +kernel
theorem r_law_359 : P_law 359 = (none, .iaload, []) := by decide +kernel
theorem r_law_360 : P_law 360 = (none, .aload_n 0, []) := by decide +kernel
theorem r_law_361 : P_law 361 = (none, .iload_n 3, []) := by decide +kernel
theorem r_law_362 : P_law 362 = (none, .iconst 2, []) := by decide +kernel
theorem r_law_363 : P_law 363 = (none, .iadd, []) := by decide +kernel
theorem r_law_364 : P_law 364 = (none, .iaload, []) := by decide +kernel
theorem r_law_365 : P_law 365 = (none, .aload_n 0, []) := by decide +kernel
theorem r_law_366 : P_law 366 = (none, .iload_n 3, []) := by decide +kernel
theorem r_law_367 : P_law 367 = (none, .iconst 3, []) := by decide +kernel
theorem r_law_368 : P_law 368 = (none, .iadd, []) := by decide +kernel
theorem r_law_369 : P_law 369 = (none, .iaload, []) := by decide +kernel
theorem r_law_370 : P_law 370 = (none, .invokevirtual 41, []) := by decide +kernel
theorem r_law_373 : P_law 373 = (none, .aload_n 2, []) := by decide +kernel
theorem r_law_374 : P_law 374 = (none, .aload_n 0, []) := by decide +kernel
theorem r_law_375 : P_law 375 = (none, .iload_n 3, []) := by decide +kernel
theorem r_law_376 : P_law 376 = (none, .iconst 1, []) := by decide +kernel
theorem r_law_377 : P_law 377 = (none, .iadd, []) := by decide +kernel
theorem r_law_378 : P_law 378 = (none, .iaload, []) := by decide +kernel
theorem r_law_379 : P_law 379 = (none, .aload_n 0, []) := by decide +kernel
theorem r_law_380 : P_law 380 = (none, .iload_n 3, []) := by decide +kernel
theorem r_law_381 : P_law 381 = (none, .iconst 2, []) := by decide +kernel
theorem r_law_382 : P_law 382 = (none, .iadd, []) := by decide +kernel
theorem r_law_383 : P_law 383 = (none, .iaload, []) := by decide +kernel
theorem r_law_384 : P_law 384 = (none, .aload_n 0, []) := by decide +kernel
theorem r_law_385 : P_law 385 = (none, .iload_n 3, []) := by decide +kernel
theorem r_law_386 : P_law 386 = (none, .iconst 3, []) := by decide +kernel
theorem r_law_387 : P_law 387 = (none, .iadd, []) := by decide +kernel
theorem r_law_388 : P_law 388 = (none, .iaload, []) := by decide +kernel
theorem r_law_389 : P_law 389 = (none, .invokevirtual 44, []) := by decide +kernel
theorem r_law_392 : P_law 392 = (none, .if_icmp .eq 571, [963]) := by decide +kernel
theorem r_law_395 : P_law 395 = (none, .iconst 0, []) := by decide +kernel
theorem r_law_396 : P_law 396 = (none, .ireturn, []) := by decide +kernel
theorem r_law_397 : P_law 397 = (some [0, 1, 2, 3], .aload_n 1, []) := by decide +kernel
theorem r_law_398 : P_law 398 = (none, .aload_n 0, []) := by decide +kernel
theorem r_law_399 : P_law 399 = (none, .iload_n 3, []) := by decide +kernel
theorem r_law_400 : P_law 400 = (none, .iconst 1, []) := by decide +kernel
theorem r_law_401 : P_law 401 = (none, .iadd, []) := by decide +kernel
theorem r_law_402 : P_law 402 = (none, .iaload, []) := by decide +kernel
theorem r_law_403 : P_law 403 = (none, .aload_n 0, []) := by decide +kernel
theorem r_law_404 : P_law 404 = (none, .iload_n 3, []) := by decide +kernel
theorem r_law_405 : P_law 405 = (none, .iconst 2, []) := by decide +kernel
theorem r_law_406 : P_law 406 = (none, .iadd, []) := by decide +kernel
theorem r_law_407 : P_law 407 = (none, .iaload, []) := by decide +kernel
theorem r_law_408 : P_law 408 = (none, .aload_n 0, []) := by decide +kernel
theorem r_law_409 : P_law 409 = (none, .iload_n 3, []) := by decide +kernel
theorem r_law_410 : P_law 410 = (none, .iconst 3, []) := by decide +kernel
theorem r_law_411 : P_law 411 = (none, .iadd, []) := by decide +kernel
theorem r_law_412 : P_law 412 = (none, .iaload, []) := by decide +kernel
theorem r_law_413 : P_law 413 = (none, .invokevirtual 45, []) := by decide +kernel
theorem r_law_416 : P_law 416 = (none, .aload_n 2, []) := by decide +kernel
theorem r_law_417 : P_law 417 = (none, .aload_n 0, []) := by decide +kernel
theorem r_law_418 : P_law 418 = (none, .iload_n 3, []) := by decide +kernel
theorem r_law_419 : P_law 419 = (none, .iconst 1, []) := by decide +kernel
theorem r_law_420 : P_law 420 = (none, .iadd, []) := by decide +kernel
theorem r_law_421 : P_law 421 = (none, .iaload, []) := by decide +kernel
theorem r_law_422 : P_law 422 = (none, .aload_n 0, []) := by decide +kernel
theorem r_law_423 : P_law 423 = (none, .iload_n 3, []) := by decide +kernel
theorem r_law_424 : P_law 424 = (none, .iconst 2, []) := by decide +kernel
theorem r_law_425 : P_law 425 = (none, .iadd, []) := by decide +kernel
theorem r_law_426 : P_law 426 = (none, .iaload, []) := by decide +kernel
theorem r_law_427 : P_law 427 = (none, .aload_n 0, []) := by decide +kernel
theorem r_law_428 : P_law 428 = (none, .iload_n 3, []) := by decide +kernel
theorem r_law_429 : P_law 429 = (none, .iconst 3, []) := by decide +kernel
theorem r_law_430 : P_law 430 = (none, .iadd, []) := by decide +kernel
theorem r_law_431 : P_law 431 = (none, .iaload, []) := by decide +kernel
theorem r_law_432 : P_law 432 = (none, .invokevirtual 49, []) := by decide +kernel
theorem r_law_435 : P_law 435 = (none, .lcmp, []) := by decide +kernel
theorem r_law_436 : P_law 436 = (none, .ifCond .eq 527, [963]) := by decide +kernel
theorem r_law_439 : P_law 439 = (none, .iconst 0, []) := by decide +kernel
theorem r_law_440 : P_law 440 = (none, .ireturn, []) := by decide +kernel
theorem r_law_441 : P_law 441 = (some [0, 1, 2, 3], .aload_n 1, []) := by decide +kernel
theorem r_law_442 : P_law 442 = (none, .aload_n 0, []) := by decide +kernel
theorem r_law_443 : P_law 443 = (none, .iload_n 3, []) := by decide +kernel
theorem r_law_444 : P_law 444 = (none, .iconst 1, []) := by decide +kernel
theorem r_law_445 : P_law 445 = (none, .iadd, []) := by decide +kernel
theorem r_law_446 : P_law 446 = (none, .iaload, []) := by decide +kernel
theorem r_law_447 : P_law 447 = (none, .aload_n 0, []) := by decide +kernel
theorem r_law_448 : P_law 448 = (none, .iload_n 3, []) := by decide +kernel
theorem r_law_449 : P_law 449 = (none, .iconst 2, []) := by decide +kernel
theorem r_law_450 : P_law 450 = (none, .iadd, []) := by decide +kernel
theorem r_law_451 : P_law 451 = (none, .iaload, []) := by decide +kernel
theorem r_law_452 : P_law 452 = (none, .aload_n 0, []) := by decide +kernel
theorem r_law_453 : P_law 453 = (none, .iload_n 3, []) := by decide +kernel
theorem r_law_454 : P_law 454 = (none, .iconst 3, []) := by decide +kernel
theorem r_law_455 : P_law 455 = (none, .iadd, []) := by decide +kernel
theorem r_law_456 : P_law 456 = (none, .iaload, []) := by decide +kernel
theorem r_law_457 : P_law 457 = (none, .invokevirtual 50, []) := by decide +kernel
theorem r_law_460 : P_law 460 = (none, .aload_n 2, []) := by decide +kernel
theorem r_law_461 : P_law 461 = (none, .aload_n 0, []) := by decide +kernel
theorem r_law_462 : P_law 462 = (none, .iload_n 3, []) := by decide +kernel
theorem r_law_463 : P_law 463 = (none, .iconst 1, []) := by decide +kernel
theorem r_law_464 : P_law 464 = (none, .iadd, []) := by decide +kernel
theorem r_law_465 : P_law 465 = (none, .iaload, []) := by decide +kernel
theorem r_law_466 : P_law 466 = (none, .aload_n 0, []) := by decide +kernel
theorem r_law_467 : P_law 467 = (none, .iload_n 3, []) := by decide +kernel
theorem r_law_468 : P_law 468 = (none, .iconst 2, []) := by decide +kernel
theorem r_law_469 : P_law 469 = (none, .iadd, []) := by decide +kernel
theorem r_law_470 : P_law 470 = (none, .iaload, []) := by decide +kernel
theorem r_law_471 : P_law 471 = (none, .aload_n 0, []) := by decide +kernel
theorem r_law_472 : P_law 472 = (none, .iload_n 3, []) := by decide +kernel
theorem r_law_473 : P_law 473 = (none, .iconst 3, []) := by decide +kernel
theorem r_law_474 : P_law 474 = (none, .iadd, []) := by decide +kernel
theorem r_law_475 : P_law 475 = (none, .iaload, []) := by decide +kernel
theorem r_law_476 : P_law 476 = (none, .invokevirtual 53, []) := by decide +kernel
theorem r_law_479 : P_law 479 = (none, .if_icmp .eq 484, [963]) := by decide +kernel
theorem r_law_482 : P_law 482 = (none, .iconst 0, []) := by decide +kernel
theorem r_law_483 : P_law 483 = (none, .ireturn, []) := by decide +kernel
theorem r_law_484 : P_law 484 = (some [0, 1, 2, 3], .aload_n 1, []) := by decide +kernel
theorem r_law_485 : P_law 485 = (none, .aload_n 0, []) := by decide +kernel
theorem r_law_486 : P_law 486 = (none, .iload_n 3, []) := by decide +kernel
theorem r_law_487 : P_law 487 = (none, .iconst 1, []) := by decide +kernel
theorem r_law_488 : P_law 488 = (none, .iadd, []) := by decide +kernel
theorem r_law_489 : P_law 489 = (none, .iaload, []) := by decide +kernel
theorem r_law_490 : P_law 490 = (none, .aload_n 0, []) := by decide +kernel
theorem r_law_491 : P_law 491 = (none, .iload_n 3, []) := by decide +kernel
theorem r_law_492 : P_law 492 = (none, .iconst 2, []) := by decide +kernel
theorem r_law_493 : P_law 493 = (none, .iadd, []) := by decide +kernel
theorem r_law_494 : P_law 494 = (none, .iaload, []) := by decide +kernel
theorem r_law_495 : P_law 495 = (none, .aload_n 0, []) := by decide +kernel
theorem r_law_496 : P_law 496 = (none, .iload_n 3, []) := by decide +kernel
theorem r_law_497 : P_law 497 = (none, .iconst 3, []) := by decide +kernel
theorem r_law_498 : P_law 498 = (none, .iadd, []) := by decide +kernel
theorem r_law_499 : P_law 499 = (none, .iaload, []) := by decide +kernel
theorem r_law_500 : P_law 500 = (none, .invokevirtual 54, []) := by decide +kernel
theorem r_law_503 : P_law 503 = (none, .aload_n 2, []) := by decide +kernel
theorem r_law_504 : P_law 504 = (none, .aload_n 0, []) := by decide +kernel
theorem r_law_505 : P_law 505 = (none, .iload_n 3, []) := by decide +kernel
theorem r_law_506 : P_law 506 = (none, .iconst 1, []) := by decide +kernel
theorem r_law_507 : P_law 507 = (none, .iadd, []) := by decide +kernel
theorem r_law_508 : P_law 508 = (none, .iaload, []) := by decide +kernel
theorem r_law_509 : P_law 509 = (none, .aload_n 0, []) := by decide +kernel
theorem r_law_510 : P_law 510 = (none, .iload_n 3, []) := by decide +kernel
theorem r_law_511 : P_law 511 = (none, .iconst 2, []) := by decide +kernel
theorem r_law_512 : P_law 512 = (none, .iadd, []) := by decide +kernel
theorem r_law_513 : P_law 513 = (none, .iaload, []) := by decide +kernel
theorem r_law_514 : P_law 514 = (none, .aload_n 0, []) := by decide +kernel
theorem r_law_515 : P_law 515 = (none, .iload_n 3, []) := by decide +kernel
theorem r_law_516 : P_law 516 = (none, .iconst 3, []) := by decide +kernel
theorem r_law_517 : P_law 517 = (none, .iadd, []) := by decide +kernel
theorem r_law_518 : P_law 518 = (none, .iaload, []) := by decide +kernel
theorem r_law_519 : P_law 519 = (none, .invokevirtual 57, []) := by decide +kernel
theorem r_law_522 : P_law 522 = (none, .if_icmp .eq 441, [963]) := by decide +kernel
theorem r_law_525 : P_law 525 = (none, .iconst 0, []) := by decide +kernel
theorem r_law_526 : P_law 526 = (none, .ireturn, []) := by decide +kernel
theorem r_law_527 : P_law 527 = (some [0, 1, 2, 3], .aload_n 1, []) := by decide +kernel
theorem r_law_528 : P_law 528 = (none, .aload_n 0, []) := by decide +kernel
theorem r_law_529 : P_law 529 = (none, .iload_n 3, []) := by decide +kernel
theorem r_law_530 : P_law 530 = (none, .iconst 1, []) := by decide +kernel
theorem r_law_531 : P_law 531 = (none, .iadd, []) := by decide +kernel
theorem r_law_532 : P_law 532 = (none, .iaload, []) := by decide +kernel
theorem r_law_533 : P_law 533 = (none, .aload_n 0, []) := by decide +kernel
theorem r_law_534 : P_law 534 = (none, .iload_n 3, []) := by decide +kernel
theorem r_law_535 : P_law 535 = (none, .iconst 2, []) := by decide +kernel
theorem r_law_536 : P_law 536 = (none, .iadd, []) := by decide +kernel
theorem r_law_537 : P_law 537 = (none, .iaload, []) := by decide +kernel
theorem r_law_538 : P_law 538 = (none, .invokevirtual 58, []) := by decide +kernel
theorem r_law_541 : P_law 541 = (none, .aload_n 2, []) := by decide +kernel
theorem r_law_542 : P_law 542 = (none, .aload_n 0, []) := by decide +kernel
theorem r_law_543 : P_law 543 = (none, .iload_n 3, []) := by decide +kernel
theorem r_law_544 : P_law 544 = (none, .iconst 1, []) := by decide +kernel
theorem r_law_545 : P_law 545 = (none, .iadd, []) := by decide +kernel
theorem r_law_546 : P_law 546 = (none, .iaload, []) := by decide +kernel
theorem r_law_547 : P_law 547 = (none, .aload_n 0, []) := by decide +kernel
theorem r_law_548 : P_law 548 = (none, .iload_n 3, []) := by decide +kernel
theorem r_law_549 : P_law 549 = (none, .iconst 2, []) := by decide +kernel
theorem r_law_550 : P_law 550 = (none, .iadd, []) := by decide +kernel
theorem r_law_551 : P_law 551 = (none, .iaload, []) := by decide +kernel
theorem r_law_552 : P_law 552 = (none, .invokevirtual 61, []) := by decide +kernel
theorem r_law_555 : P_law 555 = (none, .if_icmp .eq 408, [963]) := by decide +kernel
theorem r_law_558 : P_law 558 = (none, .iconst 0, []) := by decide +kernel
theorem r_law_559 : P_law 559 = (none, .ireturn, []) := by decide +kernel
theorem r_law_560 : P_law 560 = (some [0, 1, 2, 3], .aload_n 1, []) := by decide +kernel
theorem r_law_561 : P_law 561 = (none, .aload_n 0, []) := by decide +kernel
theorem r_law_562 : P_law 562 = (none, .iload_n 3, []) := by decide +kernel
theorem r_law_563 : P_law 563 = (none, .iconst 1, []) := by decide +kernel
theorem r_law_564 : P_law 564 = (none, .iadd, []) := by decide +kernel
theorem r_law_565 : P_law 565 = (none, .iaload, []) := by decide +kernel
theorem r_law_566 : P_law 566 = (none, .aload_n 0, []) := by decide +kernel
theorem r_law_567 : P_law 567 = (none, .iload_n 3, []) := by decide +kernel
theorem r_law_568 : P_law 568 = (none, .iconst 2, []) := by decide +kernel
theorem r_law_569 : P_law 569 = (none, .iadd, []) := by decide +kernel
theorem r_law_570 : P_law 570 = (none, .iaload, []) := by decide +kernel
theorem r_law_571 : P_law 571 = (none, .invokevirtual 62, []) := by decide +kernel
theorem r_law_574 : P_law 574 = (none, .aload_n 2, []) := by decide +kernel
theorem r_law_575 : P_law 575 = (none, .aload_n 0, []) := by decide +kernel
theorem r_law_576 : P_law 576 = (none, .iload_n 3, []) := by decide +kernel
theorem r_law_577 : P_law 577 = (none, .iconst 1, []) := by decide +kernel
theorem r_law_578 : P_law 578 = (none, .iadd, []) := by decide +kernel
theorem r_law_579 : P_law 579 = (none, .iaload, []) := by decide +kernel
theorem r_law_580 : P_law 580 = (none, .aload_n 0, []) := by decide +kernel
theorem r_law_581 : P_law 581 = (none, .iload_n 3, []) := by decide +kernel
theorem r_law_582 : P_law 582 = (none, .iconst 2, []) := by decide +kernel
theorem r_law_583 : P_law 583 = (none, .iadd, []) := by decide +kernel
theorem r_law_584 : P_law 584 = (none, .iaload, []) := by decide +kernel
theorem r_law_585 : P_law 585 = (none, .invokevirtual 65, []) := by decide +kernel
theorem r_law_588 : P_law 588 = (none, .if_icmp .eq 375, [963]) := by decide +kernel
theorem r_law_591 : P_law 591 = (none, .iconst 0, []) := by decide +kernel
theorem r_law_592 : P_law 592 = (none, .ireturn, []) := by decide +kernel
theorem r_law_593 : P_law 593 = (some [0, 1, 2, 3], .aload_n 1, []) := by decide +kernel
theorem r_law_594 : P_law 594 = (none, .aload_n 0, []) := by decide +kernel
theorem r_law_595 : P_law 595 = (none, .iload_n 3, []) := by decide +kernel
theorem r_law_596 : P_law 596 = (none, .iconst 1, []) := by decide +kernel
theorem r_law_597 : P_law 597 = (none, .iadd, []) := by decide +kernel
theorem r_law_598 : P_law 598 = (none, .iaload, []) := by decide +kernel
theorem r_law_599 : P_law 599 = (none, .aload_n 0, []) := by decide +kernel
theorem r_law_600 : P_law 600 = (none, .iload_n 3, []) := by decide +kernel
theorem r_law_601 : P_law 601 = (none, .iconst 2, []) := by decide +kernel
theorem r_law_602 : P_law 602 = (none, .iadd, []) := by decide +kernel
theorem r_law_603 : P_law 603 = (none, .iaload, []) := by decide +kernel
theorem r_law_604 : P_law 604 = (none, .invokevirtual 66, []) := by decide +kernel
theorem r_law_607 : P_law 607 = (none, .aload_n 2, []) := by decide +kernel
theorem r_law_608 : P_law 608 = (none, .aload_n 0, []) := by decide +kernel
theorem r_law_609 : P_law 609 = (none, .iload_n 3, []) := by decide +kernel
theorem r_law_610 : P_law 610 = (none, .iconst 1, []) := by decide +kernel
theorem r_law_611 : P_law 611 = (none, .iadd, []) := by decide +kernel
theorem r_law_612 : P_law 612 = (none, .iaload, []) := by decide +kernel
theorem r_law_613 : P_law 613 = (none, .aload_n 0, []) := by decide +kernel
theorem r_law_614 : P_law 614 = (none, .iload_n 3, []) := by decide +kernel
theorem r_law_615 : P_law 615 = (none, .iconst 2, []) := by decide +kernel
theorem r_law_616 : P_law 616 = (none, .iadd, []) := by decide +kernel
theorem r_law_617 : P_law 617 = (none, .iaload, []) := by decide +kernel
theorem r_law_618 : P_law 618 = (none, .invokevirtual 69, []) := by decide +kernel
theorem r_law_621 : P_law 621 = (none, .if_icmp .eq 342, [963]) := by decide +kernel
theorem r_law_624 : P_law 624 = (none, .iconst 0, []) := by decide +kernel
theorem r_law_625 : P_law 625 = (none, .ireturn, []) := by decide +kernel
theorem r_law_626 : P_law 626 = (some [0, 1, 2, 3], .aload_n 1, []) := by decide +kernel
theorem r_law_627 : P_law 627 = (none, .aload_n 0, []) := by decide +kernel
theorem r_law_628 : P_law 628 = (none, .iload_n 3, []) := by decide +kernel
theorem r_law_629 : P_law 629 = (none, .iconst 1, []) := by decide +kernel
theorem r_law_630 : P_law 630 = (none, .iadd, []) := by decide +kernel
theorem r_law_631 : P_law 631 = (none, .iaload, []) := by decide +kernel
theorem r_law_632 : P_law 632 = (none, .aload_n 0, []) := by decide +kernel
theorem r_law_633 : P_law 633 = (none, .iload_n 3, []) := by decide +kernel
theorem r_law_634 : P_law 634 = (none, .iconst 2, []) := by decide +kernel
theorem r_law_635 : P_law 635 = (none, .iadd, []) := by decide +kernel
theorem r_law_636 : P_law 636 = (none, .iaload, []) := by decide +kernel
theorem r_law_637 : P_law 637 = (none, .invokevirtual 70, []) := by decide +kernel
theorem r_law_640 : P_law 640 = (none, .aload_n 2, []) := by decide +kernel
theorem r_law_641 : P_law 641 = (none, .aload_n 0, []) := by decide +kernel
theorem r_law_642 : P_law 642 = (none, .iload_n 3, []) := by decide +kernel
theorem r_law_643 : P_law 643 = (none, .iconst 1, []) := by decide +kernel
theorem r_law_644 : P_law 644 = (none, .iadd, []) := by decide +kernel
theorem r_law_645 : P_law 645 = (none, .iaload, []) := by decide +kernel
theorem r_law_646 : P_law 646 = (none, .aload_n 0, []) := by decide +kernel
theorem r_law_647 : P_law 647 = (none, .iload_n 3, []) := by decide +kernel
theorem r_law_648 : P_law 648 = (none, .iconst 2, []) := by decide +kernel
theorem r_law_649 : P_law 649 = (none, .iadd, []) := by decide +kernel
theorem r_law_650 : P_law 650 = (none, .iaload, []) := by decide +kernel
theorem r_law_651 : P_law 651 = (none, .invokevirtual 73, []) := by decide +kernel
theorem r_law_654 : P_law 654 = (none, .if_icmp .eq 309, [963]) := by decide +kernel
theorem r_law_657 : P_law 657 = (none, .iconst 0, []) := by decide +kernel
theorem r_law_658 : P_law 658 = (none, .ireturn, []) := by decide +kernel
theorem r_law_659 : P_law 659 = (some [0, 1, 2, 3], .aload_n 1, []) := by decide +kernel
theorem r_law_660 : P_law 660 = (none, .aload_n 0, []) := by decide +kernel
theorem r_law_661 : P_law 661 = (none, .iload_n 3, []) := by decide +kernel
theorem r_law_662 : P_law 662 = (none, .iconst 1, []) := by decide +kernel
theorem r_law_663 : P_law 663 = (none, .iadd, []) := by decide +kernel
theorem r_law_664 : P_law 664 = (none, .iaload, []) := by decide +kernel
theorem r_law_665 : P_law 665 = (none, .aload_n 0, []) := by decide +kernel
theorem r_law_666 : P_law 666 = (none, .iload_n 3, []) := by decide +kernel
theorem r_law_667 : P_law 667 = (none, .iconst 2, []) := by decide +kernel
theorem r_law_668 : P_law 668 = (none, .iadd, []) := by decide +kernel
theorem r_law_669 : P_law 669 = (none, .iaload, []) := by decide +kernel
theorem r_law_670 : P_law 670 = (none, .aload_n 0, []) := by decide +kernel
theorem r_law_671 : P_law 671 = (none, .iload_n 3, []) := by decide +kernel
theorem r_law_672 : P_law 672 = (none, .iconst 3, []) := by decide +kernel
theorem r_law_673 : P_law 673 = (none, .iadd, []) := by decide +kernel
theorem r_law_674 : P_law 674 = (none, .iaload, []) := by decide +kernel
theorem r_law_675 : P_law 675 = (none, .invokevirtual 74, []) := by decide +kernel
theorem r_law_678 : P_law 678 = (none, .aload_n 2, []) := by decide +kernel
theorem r_law_679 : P_law 679 = (none, .aload_n 0, []) := by decide +kernel
theorem r_law_680 : P_law 680 = (none, .iload_n 3, []) := by decide +kernel
theorem r_law_681 : P_law 681 = (none, .iconst 1, []) := by decide +kernel
theorem r_law_682 : P_law 682 = (none, .iadd, []) := by decide +kernel
theorem r_law_683 : P_law 683 = (none, .iaload, []) := by decide +kernel
theorem r_law_684 : P_law 684 = (none, .aload_n 0, []) := by decide +kernel
theorem r_law_685 : P_law 685 = (none, .iload_n 3, []) := by decide +kernel
theorem r_law_686 : P_law 686 = (none, .iconst 2, []) := by decide +kernel
theorem r_law_687 : P_law 687 = (none, .iadd, []) := by decide +kernel
theorem r_law_688 : P_law 688 = (none, .iaload, []) := by decide +kernel
theorem r_law_689 : P_law 689 = (none, .aload_n 0, []) := by decide +kernel
theorem r_law_690 : P_law 690 = (none, .iload_n 3, []) := by decide +kernel
theorem r_law_691 : P_law 691 = (none, .iconst 3, []) := by decide +kernel
theorem r_law_692 : P_law 692 = (none, .iadd, []) := by decide +kernel
theorem r_law_693 : P_law 693 = (none, .iaload, []) := by decide +kernel
theorem r_law_694 : P_law 694 = (none, .invokevirtual 77, []) := by decide +kernel
theorem r_law_697 : P_law 697 = (none, .if_icmp .eq 266, [963]) := by decide +kernel
theorem r_law_700 : P_law 700 = (none, .iconst 0, []) := by decide +kernel
theorem r_law_701 : P_law 701 = (none, .ireturn, []) := by decide +kernel
theorem r_law_702 : P_law 702 = (some [0, 1, 2, 3], .aload_n 1, []) := by decide +kernel
theorem r_law_703 : P_law 703 = (none, .aload_n 0, []) := by decide +kernel
theorem r_law_704 : P_law 704 = (none, .iload_n 3, []) := by decide +kernel
theorem r_law_705 : P_law 705 = (none, .iconst 1, []) := by decide +kernel
theorem r_law_706 : P_law 706 = (none, .iadd, []) := by decide +kernel
theorem r_law_707 : P_law 707 = (none, .iaload, []) := by decide +kernel
theorem r_law_708 : P_law 708 = (none, .invokevirtual 78, []) := by decide +kernel
theorem r_law_711 : P_law 711 = (none, .aload_n 2, []) := by decide +kernel
theorem r_law_712 : P_law 712 = (none, .aload_n 0, []) := by decide +kernel
theorem r_law_713 : P_law 713 = (none, .iload_n 3, []) := by decide +kernel
theorem r_law_714 : P_law 714 = (none, .iconst 1, []) := by decide +kernel
theorem r_law_715 : P_law 715 = (none, .iadd, []) := by decide +kernel
theorem r_law_716 : P_law 716 = (none, .iaload, []) := by decide +kernel
theorem r_law_717 : P_law 717 = (none, .invokevirtual 81, []) := by decide +kernel
theorem r_law_720 : P_law 720 = (none, .if_icmp .eq 243, [963]) := by decide +kernel
theorem r_law_723 : P_law 723 = (none, .iconst 0, []) := by decide +kernel
theorem r_law_724 : P_law 724 = (none, .ireturn, []) := by decide +kernel
theorem r_law_725 : P_law 725 = (some [0, 1, 2, 3], .aload_n 1, []) := by decide +kernel
theorem r_law_726 : P_law 726 = (none, .aload_n 0, []) := by decide +kernel
theorem r_law_727 : P_law 727 = (none, .iload_n 3, []) := by decide +kernel
theorem r_law_728 : P_law 728 = (none, .iconst 1, []) := by decide +kernel
theorem r_law_729 : P_law 729 = (none, .iadd, []) := by decide +kernel
theorem r_law_730 : P_law 730 = (none, .iaload, []) := by decide +kernel
theorem r_law_731 : P_law 731 = (none, .invokevirtual 82, []) := by decide +kernel
theorem r_law_734 : P_law 734 = (none, .aload_n 2, []) := by decide +kernel
theorem r_law_735 : P_law 735 = (none, .aload_n 0, []) := by decide +kernel
theorem r_law_736 : P_law 736 = (none, .iload_n 3, []) := by decide +kernel
theorem r_law_737 : P_law 737 = (none, .iconst 1, []) := by decide +kernel
theorem r_law_738 : P_law 738 = (none, .iadd, []) := by decide +kernel
theorem r_law_739 : P_law 739 = (none, .iaload, []) := by decide +kernel
theorem r_law_740 : P_law 740 = (none, .invokevirtual 85, []) := by decide +kernel
theorem r_law_743 : P_law 743 = (none, .if_icmp .eq 220, [963]) := by decide +kernel
theorem r_law_746 : P_law 746 = (none, .iconst 0, []) := by decide +kernel
theorem r_law_747 : P_law 747 = (none, .ireturn, []) := by decide +kernel
theorem r_law_748 : P_law 748 = (some [0, 1, 2, 3], .aload_n 1, []) := by decide +kernel
theorem r_law_749 : P_law 749 = (none, .aload_n 0, []) := by decide +kernel
theorem r_law_750 : P_law 750 = (none, .iload_n 3, []) := by decide +kernel
theorem r_law_751 : P_law 751 = (none, .iconst 1, []) := by decide +kernel
theorem r_law_752 : P_law 752 = (none, .iadd, []) := by decide +kernel
theorem r_law_753 : P_law 753 = (none, .iaload, []) := by decide +kernel
theorem r_law_754 : P_law 754 = (none, .aload_n 0, []) := by decide +kernel
theorem r_law_755 : P_law 755 = (none, .iload_n 3, []) := by decide +kernel
theorem r_law_756 : P_law 756 = (none, .iconst 2, []) := by decide +kernel
theorem r_law_757 : P_law 757 = (none, .iadd, []) := by decide +kernel
theorem r_law_758 : P_law 758 = (none, .iaload, []) := by decide +kernel
theorem r_law_759 : P_law 759 = (none, .aload_n 0, []) := by decide +kernel
theorem r_law_760 : P_law 760 = (none, .iload_n 3, []) := by decide +kernel
theorem r_law_761 : P_law 761 = (none, .iconst 3, []) := by decide +kernel
theorem r_law_762 : P_law 762 = (none, .iadd, []) := by decide +kernel
theorem r_law_763 : P_law 763 = (none, .iaload, []) := by decide +kernel
theorem r_law_764 : P_law 764 = (none, .invokevirtual 86, []) := by decide +kernel
theorem r_law_767 : P_law 767 = (none, .aload_n 2, []) := by decide +kernel
theorem r_law_768 : P_law 768 = (none, .aload_n 0, []) := by decide +kernel
theorem r_law_769 : P_law 769 = (none, .iload_n 3, []) := by decide +kernel
theorem r_law_770 : P_law 770 = (none, .iconst 1, []) := by decide +kernel
theorem r_law_771 : P_law 771 = (none, .iadd, []) := by decide +kernel
theorem r_law_772 : P_law 772 = (none, .iaload, []) := by decide +kernel
theorem r_law_773 : P_law 773 = (none, .aload_n 0, []) := by decide +kernel
theorem r_law_774 : P_law 774 = (none, .iload_n 3, []) := by decide +kernel
theorem r_law_775 : P_law 775 = (none, .iconst 2, []) := by decide +kernel
theorem r_law_776 : P_law 776 = (none, .iadd, []) := by decide +kernel
theorem r_law_777 : P_law 777 = (none, .iaload, []) := by decide +kernel
theorem r_law_778 : P_law 778 = (none, .aload_n 0, []) := by decide +kernel
theorem r_law_779 : P_law 779 = (none, .iload_n 3, []) := by decide +kernel
theorem r_law_780 : P_law 780 = (none, .iconst 3, []) := by decide +kernel
theorem r_law_781 : P_law 781 = (none, .iadd, []) := by decide +kernel
theorem r_law_782 : P_law 782 = (none, .iaload, []) := by decide +kernel
theorem r_law_783 : P_law 783 = (none, .invokevirtual 89, []) := by decide +kernel
theorem r_law_786 : P_law 786 = (none, .if_icmp .eq 177, [963]) := by decide +kernel
theorem r_law_789 : P_law 789 = (none, .iconst 0, []) := by decide +kernel
theorem r_law_790 : P_law 790 = (none, .ireturn, []) := by decide +kernel
theorem r_law_791 : P_law 791 = (some [0, 1, 2, 3], .aload_n 1, []) := by decide +kernel
theorem r_law_792 : P_law 792 = (none, .aload_n 0, []) := by decide +kernel
theorem r_law_793 : P_law 793 = (none, .iload_n 3, []) := by decide +kernel
theorem r_law_794 : P_law 794 = (none, .iconst 1, []) := by decide +kernel
theorem r_law_795 : P_law 795 = (none, .iadd, []) := by decide +kernel
theorem r_law_796 : P_law 796 = (none, .iaload, []) := by decide +kernel
theorem r_law_797 : P_law 797 = (none, .aload_n 0, []) := by decide +kernel
theorem r_law_798 : P_law 798 = (none, .iload_n 3, []) := by decide +kernel
theorem r_law_799 : P_law 799 = (none, .iconst 2, []) := by decide +kernel
theorem r_law_800 : P_law 800 = (none, .iadd, []) := by decide +kernel
theorem r_law_801 : P_law 801 = (none, .iaload, []) := by decide +kernel
theorem r_law_802 : P_law 802 = (none, .invokevirtual 90, []) := by decide +kernel
theorem r_law_805 : P_law 805 = (none, .aload_n 2, []) := by decide +kernel
theorem r_law_806 : P_law 806 = (none, .aload_n 0, []) := by decide +kernel
theorem r_law_807 : P_law 807 = (none, .iload_n 3, []) := by decide +kernel
theorem r_law_808 : P_law 808 = (none, .iconst 1, []) := by decide +kernel
theorem r_law_809 : P_law 809 = (none, .iadd, []) := by decide +kernel
theorem r_law_810 : P_law 810 = (none, .iaload, []) := by decide +kernel
theorem r_law_811 : P_law 811 = (none, .aload_n 0, []) := by decide +kernel
theorem r_law_812 : P_law 812 = (none, .iload_n 3, []) := by decide +kernel
theorem r_law_813 : P_law 813 = (none, .iconst 2, []) := by decide +kernel
theorem r_law_814 : P_law 814 = (none, .iadd, []) := by decide +kernel
theorem r_law_815 : P_law 815 = (none, .iaload, []) := by decide +kernel
theorem r_law_816 : P_law 816 = (none, .invokevirtual 93, []) := by decide +kernel
theorem r_law_819 : P_law 819 = (none, .if_icmp .eq 144, [963]) := by decide +kernel
theorem r_law_822 : P_law 822 = (none, .iconst 0, []) := by decide +kernel
theorem r_law_823 : P_law 823 = (none, .ireturn, []) := by decide +kernel
theorem r_law_824 : P_law 824 = (some [0, 1, 2, 3], .aload_n 1, []) := by decide +kernel
theorem r_law_825 : P_law 825 = (none, .aload_n 0, []) := by decide +kernel
theorem r_law_826 : P_law 826 = (none, .iload_n 3, []) := by decide +kernel
theorem r_law_827 : P_law 827 = (none, .iconst 1, []) := by decide +kernel
theorem r_law_828 : P_law 828 = (none, .iadd, []) := by decide +kernel
theorem r_law_829 : P_law 829 = (none, .iaload, []) := by decide +kernel
theorem r_law_830 : P_law 830 = (none, .aload_n 0, []) := by decide +kernel
theorem r_law_831 : P_law 831 = (none, .iload_n 3, []) := by decide +kernel
theorem r_law_832 : P_law 832 = (none, .iconst 2, []) := by decide +kernel
theorem r_law_833 : P_law 833 = (none, .iadd, []) := by decide +kernel
theorem r_law_834 : P_law 834 = (none, .iaload, []) := by decide +kernel
theorem r_law_835 : P_law 835 = (none, .aload_n 0, []) := by decide +kernel
theorem r_law_836 : P_law 836 = (none, .iload_n 3, []) := by decide +kernel
theorem r_law_837 : P_law 837 = (none, .iconst 3, []) := by decide +kernel
theorem r_law_838 : P_law 838 = (none, .iadd, []) := by decide +kernel
theorem r_law_839 : P_law 839 = (none, .iaload, []) := by decide +kernel
theorem r_law_840 : P_law 840 = (none, .invokevirtual 94, []) := by decide +kernel
theorem r_law_843 : P_law 843 = (none, .aload_n 2, []) := by decide +kernel
theorem r_law_844 : P_law 844 = (none, .aload_n 0, []) := by decide +kernel
theorem r_law_845 : P_law 845 = (none, .iload_n 3, []) := by decide +kernel
theorem r_law_846 : P_law 846 = (none, .iconst 1, []) := by decide +kernel
theorem r_law_847 : P_law 847 = (none, .iadd, []) := by decide +kernel
theorem r_law_848 : P_law 848 = (none, .iaload, []) := by decide +kernel
theorem r_law_849 : P_law 849 = (none, .aload_n 0, []) := by decide +kernel
theorem r_law_850 : P_law 850 = (none, .iload_n 3, []) := by decide +kernel
theorem r_law_851 : P_law 851 = (none, .iconst 2, []) := by decide +kernel
theorem r_law_852 : P_law 852 = (none, .iadd, []) := by decide +kernel
theorem r_law_853 : P_law 853 = (none, .iaload, []) := by decide +kernel
theorem r_law_854 : P_law 854 = (none, .aload_n 0, []) := by decide +kernel
theorem r_law_855 : P_law 855 = (none, .iload_n 3, []) := by decide +kernel
theorem r_law_856 : P_law 856 = (none, .iconst 3, []) := by decide +kernel
theorem r_law_857 : P_law 857 = (none, .iadd, []) := by decide +kernel
theorem r_law_858 : P_law 858 = (none, .iaload, []) := by decide +kernel
theorem r_law_859 : P_law 859 = (none, .invokevirtual 97, []) := by decide +kernel
theorem r_law_862 : P_law 862 = (none, .if_icmp .eq 101, [963]) := by decide +kernel
theorem r_law_865 : P_law 865 = (none, .iconst 0, []) := by decide +kernel
theorem r_law_866 : P_law 866 = (none, .ireturn, []) := by decide +kernel
theorem r_law_867 : P_law 867 = (some [0, 1, 2, 3], .aload_n 1, []) := by decide +kernel
theorem r_law_868 : P_law 868 = (none, .aload_n 0, []) := by decide +kernel
theorem r_law_869 : P_law 869 = (none, .iload_n 3, []) := by decide +kernel
theorem r_law_870 : P_law 870 = (none, .iconst 1, []) := by decide +kernel
theorem r_law_871 : P_law 871 = (none, .iadd, []) := by decide +kernel
theorem r_law_872 : P_law 872 = (none, .iaload, []) := by decide +kernel
theorem r_law_873 : P_law 873 = (none, .aload_n 0, []) := by decide +kernel
theorem r_law_874 : P_law 874 = (none, .iload_n 3, []) := by decide +kernel
theorem r_law_875 : P_law 875 = (none, .iconst 2, []) := by decide +kernel
theorem r_law_876 : P_law 876 = (none, .iadd, []) := by decide +kernel
theorem r_law_877 : P_law 877 = (none, .iaload, []) := by decide +kernel
theorem r_law_878 : P_law 878 = (none, .aload_n 0, []) := by decide +kernel
theorem r_law_879 : P_law 879 = (none, .iload_n 3, []) := by decide +kernel
theorem r_law_880 : P_law 880 = (none, .iconst 3, []) := by decide +kernel
theorem r_law_881 : P_law 881 = (none, .iadd, []) := by decide +kernel
theorem r_law_882 : P_law 882 = (none, .iaload, []) := by decide +kernel
theorem r_law_883 : P_law 883 = (none, .aload_n 0, []) := by decide +kernel
theorem r_law_884 : P_law 884 = (none, .iload_n 3, []) := by decide +kernel
theorem r_law_885 : P_law 885 = (none, .iconst 4, []) := by decide +kernel
theorem r_law_886 : P_law 886 = (none, .iadd, []) := by decide +kernel
theorem r_law_887 : P_law 887 = (none, .iaload, []) := by decide +kernel
theorem r_law_888 : P_law 888 = (none, .invokevirtual 98, []) := by decide +kernel
theorem r_law_891 : P_law 891 = (none, .aload_n 2, []) := by decide +kernel
theorem r_law_892 : P_law 892 = (none, .aload_n 0, []) := by decide +kernel
theorem r_law_893 : P_law 893 = (none, .iload_n 3, []) := by decide +kernel
theorem r_law_894 : P_law 894 = (none, .iconst 1, []) := by decide +kernel
theorem r_law_895 : P_law 895 = (none, .iadd, []) := by decide +kernel
theorem r_law_896 : P_law 896 = (none, .iaload, []) := by decide +kernel
theorem r_law_897 : P_law 897 = (none, .aload_n 0, []) := by decide +kernel
theorem r_law_898 : P_law 898 = (none, .iload_n 3, []) := by decide +kernel
theorem r_law_899 : P_law 899 = (none, .iconst 2, []) := by decide +kernel
theorem r_law_900 : P_law 900 = (none, .iadd, []) := by decide +kernel
theorem r_law_901 : P_law 901 = (none, .iaload, []) := by decide +kernel
theorem r_law_902 : P_law 902 = (none, .aload_n 0, []) := by decide +kernel
theorem r_law_903 : P_law 903 = (none, .iload_n 3, []) := by decide +kernel
theorem r_law_904 : P_law 904 = (none, .iconst 3, []) := by decide +kernel
theorem r_law_905 : P_law 905 = (none, .iadd, []) := by decide +kernel
theorem r_law_906 : P_law 906 = (none, .iaload, []) := by decide +kernel
theorem r_law_907 : P_law 907 = (none, .aload_n 0, []) := by decide +kernel
theorem r_law_908 : P_law 908 = (none, .iload_n 3, []) := by decide +kernel
theorem r_law_909 : P_law 909 = (none, .iconst 4, []) := by decide +kernel
theorem r_law_910 : P_law 910 = (none, .iadd, []) := by decide +kernel
theorem r_law_911 : P_law 911 = (none, .iaload, []) := by decide +kernel
theorem r_law_912 : P_law 912 = (none, .invokevirtual 102, []) := by decide +kernel
theorem r_law_915 : P_law 915 = (none, .if_icmp .eq 48, [963]) := by decide +kernel
theorem r_law_918 : P_law 918 = (none, .iconst 0, []) := by decide +kernel
theorem r_law_919 : P_law 919 = (none, .ireturn, []) := by decide +kernel
theorem r_law_920 : P_law 920 = (some [0, 1, 2, 3], .aload_n 1, []) := by decide +kernel
theorem r_law_921 : P_law 921 = (none, .aload_n 0, []) := by decide +kernel
theorem r_law_922 : P_law 922 = (none, .iload_n 3, []) := by decide +kernel
theorem r_law_923 : P_law 923 = (none, .iconst 1, []) := by decide +kernel
theorem r_law_924 : P_law 924 = (none, .iadd, []) := by decide +kernel
theorem r_law_925 : P_law 925 = (none, .iaload, []) := by decide +kernel
theorem r_law_926 : P_law 926 = (none, .aload_n 0, []) := by decide +kernel
theorem r_law_927 : P_law 927 = (none, .iload_n 3, []) := by decide +kernel
theorem r_law_928 : P_law 928 = (none, .iconst 2, []) := by decide +kernel
theorem r_law_929 : P_law 929 = (none, .iadd, []) := by decide +kernel
theorem r_law_930 : P_law 930 = (none, .iaload, []) := by decide +kernel
theorem r_law_931 : P_law 931 = (none, .aload_n 0, []) := by decide +kernel
theorem r_law_932 : P_law 932 = (none, .iload_n 3, []) := by decide +kernel
theorem r_law_933 : P_law 933 = (none, .iconst 3, []) := by decide +kernel
theorem r_law_934 : P_law 934 = (none, .iadd, []) := by decide +kernel
theorem r_law_935 : P_law 935 = (none, .iaload, []) := by decide +kernel
theorem r_law_936 : P_law 936 = (none, .invokevirtual 103, []) := by decide +kernel
theorem r_law_939 : P_law 939 = (none, .aload_n 2, []) := by decide +kernel
theorem r_law_940 : P_law 940 = (none, .aload_n 0, []) := by decide +kernel
theorem r_law_941 : P_law 941 = (none, .iload_n 3, []) := by decide +kernel
theorem r_law_942 : P_law 942 = (none, .iconst 1, []) := by decide +kernel
theorem r_law_943 : P_law 943 = (none, .iadd, []) := by decide +kernel
theorem r_law_944 : P_law 944 = (none, .iaload, []) := by decide +kernel
theorem r_law_945 : P_law 945 = (none, .aload_n 0, []) := by decide +kernel
theorem r_law_946 : P_law 946 = (none, .iload_n 3, []) := by decide +kernel
theorem r_law_947 : P_law 947 = (none, .iconst 2, []) := by decide +kernel
theorem r_law_948 : P_law 948 = (none, .iadd, []) := by decide +kernel
theorem r_law_949 : P_law 949 = (none, .iaload, []) := by decide +kernel
theorem r_law_950 : P_law 950 = (none, .aload_n 0, []) := by decide +kernel
theorem r_law_951 : P_law 951 = (none, .iload_n 3, []) := by decide +kernel
theorem r_law_952 : P_law 952 = (none, .iconst 3, []) := by decide +kernel
theorem r_law_953 : P_law 953 = (none, .iadd, []) := by decide +kernel
theorem r_law_954 : P_law 954 = (none, .iaload, []) := by decide +kernel
theorem r_law_955 : P_law 955 = (none, .invokevirtual 106, []) := by decide +kernel
theorem r_law_958 : P_law 958 = (none, .if_icmp .eq 5, [963]) := by decide +kernel
theorem r_law_961 : P_law 961 = (none, .iconst 0, []) := by decide +kernel
theorem r_law_962 : P_law 962 = (none, .ireturn, []) := by decide +kernel
theorem r_law_963 : P_law 963 = (none, .iinc 3 6, []) := by decide +kernel
theorem r_law_966 : P_law 966 = (none, .goto (-948), [18]) := by decide +kernel
theorem r_law_969 : P_law 969 = (none, .iconst 1, []) := by decide +kernel
theorem r_law_970 : P_law 970 = (none, .ireturn, []) := by decide +kernel
def E_law : List (Nat × Ent) := [(49, (1, 1, 26, 283098, T_Model_init)), (37, (1, 3, 137, 123042, T_PR_init)), (408, (5, 8, 0, 0, T_Model_differs)), (412, (4, 1, 0, 0, T_PR_grown)), (424, (4, 3, 0, 0, T_Model_grown)), (52, (6, 1, 0, 0, T_PR_feed)), (68, (6, 0, 0, 0, T_Model_feed)), (72, (2, 1, 0, 0, T_PR_end)), (88, (2, 0, 0, 0, T_Model_end)), (92, (2, 7, 0, 0, T_PR_read)), (104, (2, 8, 0, 0, T_Model_read)), (108, (3, 2, 0, 0, T_PR_about)), (124, (3, 8, 0, 0, T_Model_about)), (128, (4, 1, 0, 0, T_PR_hole)), (144, (4, 1, 0, 0, T_Model_hole)), (148, (3, 2, 0, 0, T_PR_thing)), (160, (3, 3, 0, 0, T_Model_thing)), (164, (4, 3, 0, 0, T_PR_told)), (176, (4, 8, 0, 0, T_Model_told)), (180, (4, 3, 0, 0, T_PR_value)), (196, (4, 6, 0, 0, T_Model_value)), (200, (4, 3, 0, 0, T_PR_ref)), (212, (4, 6, 0, 0, T_Model_ref)), (216, (4, 2, 0, 0, T_PR_under)), (228, (4, 2, 0, 0, T_Model_under)), (232, (3, 3, 0, 0, T_PR_alive)), (244, (3, 9, 0, 0, T_Model_alive)), (248, (3, 3, 0, 0, T_PR_keeper)), (260, (3, 9, 0, 0, T_Model_keeper)), (264, (3, 3, 0, 0, T_PR_kept)), (276, (3, 9, 0, 0, T_Model_kept)), (280, (3, 3, 0, 0, T_PR_height)), (292, (3, 9, 0, 0, T_Model_height)), (296, (4, 3, 0, 0, T_PR_way)), (308, (4, 9, 0, 0, T_Model_way)), (312, (2, 1, 0, 0, T_PR_step)), (324, (2, 0, 0, 0, T_Model_step)), (328, (2, 1, 0, 0, T_PR_groups)), (340, (2, 7, 0, 0, T_Model_groups)), (344, (4, 3, 0, 0, T_PR_group)), (356, (4, 7, 0, 0, T_Model_group)), (360, (3, 2, 0, 0, T_PR_top)), (372, (3, 9, 0, 0, T_Model_top)), (376, (4, 6, 0, 0, T_PR_differ)), (388, (4, 8, 0, 0, T_Model_differ)), (392, (5, 6, 0, 0, T_PR_differs))]
def X_law : Cx := (llk (0, 0, 9) ftL, llk 99 ntL, llk none kcL, llk none klL, llk dEnt E_law, 10, 1, false)
theorem xok_law : Xok RL X_law := xok_of ftL_ok ntL_ok kcL_ok klL_ok (E := E_law) (List.forall_mem_cons.mpr ⟨co_L_49, List.forall_mem_cons.mpr ⟨co_L_37, List.forall_mem_cons.mpr ⟨co_L_408, List.forall_mem_cons.mpr ⟨co_L_412, List.forall_mem_cons.mpr ⟨co_L_424, List.forall_mem_cons.mpr ⟨co_L_52, List.forall_mem_cons.mpr ⟨co_L_68, List.forall_mem_cons.mpr ⟨co_L_72, List.forall_mem_cons.mpr ⟨co_L_88, List.forall_mem_cons.mpr ⟨co_L_92, List.forall_mem_cons.mpr ⟨co_L_104, List.forall_mem_cons.mpr ⟨co_L_108, List.forall_mem_cons.mpr ⟨co_L_124, List.forall_mem_cons.mpr ⟨co_L_128, List.forall_mem_cons.mpr ⟨co_L_144, List.forall_mem_cons.mpr ⟨co_L_148, List.forall_mem_cons.mpr ⟨co_L_160, List.forall_mem_cons.mpr ⟨co_L_164, List.forall_mem_cons.mpr ⟨co_L_176, List.forall_mem_cons.mpr ⟨co_L_180, List.forall_mem_cons.mpr ⟨co_L_196, List.forall_mem_cons.mpr ⟨co_L_200, List.forall_mem_cons.mpr ⟨co_L_212, List.forall_mem_cons.mpr ⟨co_L_216, List.forall_mem_cons.mpr ⟨co_L_228, List.forall_mem_cons.mpr ⟨co_L_232, List.forall_mem_cons.mpr ⟨co_L_244, List.forall_mem_cons.mpr ⟨co_L_248, List.forall_mem_cons.mpr ⟨co_L_260, List.forall_mem_cons.mpr ⟨co_L_264, List.forall_mem_cons.mpr ⟨co_L_276, List.forall_mem_cons.mpr ⟨co_L_280, List.forall_mem_cons.mpr ⟨co_L_292, List.forall_mem_cons.mpr ⟨co_L_296, List.forall_mem_cons.mpr ⟨co_L_308, List.forall_mem_cons.mpr ⟨co_L_312, List.forall_mem_cons.mpr ⟨co_L_324, List.forall_mem_cons.mpr ⟨co_L_328, List.forall_mem_cons.mpr ⟨co_L_340, List.forall_mem_cons.mpr ⟨co_L_344, List.forall_mem_cons.mpr ⟨co_L_356, List.forall_mem_cons.mpr ⟨co_L_360, List.forall_mem_cons.mpr ⟨co_L_372, List.forall_mem_cons.mpr ⟨co_L_376, List.forall_mem_cons.mpr ⟨co_L_388, List.forall_mem_cons.mpr ⟨co_L_392, fun _ h => absurd h List.not_mem_nil⟩⟩⟩⟩⟩⟩⟩⟩⟩⟩⟩⟩⟩⟩⟩⟩⟩⟩⟩⟩⟩⟩⟩⟩⟩⟩⟩⟩⟩⟩⟩⟩⟩⟩⟩⟩⟩⟩⟩⟩⟩⟩⟩⟩⟩⟩)
theorem xn_law_7 : xnc X_law 7 = 10 := by decide +kernel
theorem xn_law_10 : xnc X_law 10 = 11 := by decide +kernel
theorem xe_law_49 : xE X_law (4 * 12 + 1) = (1, 1, 26, 283098, T_Model_init) := rfl
theorem xe_law_37 : xE X_law (4 * 9 + 1) = (1, 3, 137, 123042, T_PR_init) := rfl
theorem xe_law_408 : xE X_law (4 * 102 + 0) = (5, 8, 0, 0, T_Model_differs) := rfl
theorem xe_law_412 : xE X_law (4 * 103 + 0) = (4, 1, 0, 0, T_PR_grown) := rfl
theorem xe_law_424 : xE X_law (4 * 106 + 0) = (4, 3, 0, 0, T_Model_grown) := rfl
theorem xe_law_52 : xE X_law (4 * 13 + 0) = (6, 1, 0, 0, T_PR_feed) := rfl
theorem xe_law_68 : xE X_law (4 * 17 + 0) = (6, 0, 0, 0, T_Model_feed) := rfl
theorem xe_law_72 : xE X_law (4 * 18 + 0) = (2, 1, 0, 0, T_PR_end) := rfl
theorem xe_law_88 : xE X_law (4 * 22 + 0) = (2, 0, 0, 0, T_Model_end) := rfl
theorem xe_law_92 : xE X_law (4 * 23 + 0) = (2, 7, 0, 0, T_PR_read) := rfl
theorem xe_law_104 : xE X_law (4 * 26 + 0) = (2, 8, 0, 0, T_Model_read) := rfl
theorem xe_law_108 : xE X_law (4 * 27 + 0) = (3, 2, 0, 0, T_PR_about) := rfl
theorem xe_law_124 : xE X_law (4 * 31 + 0) = (3, 8, 0, 0, T_Model_about) := rfl
theorem xe_law_128 : xE X_law (4 * 32 + 0) = (4, 1, 0, 0, T_PR_hole) := rfl
theorem xe_law_144 : xE X_law (4 * 36 + 0) = (4, 1, 0, 0, T_Model_hole) := rfl
theorem xe_law_148 : xE X_law (4 * 37 + 0) = (3, 2, 0, 0, T_PR_thing) := rfl
theorem xe_law_160 : xE X_law (4 * 40 + 0) = (3, 3, 0, 0, T_Model_thing) := rfl
theorem xe_law_164 : xE X_law (4 * 41 + 0) = (4, 3, 0, 0, T_PR_told) := rfl
theorem xe_law_176 : xE X_law (4 * 44 + 0) = (4, 8, 0, 0, T_Model_told) := rfl
theorem xe_law_180 : xE X_law (4 * 45 + 0) = (4, 3, 0, 0, T_PR_value) := rfl
theorem xe_law_196 : xE X_law (4 * 49 + 0) = (4, 6, 0, 0, T_Model_value) := rfl
theorem xe_law_200 : xE X_law (4 * 50 + 0) = (4, 3, 0, 0, T_PR_ref) := rfl
theorem xe_law_212 : xE X_law (4 * 53 + 0) = (4, 6, 0, 0, T_Model_ref) := rfl
theorem xe_law_216 : xE X_law (4 * 54 + 0) = (4, 2, 0, 0, T_PR_under) := rfl
theorem xe_law_228 : xE X_law (4 * 57 + 0) = (4, 2, 0, 0, T_Model_under) := rfl
theorem xe_law_232 : xE X_law (4 * 58 + 0) = (3, 3, 0, 0, T_PR_alive) := rfl
theorem xe_law_244 : xE X_law (4 * 61 + 0) = (3, 9, 0, 0, T_Model_alive) := rfl
theorem xe_law_248 : xE X_law (4 * 62 + 0) = (3, 3, 0, 0, T_PR_keeper) := rfl
theorem xe_law_260 : xE X_law (4 * 65 + 0) = (3, 9, 0, 0, T_Model_keeper) := rfl
theorem xe_law_264 : xE X_law (4 * 66 + 0) = (3, 3, 0, 0, T_PR_kept) := rfl
theorem xe_law_276 : xE X_law (4 * 69 + 0) = (3, 9, 0, 0, T_Model_kept) := rfl
theorem xe_law_280 : xE X_law (4 * 70 + 0) = (3, 3, 0, 0, T_PR_height) := rfl
theorem xe_law_292 : xE X_law (4 * 73 + 0) = (3, 9, 0, 0, T_Model_height) := rfl
theorem xe_law_296 : xE X_law (4 * 74 + 0) = (4, 3, 0, 0, T_PR_way) := rfl
theorem xe_law_308 : xE X_law (4 * 77 + 0) = (4, 9, 0, 0, T_Model_way) := rfl
theorem xe_law_312 : xE X_law (4 * 78 + 0) = (2, 1, 0, 0, T_PR_step) := rfl
theorem xe_law_324 : xE X_law (4 * 81 + 0) = (2, 0, 0, 0, T_Model_step) := rfl
theorem xe_law_328 : xE X_law (4 * 82 + 0) = (2, 1, 0, 0, T_PR_groups) := rfl
theorem xe_law_340 : xE X_law (4 * 85 + 0) = (2, 7, 0, 0, T_Model_groups) := rfl
theorem xe_law_344 : xE X_law (4 * 86 + 0) = (4, 3, 0, 0, T_PR_group) := rfl
theorem xe_law_356 : xE X_law (4 * 89 + 0) = (4, 7, 0, 0, T_Model_group) := rfl
theorem xe_law_360 : xE X_law (4 * 90 + 0) = (3, 2, 0, 0, T_PR_top) := rfl
theorem xe_law_372 : xE X_law (4 * 93 + 0) = (3, 9, 0, 0, T_Model_top) := rfl
theorem xe_law_376 : xE X_law (4 * 94 + 0) = (4, 6, 0, 0, T_PR_differ) := rfl
theorem xe_law_388 : xE X_law (4 * 97 + 0) = (4, 8, 0, 0, T_Model_differ) := rfl
theorem xe_law_392 : xE X_law (4 * 98 + 0) = (5, 6, 0, 0, T_PR_differs) := rfl
theorem xd_law : xd X_law = 10 := rfl
theorem xrb_law : xrb X_law = 1 := rfl
theorem xin_law : xin X_law = false := rfl

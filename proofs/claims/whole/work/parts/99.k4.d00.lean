def tl_0 : List (Nat × Option (List Nat) × Instr × List Nat) := [(0, none, .new 7, []), (3, none, .dup, []), (4, none, .invokespecial 9, []), (7, none, .astore_n 1, []), (8, none, .new 10, []), (11, none, .dup, []), (12, none, .invokespecial 12, []), (15, none, .astore_n 2, []), (16, none, .iconst 0, []), (17, none, .istore_n 3, [])]
set_option maxRecDepth 100000 in
theorem tl_0_ok : tblOK code 4 tl_0 = true := by decide +kernel
def tl_1 : List (Nat × Option (List Nat) × Instr × List Nat) := [(18, some [0, 1, 2, 3], .iload_n 3, []), (19, none, .aload_n 0, []), (20, none, .arraylength, []), (21, none, .bipush 6, []), (23, none, .isub, []), (24, none, .if_icmp .gt 945, [969]), (27, none, .aload_n 0, []), (28, none, .iload_n 3, []), (29, none, .iaload, []), (30, none, .bipush 31, [])]
set_option maxRecDepth 100000 in
theorem tl_1_ok : tblOK code 4 tl_1 = true := by decide +kernel
def tl_2 : List (Nat × Option (List Nat) × Instr × List Nat) := [(32, none, .iand, []), (33, none, .tableswitch 930 0 21 #[103, 166, 189, 212, 245, 288, 321, 364, 408, 451, 494, 527, 560, 593, 626, 669, 692, 715, 758, 791, 834, 887], [963, 136, 199, 222, 245, 278, 321, 354, 397, 441, 484, 527, 560, 593, 626, 659, 702, 725, 748, 791, 824, 867, 920]), (136, some [0, 1, 2, 3], .aload_n 1, []), (137, none, .aload_n 0, []), (138, none, .iload_n 3, []), (139, none, .iconst 1, []), (140, none, .iadd, []), (141, none, .iaload, []), (142, none, .aload_n 0, []), (143, none, .iload_n 3, [])]
set_option maxRecDepth 100000 in
theorem tl_2_ok : tblOK code 4 tl_2 = true := by decide +kernel
def tl_3 : List (Nat × Option (List Nat) × Instr × List Nat) := [(144, none, .iconst 2, []), (145, none, .iadd, []), (146, none, .iaload, []), (147, none, .aload_n 0, []), (148, none, .iload_n 3, []), (149, none, .iconst 3, []), (150, none, .iadd, []), (151, none, .iaload, []), (152, none, .aload_n 0, []), (153, none, .iload_n 3, [])]
set_option maxRecDepth 100000 in
theorem tl_3_ok : tblOK code 4 tl_3 = true := by decide +kernel
def tl_4 : List (Nat × Option (List Nat) × Instr × List Nat) := [(154, none, .iconst 4, []), (155, none, .iadd, []), (156, none, .iaload, []), (157, none, .aload_n 0, []), (158, none, .iload_n 3, []), (159, none, .iconst 5, []), (160, none, .iadd, []), (161, none, .iaload, []), (162, none, .invokevirtual 13, []), (165, none, .aload_n 2, [])]
set_option maxRecDepth 100000 in
theorem tl_4_ok : tblOK code 4 tl_4 = true := by decide +kernel

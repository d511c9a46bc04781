def tl_10 : List (Nat × Option (List Nat) × Instr × List Nat) := [(226, none, .iadd, []), (227, none, .iaload, []), (228, none, .invokevirtual 23, []), (231, none, .aload_n 2, []), (232, none, .aload_n 0, []), (233, none, .iload_n 3, []), (234, none, .iconst 1, []), (235, none, .iadd, []), (236, none, .iaload, []), (237, none, .invokevirtual 26, [])]
set_option maxRecDepth 100000 in
theorem tl_10_ok : tblOK code 4 tl_10 = true := by decide +kernel
def tl_11 : List (Nat × Option (List Nat) × Instr × List Nat) := [(240, none, .if_icmp .eq 723, [963]), (243, none, .iconst 0, []), (244, none, .ireturn, []), (245, some [0, 1, 2, 3], .aload_n 1, []), (246, none, .aload_n 0, []), (247, none, .iload_n 3, []), (248, none, .iconst 1, []), (249, none, .iadd, []), (250, none, .iaload, []), (251, none, .aload_n 0, [])]
set_option maxRecDepth 100000 in
theorem tl_11_ok : tblOK code 4 tl_11 = true := by decide +kernel
def tl_12 : List (Nat × Option (List Nat) × Instr × List Nat) := [(252, none, .iload_n 3, []), (253, none, .iconst 2, []), (254, none, .iadd, []), (255, none, .iaload, []), (256, none, .invokevirtual 27, []), (259, none, .aload_n 2, []), (260, none, .aload_n 0, []), (261, none, .iload_n 3, []), (262, none, .iconst 1, []), (263, none, .iadd, [])]
set_option maxRecDepth 100000 in
theorem tl_12_ok : tblOK code 4 tl_12 = true := by decide +kernel
def tl_13 : List (Nat × Option (List Nat) × Instr × List Nat) := [(264, none, .iaload, []), (265, none, .aload_n 0, []), (266, none, .iload_n 3, []), (267, none, .iconst 2, []), (268, none, .iadd, []), (269, none, .iaload, []), (270, none, .invokevirtual 31, []), (273, none, .if_icmp .eq 690, [963]), (276, none, .iconst 0, []), (277, none, .ireturn, [])]
set_option maxRecDepth 100000 in
theorem tl_13_ok : tblOK code 4 tl_13 = true := by decide +kernel
def tl_14 : List (Nat × Option (List Nat) × Instr × List Nat) := [(278, some [0, 1, 2, 3], .aload_n 1, []), (279, none, .aload_n 0, []), (280, none, .iload_n 3, []), (281, none, .iconst 1, []), (282, none, .iadd, []), (283, none, .iaload, []), (284, none, .aload_n 0, []), (285, none, .iload_n 3, []), (286, none, .iconst 2, []), (287, none, .iadd, [])]
set_option maxRecDepth 100000 in
theorem tl_14_ok : tblOK code 4 tl_14 = true := by decide +kernel

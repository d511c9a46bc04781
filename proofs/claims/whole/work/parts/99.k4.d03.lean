def tl_15 : List (Nat × Option (List Nat) × Instr × List Nat) := [(288, none, .iaload, []), (289, none, .aload_n 0, []), (290, none, .iload_n 3, []), (291, none, .iconst 3, []), (292, none, .iadd, []), (293, none, .iaload, []), (294, none, .invokevirtual 32, []), (297, none, .aload_n 2, []), (298, none, .aload_n 0, []), (299, none, .iload_n 3, [])]
set_option maxRecDepth 100000 in
theorem tl_15_ok : tblOK code 4 tl_15 = true := by decide +kernel
def tl_16 : List (Nat × Option (List Nat) × Instr × List Nat) := [(300, none, .iconst 1, []), (301, none, .iadd, []), (302, none, .iaload, []), (303, none, .aload_n 0, []), (304, none, .iload_n 3, []), (305, none, .iconst 2, []), (306, none, .iadd, []), (307, none, .iaload, []), (308, none, .aload_n 0, []), (309, none, .iload_n 3, [])]
set_option maxRecDepth 100000 in
theorem tl_16_ok : tblOK code 4 tl_16 = true := by decide +kernel
def tl_17 : List (Nat × Option (List Nat) × Instr × List Nat) := [(310, none, .iconst 3, []), (311, none, .iadd, []), (312, none, .iaload, []), (313, none, .invokevirtual 36, []), (316, none, .if_icmp .eq 647, [963]), (319, none, .iconst 0, []), (320, none, .ireturn, []), (321, some [0, 1, 2, 3], .aload_n 1, []), (322, none, .aload_n 0, []), (323, none, .iload_n 3, [])]
set_option maxRecDepth 100000 in
theorem tl_17_ok : tblOK code 4 tl_17 = true := by decide +kernel
def tl_18 : List (Nat × Option (List Nat) × Instr × List Nat) := [(324, none, .iconst 1, []), (325, none, .iadd, []), (326, none, .iaload, []), (327, none, .aload_n 0, []), (328, none, .iload_n 3, []), (329, none, .iconst 2, []), (330, none, .iadd, []), (331, none, .iaload, []), (332, none, .invokevirtual 37, []), (335, none, .aload_n 2, [])]
set_option maxRecDepth 100000 in
theorem tl_18_ok : tblOK code 4 tl_18 = true := by decide +kernel
def tl_19 : List (Nat × Option (List Nat) × Instr × List Nat) := [(336, none, .aload_n 0, []), (337, none, .iload_n 3, []), (338, none, .iconst 1, []), (339, none, .iadd, []), (340, none, .iaload, []), (341, none, .aload_n 0, []), (342, none, .iload_n 3, []), (343, none, .iconst 2, []), (344, none, .iadd, []), (345, none, .iaload, [])]
set_option maxRecDepth 100000 in
theorem tl_19_ok : tblOK code 4 tl_19 = true := by decide +kernel

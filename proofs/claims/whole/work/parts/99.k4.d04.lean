def tl_20 : List (Nat × Option (List Nat) × Instr × List Nat) := [(346, none, .invokevirtual 40, []), (349, none, .if_icmp .eq 614, [963]), (352, none, .iconst 0, []), (353, none, .ireturn, []), (354, some [0, 1, 2, 3], .aload_n 1, []), (355, none, .aload_n 0, []), (356, none, .iload_n 3, []), (357, none, .iconst 1, []), (358, none, .iadd, []), (359, none, .iaload, [])]
set_option maxRecDepth 100000 in
theorem tl_20_ok : tblOK code 4 tl_20 = true := by decide +kernel
def tl_21 : List (Nat × Option (List Nat) × Instr × List Nat) := [(360, none, .aload_n 0, []), (361, none, .iload_n 3, []), (362, none, .iconst 2, []), (363, none, .iadd, []), (364, none, .iaload, []), (365, none, .aload_n 0, []), (366, none, .iload_n 3, []), (367, none, .iconst 3, []), (368, none, .iadd, []), (369, none, .iaload, [])]
set_option maxRecDepth 100000 in
theorem tl_21_ok : tblOK code 4 tl_21 = true := by decide +kernel
def tl_22 : List (Nat × Option (List Nat) × Instr × List Nat) := [(370, none, .invokevirtual 41, []), (373, none, .aload_n 2, []), (374, none, .aload_n 0, []), (375, none, .iload_n 3, []), (376, none, .iconst 1, []), (377, none, .iadd, []), (378, none, .iaload, []), (379, none, .aload_n 0, []), (380, none, .iload_n 3, []), (381, none, .iconst 2, [])]
set_option maxRecDepth 100000 in
theorem tl_22_ok : tblOK code 4 tl_22 = true := by decide +kernel
def tl_23 : List (Nat × Option (List Nat) × Instr × List Nat) := [(382, none, .iadd, []), (383, none, .iaload, []), (384, none, .aload_n 0, []), (385, none, .iload_n 3, []), (386, none, .iconst 3, []), (387, none, .iadd, []), (388, none, .iaload, []), (389, none, .invokevirtual 44, []), (392, none, .if_icmp .eq 571, [963]), (395, none, .iconst 0, [])]
set_option maxRecDepth 100000 in
theorem tl_23_ok : tblOK code 4 tl_23 = true := by decide +kernel
def tl_24 : List (Nat × Option (List Nat) × Instr × List Nat) := [(396, none, .ireturn, []), (397, some [0, 1, 2, 3], .aload_n 1, []), (398, none, .aload_n 0, []), (399, none, .iload_n 3, []), (400, none, .iconst 1, []), (401, none, .iadd, []), (402, none, .iaload, []), (403, none, .aload_n 0, []), (404, none, .iload_n 3, []), (405, none, .iconst 2, [])]
set_option maxRecDepth 100000 in
theorem tl_24_ok : tblOK code 4 tl_24 = true := by decide +kernel

def tl_25 : List (Nat × Option (List Nat) × Instr × List Nat) := [(406, none, .iadd, []), (407, none, .iaload, []), (408, none, .aload_n 0, []), (409, none, .iload_n 3, []), (410, none, .iconst 3, []), (411, none, .iadd, []), (412, none, .iaload, []), (413, none, .invokevirtual 45, []), (416, none, .aload_n 2, []), (417, none, .aload_n 0, [])]
set_option maxRecDepth 100000 in
theorem tl_25_ok : tblOK code 4 tl_25 = true := by decide +kernel
def tl_26 : List (Nat × Option (List Nat) × Instr × List Nat) := [(418, none, .iload_n 3, []), (419, none, .iconst 1, []), (420, none, .iadd, []), (421, none, .iaload, []), (422, none, .aload_n 0, []), (423, none, .iload_n 3, []), (424, none, .iconst 2, []), (425, none, .iadd, []), (426, none, .iaload, []), (427, none, .aload_n 0, [])]
set_option maxRecDepth 100000 in
theorem tl_26_ok : tblOK code 4 tl_26 = true := by decide +kernel
def tl_27 : List (Nat × Option (List Nat) × Instr × List Nat) := [(428, none, .iload_n 3, []), (429, none, .iconst 3, []), (430, none, .iadd, []), (431, none, .iaload, []), (432, none, .invokevirtual 49, []), (435, none, .lcmp, []), (436, none, .ifCond .eq 527, [963]), (439, none, .iconst 0, []), (440, none, .ireturn, []), (441, some [0, 1, 2, 3], .aload_n 1, [])]
set_option maxRecDepth 100000 in
theorem tl_27_ok : tblOK code 4 tl_27 = true := by decide +kernel
def tl_28 : List (Nat × Option (List Nat) × Instr × List Nat) := [(442, none, .aload_n 0, []), (443, none, .iload_n 3, []), (444, none, .iconst 1, []), (445, none, .iadd, []), (446, none, .iaload, []), (447, none, .aload_n 0, []), (448, none, .iload_n 3, []), (449, none, .iconst 2, []), (450, none, .iadd, []), (451, none, .iaload, [])]
set_option maxRecDepth 100000 in
theorem tl_28_ok : tblOK code 4 tl_28 = true := by decide +kernel
def tl_29 : List (Nat × Option (List Nat) × Instr × List Nat) := [(452, none, .aload_n 0, []), (453, none, .iload_n 3, []), (454, none, .iconst 3, []), (455, none, .iadd, []), (456, none, .iaload, []), (457, none, .invokevirtual 50, []), (460, none, .aload_n 2, []), (461, none, .aload_n 0, []), (462, none, .iload_n 3, []), (463, none, .iconst 1, [])]
set_option maxRecDepth 100000 in
theorem tl_29_ok : tblOK code 4 tl_29 = true := by decide +kernel

def tl_30 : List (Nat × Option (List Nat) × Instr × List Nat) := [(464, none, .iadd, []), (465, none, .iaload, []), (466, none, .aload_n 0, []), (467, none, .iload_n 3, []), (468, none, .iconst 2, []), (469, none, .iadd, []), (470, none, .iaload, []), (471, none, .aload_n 0, []), (472, none, .iload_n 3, []), (473, none, .iconst 3, [])]
set_option maxRecDepth 100000 in
theorem tl_30_ok : tblOK code 4 tl_30 = true := by decide +kernel
def tl_31 : List (Nat × Option (List Nat) × Instr × List Nat) := [(474, none, .iadd, []), (475, none, .iaload, []), (476, none, .invokevirtual 53, []), (479, none, .if_icmp .eq 484, [963]), (482, none, .iconst 0, []), (483, none, .ireturn, []), (484, some [0, 1, 2, 3], .aload_n 1, []), (485, none, .aload_n 0, []), (486, none, .iload_n 3, []), (487, none, .iconst 1, [])]
set_option maxRecDepth 100000 in
theorem tl_31_ok : tblOK code 4 tl_31 = true := by decide +kernel
def tl_32 : List (Nat × Option (List Nat) × Instr × List Nat) := [(488, none, .iadd, []), (489, none, .iaload, []), (490, none, .aload_n 0, []), (491, none, .iload_n 3, []), (492, none, .iconst 2, []), (493, none, .iadd, []), (494, none, .iaload, []), (495, none, .aload_n 0, []), (496, none, .iload_n 3, []), (497, none, .iconst 3, [])]
set_option maxRecDepth 100000 in
theorem tl_32_ok : tblOK code 4 tl_32 = true := by decide +kernel
def tl_33 : List (Nat × Option (List Nat) × Instr × List Nat) := [(498, none, .iadd, []), (499, none, .iaload, []), (500, none, .invokevirtual 54, []), (503, none, .aload_n 2, []), (504, none, .aload_n 0, []), (505, none, .iload_n 3, []), (506, none, .iconst 1, []), (507, none, .iadd, []), (508, none, .iaload, []), (509, none, .aload_n 0, [])]
set_option maxRecDepth 100000 in
theorem tl_33_ok : tblOK code 4 tl_33 = true := by decide +kernel
def tl_34 : List (Nat × Option (List Nat) × Instr × List Nat) := [(510, none, .iload_n 3, []), (511, none, .iconst 2, []), (512, none, .iadd, []), (513, none, .iaload, []), (514, none, .aload_n 0, []), (515, none, .iload_n 3, []), (516, none, .iconst 3, []), (517, none, .iadd, []), (518, none, .iaload, []), (519, none, .invokevirtual 57, [])]
set_option maxRecDepth 100000 in
theorem tl_34_ok : tblOK code 4 tl_34 = true := by decide +kernel

def tl_35 : List (Nat × Option (List Nat) × Instr × List Nat) := [(522, none, .if_icmp .eq 441, [963]), (525, none, .iconst 0, []), (526, none, .ireturn, []), (527, some [0, 1, 2, 3], .aload_n 1, []), (528, none, .aload_n 0, []), (529, none, .iload_n 3, []), (530, none, .iconst 1, []), (531, none, .iadd, []), (532, none, .iaload, []), (533, none, .aload_n 0, [])]
set_option maxRecDepth 100000 in
theorem tl_35_ok : tblOK code 4 tl_35 = true := by decide +kernel
def tl_36 : List (Nat × Option (List Nat) × Instr × List Nat) := [(534, none, .iload_n 3, []), (535, none, .iconst 2, []), (536, none, .iadd, []), (537, none, .iaload, []), (538, none, .invokevirtual 58, []), (541, none, .aload_n 2, []), (542, none, .aload_n 0, []), (543, none, .iload_n 3, []), (544, none, .iconst 1, []), (545, none, .iadd, [])]
set_option maxRecDepth 100000 in
theorem tl_36_ok : tblOK code 4 tl_36 = true := by decide +kernel
def tl_37 : List (Nat × Option (List Nat) × Instr × List Nat) := [(546, none, .iaload, []), (547, none, .aload_n 0, []), (548, none, .iload_n 3, []), (549, none, .iconst 2, []), (550, none, .iadd, []), (551, none, .iaload, []), (552, none, .invokevirtual 61, []), (555, none, .if_icmp .eq 408, [963]), (558, none, .iconst 0, []), (559, none, .ireturn, [])]
set_option maxRecDepth 100000 in
theorem tl_37_ok : tblOK code 4 tl_37 = true := by decide +kernel
def tl_38 : List (Nat × Option (List Nat) × Instr × List Nat) := [(560, some [0, 1, 2, 3], .aload_n 1, []), (561, none, .aload_n 0, []), (562, none, .iload_n 3, []), (563, none, .iconst 1, []), (564, none, .iadd, []), (565, none, .iaload, []), (566, none, .aload_n 0, []), (567, none, .iload_n 3, []), (568, none, .iconst 2, []), (569, none, .iadd, [])]
set_option maxRecDepth 100000 in
theorem tl_38_ok : tblOK code 4 tl_38 = true := by decide +kernel
def tl_39 : List (Nat × Option (List Nat) × Instr × List Nat) := [(570, none, .iaload, []), (571, none, .invokevirtual 62, []), (574, none, .aload_n 2, []), (575, none, .aload_n 0, []), (576, none, .iload_n 3, []), (577, none, .iconst 1, []), (578, none, .iadd, []), (579, none, .iaload, []), (580, none, .aload_n 0, []), (581, none, .iload_n 3, [])]
set_option maxRecDepth 100000 in
theorem tl_39_ok : tblOK code 4 tl_39 = true := by decide +kernel

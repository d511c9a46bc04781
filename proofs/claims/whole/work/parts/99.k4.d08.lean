def tl_40 : List (Nat × Option (List Nat) × Instr × List Nat) := [(582, none, .iconst 2, []), (583, none, .iadd, []), (584, none, .iaload, []), (585, none, .invokevirtual 65, []), (588, none, .if_icmp .eq 375, [963]), (591, none, .iconst 0, []), (592, none, .ireturn, []), (593, some [0, 1, 2, 3], .aload_n 1, []), (594, none, .aload_n 0, []), (595, none, .iload_n 3, [])]
set_option maxRecDepth 100000 in
theorem tl_40_ok : tblOK code 4 tl_40 = true := by decide +kernel
def tl_41 : List (Nat × Option (List Nat) × Instr × List Nat) := [(596, none, .iconst 1, []), (597, none, .iadd, []), (598, none, .iaload, []), (599, none, .aload_n 0, []), (600, none, .iload_n 3, []), (601, none, .iconst 2, []), (602, none, .iadd, []), (603, none, .iaload, []), (604, none, .invokevirtual 66, []), (607, none, .aload_n 2, [])]
set_option maxRecDepth 100000 in
theorem tl_41_ok : tblOK code 4 tl_41 = true := by decide +kernel
def tl_42 : List (Nat × Option (List Nat) × Instr × List Nat) := [(608, none, .aload_n 0, []), (609, none, .iload_n 3, []), (610, none, .iconst 1, []), (611, none, .iadd, []), (612, none, .iaload, []), (613, none, .aload_n 0, []), (614, none, .iload_n 3, []), (615, none, .iconst 2, []), (616, none, .iadd, []), (617, none, .iaload, [])]
set_option maxRecDepth 100000 in
theorem tl_42_ok : tblOK code 4 tl_42 = true := by decide +kernel
def tl_43 : List (Nat × Option (List Nat) × Instr × List Nat) := [(618, none, .invokevirtual 69, []), (621, none, .if_icmp .eq 342, [963]), (624, none, .iconst 0, []), (625, none, .ireturn, []), (626, some [0, 1, 2, 3], .aload_n 1, []), (627, none, .aload_n 0, []), (628, none, .iload_n 3, []), (629, none, .iconst 1, []), (630, none, .iadd, []), (631, none, .iaload, [])]
set_option maxRecDepth 100000 in
theorem tl_43_ok : tblOK code 4 tl_43 = true := by decide +kernel
def tl_44 : List (Nat × Option (List Nat) × Instr × List Nat) := [(632, none, .aload_n 0, []), (633, none, .iload_n 3, []), (634, none, .iconst 2, []), (635, none, .iadd, []), (636, none, .iaload, []), (637, none, .invokevirtual 70, []), (640, none, .aload_n 2, []), (641, none, .aload_n 0, []), (642, none, .iload_n 3, []), (643, none, .iconst 1, [])]
set_option maxRecDepth 100000 in
theorem tl_44_ok : tblOK code 4 tl_44 = true := by decide +kernel

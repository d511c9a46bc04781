def tl_45 : List (Nat × Option (List Nat) × Instr × List Nat) := [(644, none, .iadd, []), (645, none, .iaload, []), (646, none, .aload_n 0, []), (647, none, .iload_n 3, []), (648, none, .iconst 2, []), (649, none, .iadd, []), (650, none, .iaload, []), (651, none, .invokevirtual 73, []), (654, none, .if_icmp .eq 309, [963]), (657, none, .iconst 0, [])]
set_option maxRecDepth 100000 in
theorem tl_45_ok : tblOK code 4 tl_45 = true := by decide +kernel
def tl_46 : List (Nat × Option (List Nat) × Instr × List Nat) := [(658, none, .ireturn, []), (659, some [0, 1, 2, 3], .aload_n 1, []), (660, none, .aload_n 0, []), (661, none, .iload_n 3, []), (662, none, .iconst 1, []), (663, none, .iadd, []), (664, none, .iaload, []), (665, none, .aload_n 0, []), (666, none, .iload_n 3, []), (667, none, .iconst 2, [])]
set_option maxRecDepth 100000 in
theorem tl_46_ok : tblOK code 4 tl_46 = true := by decide +kernel
def tl_47 : List (Nat × Option (List Nat) × Instr × List Nat) := [(668, none, .iadd, []), (669, none, .iaload, []), (670, none, .aload_n 0, []), (671, none, .iload_n 3, []), (672, none, .iconst 3, []), (673, none, .iadd, []), (674, none, .iaload, []), (675, none, .invokevirtual 74, []), (678, none, .aload_n 2, []), (679, none, .aload_n 0, [])]
set_option maxRecDepth 100000 in
theorem tl_47_ok : tblOK code 4 tl_47 = true := by decide +kernel
def tl_48 : List (Nat × Option (List Nat) × Instr × List Nat) := [(680, none, .iload_n 3, []), (681, none, .iconst 1, []), (682, none, .iadd, []), (683, none, .iaload, []), (684, none, .aload_n 0, []), (685, none, .iload_n 3, []), (686, none, .iconst 2, []), (687, none, .iadd, []), (688, none, .iaload, []), (689, none, .aload_n 0, [])]
set_option maxRecDepth 100000 in
theorem tl_48_ok : tblOK code 4 tl_48 = true := by decide +kernel
def tl_49 : List (Nat × Option (List Nat) × Instr × List Nat) := [(690, none, .iload_n 3, []), (691, none, .iconst 3, []), (692, none, .iadd, []), (693, none, .iaload, []), (694, none, .invokevirtual 77, []), (697, none, .if_icmp .eq 266, [963]), (700, none, .iconst 0, []), (701, none, .ireturn, []), (702, some [0, 1, 2, 3], .aload_n 1, []), (703, none, .aload_n 0, [])]
set_option maxRecDepth 100000 in
theorem tl_49_ok : tblOK code 4 tl_49 = true := by decide +kernel

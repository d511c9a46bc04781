def tl_55 : List (Nat × Option (List Nat) × Instr × List Nat) := [(768, none, .aload_n 0, []), (769, none, .iload_n 3, []), (770, none, .iconst 1, []), (771, none, .iadd, []), (772, none, .iaload, []), (773, none, .aload_n 0, []), (774, none, .iload_n 3, []), (775, none, .iconst 2, []), (776, none, .iadd, []), (777, none, .iaload, [])]
set_option maxRecDepth 100000 in
theorem tl_55_ok : tblOK code 4 tl_55 = true := by decide +kernel
def tl_56 : List (Nat × Option (List Nat) × Instr × List Nat) := [(778, none, .aload_n 0, []), (779, none, .iload_n 3, []), (780, none, .iconst 3, []), (781, none, .iadd, []), (782, none, .iaload, []), (783, none, .invokevirtual 89, []), (786, none, .if_icmp .eq 177, [963]), (789, none, .iconst 0, []), (790, none, .ireturn, []), (791, some [0, 1, 2, 3], .aload_n 1, [])]
set_option maxRecDepth 100000 in
theorem tl_56_ok : tblOK code 4 tl_56 = true := by decide +kernel
def tl_57 : List (Nat × Option (List Nat) × Instr × List Nat) := [(792, none, .aload_n 0, []), (793, none, .iload_n 3, []), (794, none, .iconst 1, []), (795, none, .iadd, []), (796, none, .iaload, []), (797, none, .aload_n 0, []), (798, none, .iload_n 3, []), (799, none, .iconst 2, []), (800, none, .iadd, []), (801, none, .iaload, [])]
set_option maxRecDepth 100000 in
theorem tl_57_ok : tblOK code 4 tl_57 = true := by decide +kernel
def tl_58 : List (Nat × Option (List Nat) × Instr × List Nat) := [(802, none, .invokevirtual 90, []), (805, none, .aload_n 2, []), (806, none, .aload_n 0, []), (807, none, .iload_n 3, []), (808, none, .iconst 1, []), (809, none, .iadd, []), (810, none, .iaload, []), (811, none, .aload_n 0, []), (812, none, .iload_n 3, []), (813, none, .iconst 2, [])]
set_option maxRecDepth 100000 in
theorem tl_58_ok : tblOK code 4 tl_58 = true := by decide +kernel
def tl_59 : List (Nat × Option (List Nat) × Instr × List Nat) := [(814, none, .iadd, []), (815, none, .iaload, []), (816, none, .invokevirtual 93, []), (819, none, .if_icmp .eq 144, [963]), (822, none, .iconst 0, []), (823, none, .ireturn, []), (824, some [0, 1, 2, 3], .aload_n 1, []), (825, none, .aload_n 0, []), (826, none, .iload_n 3, []), (827, none, .iconst 1, [])]
set_option maxRecDepth 100000 in
theorem tl_59_ok : tblOK code 4 tl_59 = true := by decide +kernel

def tl_65 : List (Nat × Option (List Nat) × Instr × List Nat) := [(884, none, .iload_n 3, []), (885, none, .iconst 4, []), (886, none, .iadd, []), (887, none, .iaload, []), (888, none, .invokevirtual 98, []), (891, none, .aload_n 2, []), (892, none, .aload_n 0, []), (893, none, .iload_n 3, []), (894, none, .iconst 1, []), (895, none, .iadd, [])]
set_option maxRecDepth 100000 in
theorem tl_65_ok : tblOK code 4 tl_65 = true := by decide +kernel
def tl_66 : List (Nat × Option (List Nat) × Instr × List Nat) := [(896, none, .iaload, []), (897, none, .aload_n 0, []), (898, none, .iload_n 3, []), (899, none, .iconst 2, []), (900, none, .iadd, []), (901, none, .iaload, []), (902, none, .aload_n 0, []), (903, none, .iload_n 3, []), (904, none, .iconst 3, []), (905, none, .iadd, [])]
set_option maxRecDepth 100000 in
theorem tl_66_ok : tblOK code 4 tl_66 = true := by decide +kernel
def tl_67 : List (Nat × Option (List Nat) × Instr × List Nat) := [(906, none, .iaload, []), (907, none, .aload_n 0, []), (908, none, .iload_n 3, []), (909, none, .iconst 4, []), (910, none, .iadd, []), (911, none, .iaload, []), (912, none, .invokevirtual 102, []), (915, none, .if_icmp .eq 48, [963]), (918, none, .iconst 0, []), (919, none, .ireturn, [])]
set_option maxRecDepth 100000 in
theorem tl_67_ok : tblOK code 4 tl_67 = true := by decide +kernel
def tl_68 : List (Nat × Option (List Nat) × Instr × List Nat) := [(920, some [0, 1, 2, 3], .aload_n 1, []), (921, none, .aload_n 0, []), (922, none, .iload_n 3, []), (923, none, .iconst 1, []), (924, none, .iadd, []), (925, none, .iaload, []), (926, none, .aload_n 0, []), (927, none, .iload_n 3, []), (928, none, .iconst 2, []), (929, none, .iadd, [])]
set_option maxRecDepth 100000 in
theorem tl_68_ok : tblOK code 4 tl_68 = true := by decide +kernel
def tl_69 : List (Nat × Option (List Nat) × Instr × List Nat) := [(930, none, .iaload, []), (931, none, .aload_n 0, []), (932, none, .iload_n 3, []), (933, none, .iconst 3, []), (934, none, .iadd, []), (935, none, .iaload, []), (936, none, .invokevirtual 103, []), (939, none, .aload_n 2, []), (940, none, .aload_n 0, []), (941, none, .iload_n 3, [])]
set_option maxRecDepth 100000 in
theorem tl_69_ok : tblOK code 4 tl_69 = true := by decide +kernel

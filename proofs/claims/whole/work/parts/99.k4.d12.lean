def tl_60 : List (Nat × Option (List Nat) × Instr × List Nat) := [(828, none, .iadd, []), (829, none, .iaload, []), (830, none, .aload_n 0, []), (831, none, .iload_n 3, []), (832, none, .iconst 2, []), (833, none, .iadd, []), (834, none, .iaload, []), (835, none, .aload_n 0, []), (836, none, .iload_n 3, []), (837, none, .iconst 3, [])]
set_option maxRecDepth 100000 in
theorem tl_60_ok : tblOK code 4 tl_60 = true := by decide +kernel
def tl_61 : List (Nat × Option (List Nat) × Instr × List Nat) := [(838, none, .iadd, []), (839, none, .iaload, []), (840, none, .invokevirtual 94, []), (843, none, .aload_n 2, []), (844, none, .aload_n 0, []), (845, none, .iload_n 3, []), (846, none, .iconst 1, []), (847, none, .iadd, []), (848, none, .iaload, []), (849, none, .aload_n 0, [])]
set_option maxRecDepth 100000 in
theorem tl_61_ok : tblOK code 4 tl_61 = true := by decide +kernel
def tl_62 : List (Nat × Option (List Nat) × Instr × List Nat) := [(850, none, .iload_n 3, []), (851, none, .iconst 2, []), (852, none, .iadd, []), (853, none, .iaload, []), (854, none, .aload_n 0, []), (855, none, .iload_n 3, []), (856, none, .iconst 3, []), (857, none, .iadd, []), (858, none, .iaload, []), (859, none, .invokevirtual 97, [])]
set_option maxRecDepth 100000 in
theorem tl_62_ok : tblOK code 4 tl_62 = true := by decide +kernel
def tl_63 : List (Nat × Option (List Nat) × Instr × List Nat) := [(862, none, .if_icmp .eq 101, [963]), (865, none, .iconst 0, []), (866, none, .ireturn, []), (867, some [0, 1, 2, 3], .aload_n 1, []), (868, none, .aload_n 0, []), (869, none, .iload_n 3, []), (870, none, .iconst 1, []), (871, none, .iadd, []), (872, none, .iaload, []), (873, none, .aload_n 0, [])]
set_option maxRecDepth 100000 in
theorem tl_63_ok : tblOK code 4 tl_63 = true := by decide +kernel
def tl_64 : List (Nat × Option (List Nat) × Instr × List Nat) := [(874, none, .iload_n 3, []), (875, none, .iconst 2, []), (876, none, .iadd, []), (877, none, .iaload, []), (878, none, .aload_n 0, []), (879, none, .iload_n 3, []), (880, none, .iconst 3, []), (881, none, .iadd, []), (882, none, .iaload, []), (883, none, .aload_n 0, [])]
set_option maxRecDepth 100000 in
theorem tl_64_ok : tblOK code 4 tl_64 = true := by decide +kernel

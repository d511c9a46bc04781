def tl_70 : List (Nat × Option (List Nat) × Instr × List Nat) := [(942, none, .iconst 1, []), (943, none, .iadd, []), (944, none, .iaload, []), (945, none, .aload_n 0, []), (946, none, .iload_n 3, []), (947, none, .iconst 2, []), (948, none, .iadd, []), (949, none, .iaload, []), (950, none, .aload_n 0, []), (951, none, .iload_n 3, [])]
set_option maxRecDepth 100000 in
theorem tl_70_ok : tblOK code 4 tl_70 = true := by decide +kernel
def tl_71 : List (Nat × Option (List Nat) × Instr × List Nat) := [(952, none, .iconst 3, []), (953, none, .iadd, []), (954, none, .iaload, []), (955, none, .invokevirtual 106, []), (958, none, .if_icmp .eq 5, [963]), (961, none, .iconst 0, []), (962, none, .ireturn, []), (963, none, .iinc 3 6, []), (966, none, .goto (-948), [18]), (969, none, .iconst 1, [])]
set_option maxRecDepth 100000 in
theorem tl_71_ok : tblOK code 4 tl_71 = true := by decide +kernel
def tl_72 : List (Nat × Option (List Nat) × Instr × List Nat) := [(970, none, .ireturn, [])]
set_option maxRecDepth 100000 in
theorem tl_72_ok : tblOK code 4 tl_72 = true := by decide +kernel

def tl_5 : List (Nat × Option (List Nat) × Instr × List Nat) := [(166, none, .aload_n 0, []), (167, none, .iload_n 3, []), (168, none, .iconst 1, []), (169, none, .iadd, []), (170, none, .iaload, []), (171, none, .aload_n 0, []), (172, none, .iload_n 3, []), (173, none, .iconst 2, []), (174, none, .iadd, []), (175, none, .iaload, [])]
set_option maxRecDepth 100000 in
theorem tl_5_ok : tblOK code 4 tl_5 = true := by decide +kernel
def tl_6 : List (Nat × Option (List Nat) × Instr × List Nat) := [(176, none, .aload_n 0, []), (177, none, .iload_n 3, []), (178, none, .iconst 3, []), (179, none, .iadd, []), (180, none, .iaload, []), (181, none, .aload_n 0, []), (182, none, .iload_n 3, []), (183, none, .iconst 4, []), (184, none, .iadd, []), (185, none, .iaload, [])]
set_option maxRecDepth 100000 in
theorem tl_6_ok : tblOK code 4 tl_6 = true := by decide +kernel
def tl_7 : List (Nat × Option (List Nat) × Instr × List Nat) := [(186, none, .aload_n 0, []), (187, none, .iload_n 3, []), (188, none, .iconst 5, []), (189, none, .iadd, []), (190, none, .iaload, []), (191, none, .invokevirtual 17, []), (194, none, .if_icmp .eq 769, [963]), (197, none, .iconst 0, []), (198, none, .ireturn, []), (199, some [0, 1, 2, 3], .aload_n 1, [])]
set_option maxRecDepth 100000 in
theorem tl_7_ok : tblOK code 4 tl_7 = true := by decide +kernel
def tl_8 : List (Nat × Option (List Nat) × Instr × List Nat) := [(200, none, .aload_n 0, []), (201, none, .iload_n 3, []), (202, none, .iconst 1, []), (203, none, .iadd, []), (204, none, .iaload, []), (205, none, .invokevirtual 18, []), (208, none, .aload_n 2, []), (209, none, .aload_n 0, []), (210, none, .iload_n 3, []), (211, none, .iconst 1, [])]
set_option maxRecDepth 100000 in
theorem tl_8_ok : tblOK code 4 tl_8 = true := by decide +kernel
def tl_9 : List (Nat × Option (List Nat) × Instr × List Nat) := [(212, none, .iadd, []), (213, none, .iaload, []), (214, none, .invokevirtual 22, []), (217, none, .if_icmp .eq 746, [963]), (220, none, .iconst 0, []), (221, none, .ireturn, []), (222, some [0, 1, 2, 3], .aload_n 1, []), (223, none, .aload_n 0, []), (224, none, .iload_n 3, []), (225, none, .iconst 1, [])]
set_option maxRecDepth 100000 in
theorem tl_9_ok : tblOK code 4 tl_9 = true := by decide +kernel

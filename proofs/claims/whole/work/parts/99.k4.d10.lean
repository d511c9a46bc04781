def tl_50 : List (Nat × Option (List Nat) × Instr × List Nat) := [(704, none, .iload_n 3, []), (705, none, .iconst 1, []), (706, none, .iadd, []), (707, none, .iaload, []), (708, none, .invokevirtual 78, []), (711, none, .aload_n 2, []), (712, none, .aload_n 0, []), (713, none, .iload_n 3, []), (714, none, .iconst 1, []), (715, none, .iadd, [])]
set_option maxRecDepth 100000 in
theorem tl_50_ok : tblOK code 4 tl_50 = true := by decide +kernel
def tl_51 : List (Nat × Option (List Nat) × Instr × List Nat) := [(716, none, .iaload, []), (717, none, .invokevirtual 81, []), (720, none, .if_icmp .eq 243, [963]), (723, none, .iconst 0, []), (724, none, .ireturn, []), (725, some [0, 1, 2, 3], .aload_n 1, []), (726, none, .aload_n 0, []), (727, none, .iload_n 3, []), (728, none, .iconst 1, []), (729, none, .iadd, [])]
set_option maxRecDepth 100000 in
theorem tl_51_ok : tblOK code 4 tl_51 = true := by decide +kernel
def tl_52 : List (Nat × Option (List Nat) × Instr × List Nat) := [(730, none, .iaload, []), (731, none, .invokevirtual 82, []), (734, none, .aload_n 2, []), (735, none, .aload_n 0, []), (736, none, .iload_n 3, []), (737, none, .iconst 1, []), (738, none, .iadd, []), (739, none, .iaload, []), (740, none, .invokevirtual 85, []), (743, none, .if_icmp .eq 220, [963])]
set_option maxRecDepth 100000 in
theorem tl_52_ok : tblOK code 4 tl_52 = true := by decide +kernel
def tl_53 : List (Nat × Option (List Nat) × Instr × List Nat) := [(746, none, .iconst 0, []), (747, none, .ireturn, []), (748, some [0, 1, 2, 3], .aload_n 1, []), (749, none, .aload_n 0, []), (750, none, .iload_n 3, []), (751, none, .iconst 1, []), (752, none, .iadd, []), (753, none, .iaload, []), (754, none, .aload_n 0, []), (755, none, .iload_n 3, [])]
set_option maxRecDepth 100000 in
theorem tl_53_ok : tblOK code 4 tl_53 = true := by decide +kernel
def tl_54 : List (Nat × Option (List Nat) × Instr × List Nat) := [(756, none, .iconst 2, []), (757, none, .iadd, []), (758, none, .iaload, []), (759, none, .aload_n 0, []), (760, none, .iload_n 3, []), (761, none, .iconst 3, []), (762, none, .iadd, []), (763, none, .iaload, []), (764, none, .invokevirtual 86, []), (767, none, .aload_n 2, [])]
set_option maxRecDepth 100000 in
theorem tl_54_ok : tblOK code 4 tl_54 = true := by decide +kernel

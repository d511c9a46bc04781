/-- the reference, ready to read -/
def RI (σ σ1 : Nat → Int → Int) (o : Nat) (p : Int) : Prop := OB σ σ1 o p ∧ σ1 o 1 = 0 ∧ (∀ j, 0 ≤ j ∧ j < σ o 1 → σ1 (o + 2) (8000 * p + j) = σ (o + 1) j) ∧ (∀ j, -128 ≤ σ1 (o + 2) j ∧ σ1 (o + 2) j ≤ 127) ∧ σ1 (o + 3) p = σ o 1 ∧ (σ1 (o + 4) p = 0 ∧ σ1 (o + 5) p = 0 ∧ σ1 (o + 6) p = 0 ∧ σ1 (o + 7) p = 0 ∧ σ1 (o + 8) p = 0 ∧ σ1 (o + 12) p = 0 ∧ σ1 (o + 14) p = 0 ∧ σ1 (o + 15) p = 0 ∧ σ1 (o + 17) p = 0) ∧ (∀ x, 0 ≤ x ∧ x < 65536 → σ1 (o + 26) (65536 * p + x) = 0)
theorem RI.mr {σ σ1 : Nat → Int → Int} {o : Nat} {p : Int} (h : RI σ σ1 o p) (hp : 0 ≤ p ∧ p < 3) (hf : 0 ≤ σ o 1 ∧ σ o 1 ≤ 8000) (hk : ∀ k, 0 ≤ k ∧ k < 40 → σ1 (o + 11) (40 * p + k) = -1) : MR σ1 o p (tU σ o) (σ o 1) st0 := by
  obtain ⟨h0, h1, h2, h3, h4, ⟨z4, z5, z6, z7, z8, z12, z14, z15, z17⟩, h26⟩ := h
  have sw := SW.st0W (U := tU σ o) (len := σ o 1) (tU_R σ o) hf
  unfold MR MB
  refine ⟨⟨hp, hf, fun i hi => ?_, fun k hk2 => hk k hk2, sw.1, fun k _ z => ?_, h3⟩, h4, ⟨z4, z5, z6⟩, ⟨z7, z8, fun i hi => ?_⟩, ?_, ⟨z14, fun i hi => ?_⟩, z15, ⟨z17, fun i hi => ?_⟩, fun x hx => ?_⟩
  · rw [h2 i hi]
    unfold tU
    rw [if_pos hi]
  · have e : st0 1 k = -1 := rfl
    omega
  · have e : st0 0 4 = 0 := rfl
    omega
  · rw [z12]; rfl
  · have e : st0 0 7 = 0 := rfl
    omega
  · have e : st0 0 9 = 0 := rfl
    omega
  · rw [h26 x hx]
    rfl
theorem co_X11_646 : CallOK RX11 (.invokestatic 161) (1, 0, 0, 0, T_Model_isPicture) := call_S S_Model_isPicture (by decide) (by decide +kernel) (Or.inl (by decide +kernel)) (by decide +kernel) (by decide +kernel) (by decide +kernel)
theorem co_X11_660 : CallOK RX11 (.invokevirtual 165) (3, 2, 0, 0, T_Model_numberOf) := call_V S_Model_numberOf (by decide) (ci := 11) rfl (by decide +kernel) (by decide +kernel) (by decide +kernel) (by decide +kernel) (by decide +kernel) (by decide +kernel) T_Model_numberOf_r
theorem co_X11_672 : CallOK RX11 (.invokevirtual 168) (3, 7, 0, 0, T_Model_record) := call_V S_Model_record (by decide) (ci := 11) rfl (by decide +kernel) (by decide +kernel) (by decide +kernel) (by decide +kernel) (by decide +kernel) (by decide +kernel) T_Model_record_r
theorem co_X11_684 : CallOK RX11 (.invokevirtual 171) (3, 7, 0, 0, T_Model_take) := call_V S_Model_take (by decide) (ci := 11) rfl (by decide +kernel) (by decide +kernel) (by decide +kernel) (by decide +kernel) (by decide +kernel) (by decide +kernel) T_Model_take_r
def TF_Model_read (o : Nat) (p : Int) (sz sl : Nat) (lay : Nat → Nat × Int) (ρ : Nat → Int → Nat) (σ : Nat → Int → Int) (τ : Nat → Int → Int64) (k : Option AV → Mm → Prop) : Prop := LModel lay ρ o ∧ (0 ≤ p ∧ p < 3 → ∃ (U : Int → Int) (len : Int) (st : Nat → Int → Int), SW U len st ∧ MR σ o p U len st ∧ (0 ≤ σ o 1 ∧ σ o 1 ≤ 8000) ∧ (∀ i, -128 ≤ σ (o + 1) i ∧ σ (o + 1) i ≤ 127) ∧ (∀ (σ1 : Nat → Int → Int) (n : Nat), OB σ σ1 o p → σ1 o 1 = 0 → σ o 1 ≤ itS (tU σ o) (σ o 1) n 0 0 → MR σ1 o p (tU σ o) (σ o 1) (itS (tU σ o) (σ o 1) n) → k (some (vI (itS (tU σ o) (σ o 1) n 0 1))) (sz, sl, lay, ρ, σ1, τ))) ∧ (¬ (0 ≤ p ∧ p < 3) → k (some (vI (-1))) (sz, sl, lay, ρ, σ, τ))
def T_Model_read : Tr := mkT 11 fun o as M k => pI as fun p as => as = [] ∧ TF_Model_read o p M.1 M.2.1 M.2.2.1 M.2.2.2.1 M.2.2.2.2.1 M.2.2.2.2.2 k
theorem T_Model_read_e {o : Nat} {p : Int} {sz sl : Nat} {lay : Nat → Nat × Int} {ρ : Nat → Int → Nat} {σ : Nat → Int → Int} {τ : Nat → Int → Int64} {k : Option AV → Mm → Prop} : T_Model_read [vR o, vI p] (sz, sl, lay, ρ, σ, τ) k = (lay o = (21, 0) ∧ TF_Model_read o p sz sl lay ρ σ τ k) := by simp [T_Model_read, mkT_e, pI_e, pR_e, pL_e]
theorem T_Model_read_r (as : List AV) (M : Mm) (k : Option AV → Mm → Prop) (h : T_Model_read as M k) : ∃ b As, as = vR b :: As ∧ M.2.2.1 b = (10 + 11, 0) := by
  obtain ⟨b, As, h1, h2, -⟩ := mkT_r h
  exact ⟨b, As, h1, h2⟩
def tb_Model_read : List (Nat × Option (List Nat) × Instr × List Nat) := [(0, none, .iload_n 1, []), (1, none, .invokestatic 161, []), (4, none, .ifCond .ne 5, [9]), (7, none, .iconst (-1), []), (8, none, .ireturn, []), (9, none, .iconst 0, []), (10, none, .istore_n 2, []), (11, some [0, 1, 2], .iload_n 2, []), (12, none, .aload_n 0, []), (13, none, .getfield 50, []), (16, none, .iload_n 1, []), (17, none, .iaload, []), (18, none, .if_icmp .ge 26, [44]), (21, none, .aload_n 0, []), (22, none, .getfield 88, []), (25, none, .ldc 106, []), (27, none, .iload_n 1, []), (28, none, .imul, []), (29, none, .aload_n 0, []), (30, none, .iload_n 1, []), (31, none, .iload_n 2, []), (32, none, .invokevirtual 165, []), (35, none, .iadd, []), (36, none, .iconst 0, []), (37, none, .iastore, []), (38, none, .iinc 2 1, []), (41, none, .goto (-30), [11]), (44, none, .iconst 0, []), (45, none, .istore_n 2, []), (46, some [0, 1, 2], .iload_n 2, []), (47, none, .aload_n 0, []), (48, none, .getfield 91, []), (51, none, .if_icmp .ge 27, [78]), (54, none, .aload_n 0, []), (55, none, .getfield 13, []), (58, none, .sipush 8000, []), (61, none, .iload_n 1, []), (62, none, .imul, []), (63, none, .iload_n 2, []), (64, none, .iadd, []), (65, none, .aload_n 0, []), (66, none, .getfield 9, []), (69, none, .iload_n 2, []), (70, none, .baload, []), (71, none, .bastore, []), (72, none, .iinc 2 1, []), (75, none, .goto (-29), [46]), (78, none, .aload_n 0, []), (79, none, .getfield 16, []), (82, none, .iload_n 1, []), (83, none, .aload_n 0, []), (84, none, .getfield 91, []), (87, none, .iastore, []), (88, none, .aload_n 0, []), (89, none, .iconst 0, []), (90, none, .putfield 91, []), (93, none, .aload_n 0, []), (94, none, .getfield 20, []), (97, none, .iload_n 1, []), (98, none, .iconst 0, []), (99, none, .iastore, []), (100, none, .aload_n 0, []), (101, none, .getfield 23, []), (104, none, .iload_n 1, []), (105, none, .iconst 0, []), (106, none, .iastore, []), (107, none, .aload_n 0, []), (108, none, .getfield 26, []), (111, none, .iload_n 1, []), (112, none, .iconst 0, []), (113, none, .iastore, []), (114, none, .aload_n 0, []), (115, none, .getfield 29, []), (118, none, .iload_n 1, []), (119, none, .iconst 0, []), (120, none, .iastore, []), (121, none, .aload_n 0, []), (122, none, .getfield 32, []), (125, none, .iload_n 1, []), (126, none, .iconst 0, []), (127, none, .iastore, []), (128, none, .aload_n 0, []), (129, none, .getfield 44, []), (132, none, .iload_n 1, []), (133, none, .iconst 0, []), (134, none, .iastore, []), (135, none, .aload_n 0, []), (136, none, .getfield 50, []), (139, none, .iload_n 1, []), (140, none, .iconst 0, []), (141, none, .iastore, []), (142, none, .aload_n 0, []), (143, none, .getfield 53, []), (146, none, .iload_n 1, []), (147, none, .iconst 0, []), (148, none, .iastore, []), (149, none, .aload_n 0, []), (150, none, .getfield 59, []), (153, none, .iload_n 1, []), (154, none, .iconst 0, []), (155, none, .iastore, []), (156, none, .iconst 0, []), (157, none, .istore_n 2, []), (158, some [0, 1, 2], .iload_n 2, []), (159, none, .bipush 40, []), (161, none, .if_icmp .ge 21, [182]), (164, none, .aload_n 0, []), (165, none, .getfield 41, []), (168, none, .bipush 40, []), (170, none, .iload_n 1, []), (171, none, .imul, []), (172, none, .iload_n 2, []), (173, none, .iadd, []), (174, none, .iconst (-1), []), (175, none, .iastore, []), (176, none, .iinc 2 1, []), (179, none, .goto (-21), [158]), (182, none, .iconst 0, []), (183, none, .istore_n 2, []), (184, some [0, 1, 2], .iload_n 2, []), (185, none, .aload_n 0, []), (186, none, .getfield 16, []), (189, none, .iload_n 1, []), (190, none, .iaload, []), (191, none, .if_icmp .ge 170, [361]), (194, none, .aload_n 0, []), (195, none, .iload_n 1, []), (196, none, .iload_n 2, []), (197, none, .invokevirtual 95, []), (200, none, .bipush 10, []), (202, none, .if_icmp .ne 19, [221]), (205, none, .aload_n 0, []), (206, none, .getfield 26, []), (209, none, .iload_n 1, []), (210, none, .dup2, []), (211, none, .iaload, []), (212, none, .iconst 1, []), (213, none, .iadd, []), (214, none, .iastore, []), (215, none, .iinc 2 1, []), (218, none, .goto (-34), [184]), (221, none, .aload_n 0, []), (222, none, .iload_n 1, []), (223, none, .iload_n 2, []), (224, none, .invokevirtual 168, []), (227, none, .istore_n 3, []), (228, none, .iload_n 3, []), (229, none, .ifCond .lt 36, [265]), (232, none, .aload_n 0, []), (233, none, .iload_n 1, []), (234, none, .iload_n 2, []), (235, none, .invokevirtual 171, []), (238, none, .aload_n 0, []), (239, none, .getfield 20, []), (242, none, .iload_n 1, []), (243, none, .dup2, []), (244, none, .iaload, []), (245, none, .iconst 1, []), (246, none, .iadd, []), (247, none, .iastore, []), (248, none, .aload_n 0, []), (249, none, .getfield 23, []), (252, none, .iload_n 1, []), (253, none, .dup2, []), (254, none, .iaload, []), (255, none, .iload_n 3, []), (256, none, .iload_n 2, []), (257, none, .isub, []), (258, none, .iadd, []), (259, none, .iastore, []), (260, none, .iload_n 3, []), (261, none, .istore_n 2, []), (262, none, .goto 96, [358]), (265, none, .iload_n 2, []), (266, none, .iconst 1, []), (267, none, .iadd, []), (268, none, .istore_n 3, []), (269, some [0, 1, 2, 3], .iload_n 3, []), (270, none, .aload_n 0, []), (271, none, .getfield 16, []), (274, none, .iload_n 1, []), (275, none, .iaload, []), (276, none, .if_icmp .ge 20, [296]), (279, none, .aload_n 0, []), (280, none, .iload_n 1, []), (281, none, .iload_n 3, []), (282, none, .invokevirtual 95, []), (285, none, .bipush 10, []), (287, none, .if_icmp .eq 9, [296]), (290, none, .iinc 3 1, []), (293, none, .goto (-24), [269]), (296, none, .aload_n 0, []), (297, none, .getfield 35, []), (300, none, .sipush 8000, []), (303, none, .iload_n 1, []), (304, none, .imul, []), (305, none, .aload_n 0, []), (306, none, .getfield 29, []), (309, none, .iload_n 1, []), (310, none, .iaload, []), (311, none, .iadd, []), (312, none, .iload_n 2, []), (313, none, .iastore, []), (314, none, .aload_n 0, []), (315, none, .getfield 38, []), (318, none, .sipush 8000, []), (321, none, .iload_n 1, []), (322, none, .imul, []), (323, none, .aload_n 0, []), (324, none, .getfield 29, []), (327, none, .iload_n 1, []), (328, none, .iaload, []), (329, none, .iadd, []), (330, none, .iload_n 3, []), (331, none, .iload_n 2, []), (332, none, .isub, []), (333, none, .iastore, []), (334, none, .aload_n 0, []), (335, none, .getfield 29, []), (338, none, .iload_n 1, []), (339, none, .dup2, []), (340, none, .iaload, []), (341, none, .iconst 1, []), (342, none, .iadd, []), (343, none, .iastore, []), (344, none, .aload_n 0, []), (345, none, .getfield 32, []), (348, none, .iload_n 1, []), (349, none, .dup2, []), (350, none, .iaload, []), (351, none, .iload_n 3, []), (352, none, .iload_n 2, []), (353, none, .isub, []), (354, none, .iadd, []), (355, none, .iastore, []), (356, none, .iload_n 3, []), (357, none, .istore_n 2, []), (358, none, .goto (-174), [184]), (361, none, .aload_n 0, []), (362, none, .getfield 20, []), (365, none, .iload_n 1, []), (366, none, .iaload, []), (367, none, .ireturn, [])]
def P_Model_read : Nat → Option (List Nat) × Instr × List Nat := plk tb_Model_read
theorem r_Model_read_0 : P_Model_read 0 = (none, .iload_n 1, []) := by decide +kernel
theorem r_Model_read_1 : P_Model_read 1 = (none, .invokestatic 161, []) := by decide +kernel
theorem r_Model_read_4 : P_Model_read 4 = (none, .ifCond .ne 5, [9]) := by decide +kernel
theorem r_Model_read_7 : P_Model_read 7 = (none, .iconst (-1), []) := by decide +kernel
theorem r_Model_read_8 : P_Model_read 8 = (none, .ireturn, []) := by decide +kernel
theorem r_Model_read_9 : P_Model_read 9 = (none, .iconst 0, []) := by decide +kernel
theorem r_Model_read_10 : P_Model_read 10 = (none, .istore_n 2, []) := by decide +kernel
theorem r_Model_read_11 : P_Model_read 11 = (some [0, 1, 2], .iload_n 2, []) := by decide +kernel
theorem r_Model_read_12 : P_Model_read 12 = (none, .aload_n 0, []) := by decide +kernel
theorem r_Model_read_13 : P_Model_read 13 = (none, .getfield 50, []) := by decide +kernel
theorem r_Model_read_16 : P_Model_read 16 = (none, .iload_n 1, []) := by decide +kernel
theorem r_Model_read_17 : P_Model_read 17 = (none, .iaload, []) := by decide +kernel
theorem r_Model_read_18 : P_Model_read 18 = (none, .if_icmp .ge 26, [44]) := by decide +kernel
theorem r_Model_read_21 : P_Model_read 21 = (none, .aload_n 0, []) := by decide +kernel
theorem r_Model_read_22 : P_Model_read 22 = (none, .getfield 88, []) := by decide +kernel
theorem r_Model_read_25 : P_Model_read 25 = (none, .ldc 106, []) := by decide +kernel
theorem r_Model_read_27 : P_Model_read 27 = (none, .iload_n 1, []) := by decide +kernel
theorem r_Model_read_28 : P_Model_read 28 = (none, .imul, []) := by decide +kernel
theorem r_Model_read_29 : P_Model_read 29 = (none, .aload_n 0, []) := by decide +kernel
theorem r_Model_read_30 : P_Model_read 30 = (none, .iload_n 1, []) := by decide +kernel
theorem r_Model_read_31 : P_Model_read 31 = (none, .iload_n 2, []) := by decide +kernel
theorem r_Model_read_32 : P_Model_read 32 = (none, .invokevirtual 165, []) := by decide +kernel
theorem r_Model_read_35 : P_Model_read 35 = (none, .iadd, []) := by decide +kernel
theorem r_Model_read_36 : P_Model_read 36 = (none, .iconst 0, []) := by decide +kernel
theorem r_Model_read_37 : P_Model_read 37 = (none, .iastore, []) := by decide +kernel
theorem r_Model_read_38 : P_Model_read 38 = (none, .iinc 2 1, []) := by decide +kernel
theorem r_Model_read_41 : P_Model_read 41 = (none, .goto (-30), [11]) := by decide +kernel
theorem r_Model_read_44 : P_Model_read 44 = (none, .iconst 0, []) := by decide +kernel
theorem r_Model_read_45 : P_Model_read 45 = (none, .istore_n 2, []) := by decide +kernel
theorem r_Model_read_46 : P_Model_read 46 = (some [0, 1, 2], .iload_n 2, []) := by decide +kernel
theorem r_Model_read_47 : P_Model_read 47 = (none, .aload_n 0, []) := by decide +kernel
theorem r_Model_read_48 : P_Model_read 48 = (none, .getfield 91, []) := by decide +kernel
theorem r_Model_read_51 : P_Model_read 51 = (none, .if_icmp .ge 27, [78]) := by decide +kernel
theorem r_Model_read_54 : P_Model_read 54 = (none, .aload_n 0, []) := by decide +kernel
theorem r_Model_read_55 : P_Model_read 55 = (none, .getfield 13, []) := by decide +kernel
theorem r_Model_read_58 : P_Model_read 58 = (none, .sipush 8000, []) := by decide +kernel
theorem r_Model_read_61 : P_Model_read 61 = (none, .iload_n 1, []) := by decide +kernel
theorem r_Model_read_62 : P_Model_read 62 = (none, .imul, []) := by decide +kernel
theorem r_Model_read_63 : P_Model_read 63 = (none, .iload_n 2, []) := by decide +kernel
theorem r_Model_read_64 : P_Model_read 64 = (none, .iadd, []) := by decide +kernel
theorem r_Model_read_65 : P_Model_read 65 = (none, .aload_n 0, []) := by decide +kernel
theorem r_Model_read_66 : P_Model_read 66 = (none, .getfield 9, []) := by decide +kernel
theorem r_Model_read_69 : P_Model_read 69 = (none, .iload_n 2, []) := by decide +kernel
theorem r_Model_read_70 : P_Model_read 70 = (none, .baload, []) := by decide +kernel
theorem r_Model_read_71 : P_Model_read 71 = (none, .bastore, []) := by decide +kernel
theorem r_Model_read_72 : P_Model_read 72 = (none, .iinc 2 1, []) := by decide +kernel
theorem r_Model_read_75 : P_Model_read 75 = (none, .goto (-29), [46]) := by decide +kernel
theorem r_Model_read_78 : P_Model_read 78 = (none, .aload_n 0, []) := by decide +kernel
theorem r_Model_read_79 : P_Model_read 79 = (none, .getfield 16, []) := by decide +kernel
theorem r_Model_read_82 : P_Model_read 82 = (none, .iload_n 1, []) := by decide +kernel
theorem r_Model_read_83 : P_Model_read 83 = (none, .aload_n 0, []) := by decide +kernel
theorem r_Model_read_84 : P_Model_read 84 = (none, .getfield 91, []) := by decide +kernel
theorem r_Model_read_87 : P_Model_read 87 = (none, .iastore, []) := by decide +kernel
theorem r_Model_read_88 : P_Model_read 88 = (none, .aload_n 0, []) := by decide +kernel
theorem r_Model_read_89 : P_Model_read 89 = (none, .iconst 0, []) := by decide +kernel
theorem r_Model_read_90 : P_Model_read 90 = (none, .putfield 91, []) := by decide +kernel
theorem r_Model_read_93 : P_Model_read 93 = (none, .aload_n 0, []) := by decide +kernel
theorem r_Model_read_94 : P_Model_read 94 = (none, .getfield 20, []) := by decide +kernel
theorem r_Model_read_97 : P_Model_read 97 = (none, .iload_n 1, []) := by decide +kernel
theorem r_Model_read_98 : P_Model_read 98 = (none, .iconst 0, []) := by decide +kernel
theorem r_Model_read_99 : P_Model_read 99 = (none, .iastore, []) := by decide +kernel
theorem r_Model_read_100 : P_Model_read 100 = (none, .aload_n 0, []) := by decide +kernel
theorem r_Model_read_101 : P_Model_read 101 = (none, .getfield 23, []) := by decide +kernel
theorem r_Model_read_104 : P_Model_read 104 = (none, .iload_n 1, []) := by decide +kernel
theorem r_Model_read_105 : P_Model_read 105 = (none, .iconst 0, []) := by decide +kernel
theorem r_Model_read_106 : P_Model_read 106 = (none, .iastore, []) := by decide +kernel
theorem r_Model_read_107 : P_Model_read 107 = (none, .aload_n 0, []) := by decide +kernel
theorem r_Model_read_108 : P_Model_read 108 = (none, .getfield 26, []) := by decide +kernel
theorem r_Model_read_111 : P_Model_read 111 = (none, .iload_n 1, []) := by decide +kernel
theorem r_Model_read_112 : P_Model_read 112 = (none, .iconst 0, []) := by decide +kernel
theorem r_Model_read_113 : P_Model_read 113 = (none, .iastore, []) := by decide +kernel
theorem r_Model_read_114 : P_Model_read 114 = (none, .aload_n 0, []) := by decide +kernel
theorem r_Model_read_115 : P_Model_read 115 = (none, .getfield 29, []) := by decide +kernel
theorem r_Model_read_118 : P_Model_read 118 = (none, .iload_n 1, []) := by decide +kernel
theorem r_Model_read_119 : P_Model_read 119 = (none, .iconst 0, []) := by decide +kernel
theorem r_Model_read_120 : P_Model_read 120 = (none, .iastore, []) := by decide +kernel
theorem r_Model_read_121 : P_Model_read 121 = (none, .aload_n 0, []) := by decide +kernel
theorem r_Model_read_122 : P_Model_read 122 = (none, .getfield 32, []) := by decide +kernel
theorem r_Model_read_125 : P_Model_read 125 = (none, .iload_n 1, []) := by decide +kernel
theorem r_Model_read_126 : P_Model_read 126 = (none, .iconst 0, []) := by decide +kernel
theorem r_Model_read_127 : P_Model_read 127 = (none, .iastore, []) := by decide +kernel
theorem r_Model_read_128 : P_Model_read 128 = (none, .aload_n 0, []) := by decide +kernel
theorem r_Model_read_129 : P_Model_read 129 = (none, .getfield 44, []) := by decide +kernel
theorem r_Model_read_132 : P_Model_read 132 = (none, .iload_n 1, []) := by decide +kernel
theorem r_Model_read_133 : P_Model_read 133 = (none, .iconst 0, []) := by decide +kernel
theorem r_Model_read_134 : P_Model_read 134 = (none, .iastore, []) := by decide +kernel
theorem r_Model_read_135 : P_Model_read 135 = (none, .aload_n 0, []) := by decide +kernel
theorem r_Model_read_136 : P_Model_read 136 = (none, .getfield 50, []) := by decide +kernel
theorem r_Model_read_139 : P_Model_read 139 = (none, .iload_n 1, []) := by decide +kernel
theorem r_Model_read_140 : P_Model_read 140 = (none, .iconst 0, []) := by decide +kernel
theorem r_Model_read_141 : P_Model_read 141 = (none, .iastore, []) := by decide +kernel
theorem r_Model_read_142 : P_Model_read 142 = (none, .aload_n 0, []) := by decide +kernel
theorem r_Model_read_143 : P_Model_read 143 = (none, .getfield 53, []) := by decide +kernel
theorem r_Model_read_146 : P_Model_read 146 = (none, .iload_n 1, []) := by decide +kernel
theorem r_Model_read_147 : P_Model_read 147 = (none, .iconst 0, []) := by decide +kernel
theorem r_Model_read_148 : P_Model_read 148 = (none, .iastore, []) := by decide +kernel
theorem r_Model_read_149 : P_Model_read 149 = (none, .aload_n 0, []) := by decide +kernel
theorem r_Model_read_150 : P_Model_read 150 = (none, .getfield 59, []) := by decide +kernel
theorem r_Model_read_153 : P_Model_read 153 = (none, .iload_n 1, []) := by decide +kernel
theorem r_Model_read_154 : P_Model_read 154 = (none, .iconst 0, []) := by decide +kernel
theorem r_Model_read_155 : P_Model_read 155 = (none, .iastore, []) := by decide +kernel
theorem r_Model_read_156 : P_Model_read 156 = (none, .iconst 0, []) := by decide +kernel
theorem r_Model_read_157 : P_Model_read 157 = (none, .istore_n 2, []) := by decide +kernel
theorem r_Model_read_158 : P_Model_read 158 = (some [0, 1, 2], .iload_n 2, []) := by decide +kernel
theorem r_Model_read_159 : P_Model_read 159 = (none, .bipush 40, []) := by decide +kernel
theorem r_Model_read_161 : P_Model_read 161 = (none, .if_icmp .ge 21, [182]) := by decide +kernel
theorem r_Model_read_164 : P_Model_read 164 = (none, .aload_n 0, []) := by decide +kernel
theorem r_Model_read_165 : P_Model_read 165 = (none, .getfield 41, []) := by decide +kernel
theorem r_Model_read_168 : P_Model_read 168 = (none, .bipush 40, []) := by decide +kernel
theorem r_Model_read_170 : P_Model_read 170 = (none, .iload_n 1, []) := by decide +kernel
theorem r_Model_read_171 : P_Model_read 171 = (none, .imul, []) := by decide +kernel
theorem r_Model_read_172 : P_Model_read 172 = (none, .iload_n 2, []) := by decide +kernel
theorem r_Model_read_173 : P_Model_read 173 = (none, .iadd, []) := by decide +kernel
theorem r_Model_read_174 : P_Model_read 174 = (none, .iconst (-1), []) := by decide +kernel
theorem r_Model_read_175 : P_Model_read 175 = (none, .iastore, []) := by decide +kernel
theorem r_Model_read_176 : P_Model_read 176 = (none, .iinc 2 1, []) := by decide +kernel
theorem r_Model_read_179 : P_Model_read 179 = (none, .goto (-21), [158]) := by decide +kernel
theorem r_Model_read_182 : P_Model_read 182 = (none, .iconst 0, []) := by decide +kernel
theorem r_Model_read_183 : P_Model_read 183 = (none, .istore_n 2, []) := by decide +kernel
theorem r_Model_read_184 : P_Model_read 184 = (some [0, 1, 2], .iload_n 2, []) := by decide +kernel
theorem r_Model_read_185 : P_Model_read 185 = (none, .aload_n 0, []) := by decide +kernel
theorem r_Model_read_186 : P_Model_read 186 = (none, .getfield 16, []) := by decide +kernel
theorem r_Model_read_189 : P_Model_read 189 = (none, .iload_n 1, []) := by decide +kernel
theorem r_Model_read_190 : P_Model_read 190 = (none, .iaload, []) := by decide +kernel
theorem r_Model_read_191 : P_Model_read 191 = (none, .if_icmp .ge 170, [361]) := by decide +kernel
theorem r_Model_read_194 : P_Model_read 194 = (none, .aload_n 0, []) := by decide +kernel
theorem r_Model_read_195 : P_Model_read 195 = (none, .iload_n 1, []) := by decide +kernel
theorem r_Model_read_196 : P_Model_read 196 = (none, .iload_n 2, []) := by decide +kernel
theorem r_Model_read_197 : P_Model_read 197 = (none, .invokevirtual 95, []) := by decide +kernel
theorem r_Model_read_200 : P_Model_read 200 = (none, .bipush 10, []) := by decide +kernel
theorem r_Model_read_202 : P_Model_read 202 = (none, .if_icmp .ne 19, [221]) := by decide +kernel
theorem r_Model_read_205 : P_Model_read 205 = (none, .aload_n 0, []) := by decide +kernel
theorem r_Model_read_206 : P_Model_read 206 = (none, .getfield 26, []) := by decide +kernel
theorem r_Model_read_209 : P_Model_read 209 = (none, .iload_n 1, []) := by decide +kernel
theorem r_Model_read_210 : P_Model_read 210 = (none, .dup2, []) := by decide +kernel
theorem r_Model_read_211 : P_Model_read 211 = (none, .iaload, []) := by decide +kernel
theorem r_Model_read_212 : P_Model_read 212 = (none, .iconst 1, []) := by decide +kernel
theorem r_Model_read_213 : P_Model_read 213 = (none, .iadd, []) := by decide +kernel
theorem r_Model_read_214 : P_Model_read 214 = (none, .iastore, []) := by decide +kernel
theorem r_Model_read_215 : P_Model_read 215 = (none, .iinc 2 1, []) := by decide +kernel
theorem r_Model_read_218 : P_Model_read 218 = (none, .goto (-34), [184]) := by decide +kernel
theorem r_Model_read_221 : P_Model_read 221 = (none, .aload_n 0, []) := by decide +kernel
theorem r_Model_read_222 : P_Model_read 222 = (none, .iload_n 1, []) := by decide +kernel
theorem r_Model_read_223 : P_Model_read 223 = (none, .iload_n 2, []) := by decide +kernel
theorem r_Model_read_224 : P_Model_read 224 = (none, .invokevirtual 168, []) := by decide +kernel
theorem r_Model_read_227 : P_Model_read 227 = (none, .istore_n 3, []) := by decide +kernel
theorem r_Model_read_228 : P_Model_read 228 = (none, .iload_n 3, []) := by decide +kernel
theorem r_Model_read_229 : P_Model_read 229 = (none, .ifCond .lt 36, [265]) := by decide +kernel
theorem r_Model_read_232 : P_Model_read 232 = (none, .aload_n 0, []) := by decide +kernel
theorem r_Model_read_233 : P_Model_read 233 = (none, .iload_n 1, []) := by decide +kernel
theorem r_Model_read_234 : P_Model_read 234 = (none, .iload_n 2, []) := by decide +kernel
theorem r_Model_read_235 : P_Model_read 235 = (none, .invokevirtual 171, []) := by decide +kernel
theorem r_Model_read_238 : P_Model_read 238 = (none, .aload_n 0, []) := by decide +kernel
theorem r_Model_read_239 : P_Model_read 239 = (none, .getfield 20, []) := by decide +kernel
theorem r_Model_read_242 : P_Model_read 242 = (none, .iload_n 1, []) := by decide +kernel
theorem r_Model_read_243 : P_Model_read 243 = (none, .dup2, []) := by decide +kernel
theorem r_Model_read_244 : P_Model_read 244 = (none, .iaload, []) := by decide +kernel
theorem r_Model_read_245 : P_Model_read 245 = (none, .iconst 1, []) := by decide +kernel
theorem r_Model_read_246 : P_Model_read 246 = (none, .iadd, []) := by decide +kernel
theorem r_Model_read_247 : P_Model_read 247 = (none, .iastore, []) := by decide +kernel
theorem r_Model_read_248 : P_Model_read 248 = (none, .aload_n 0, []) := by decide +kernel
theorem r_Model_read_249 : P_Model_read 249 = (none, .getfield 23, []) := by decide +kernel
theorem r_Model_read_252 : P_Model_read 252 = (none, .iload_n 1, []) := by decide +kernel
theorem r_Model_read_253 : P_Model_read 253 = (none, .dup2, []) := by decide +kernel
theorem r_Model_read_254 : P_Model_read 254 = (none, .iaload, []) := by decide +kernel
theorem r_Model_read_255 : P_Model_read 255 = (none, .iload_n 3, []) := by decide +kernel
theorem r_Model_read_256 : P_Model_read 256 = (none, .iload_n 2, []) := by decide +kernel
theorem r_Model_read_257 : P_Model_read 257 = (none, .isub, []) := by decide +kernel
theorem r_Model_read_258 : P_Model_read 258 = (none, .iadd, []) := by decide +kernel
theorem r_Model_read_259 : P_Model_read 259 = (none, .iastore, []) := by decide +kernel
theorem r_Model_read_260 : P_Model_read 260 = (none, .iload_n 3, []) := by decide +kernel
theorem r_Model_read_261 : P_Model_read 261 = (none, .istore_n 2, []) := by decide +kernel
theorem r_Model_read_262 : P_Model_read 262 = (none, .goto 96, [358]) := by decide +kernel
theorem r_Model_read_265 : P_Model_read 265 = (none, .iload_n 2, []) := by decide +kernel
theorem r_Model_read_266 : P_Model_read 266 = (none, .iconst 1, []) := by decide +kernel
theorem r_Model_read_267 : P_Model_read 267 = (none, .iadd, []) := by decide +kernel
theorem r_Model_read_268 : P_Model_read 268 = (none, .istore_n 3, []) := by decide +kernel
theorem r_Model_read_269 : P_Model_read 269 = (some [0, 1, 2, 3], .iload_n 3, []) := by decide +kernel
theorem r_Model_read_270 : P_Model_read 270 = (none, .aload_n 0, []) := by decide +kernel
theorem r_Model_read_271 : P_Model_read 271 = (none, .getfield 16, []) := by decide +kernel
theorem r_Model_read_274 : P_Model_read 274 = (none, .iload_n 1, []) := by decide +kernel
theorem r_Model_read_275 : P_Model_read 275 = (none, .iaload, []) := by decide +kernel
theorem r_Model_read_276 : P_Model_read 276 = (none, .if_icmp .ge 20, [296]) := by decide +kernel
theorem r_Model_read_279 : P_Model_read 279 = (none, .aload_n 0, []) := by decide +kernel
theorem r_Model_read_280 : P_Model_read 280 = (none, .iload_n 1, []) := by decide +kernel
theorem r_Model_read_281 : P_Model_read 281 = (none, .iload_n 3, []) := by decide +kernel
theorem r_Model_read_282 : P_Model_read 282 = (none, .invokevirtual 95, []) := by decide +kernel
theorem r_Model_read_285 : P_Model_read 285 = (none, .bipush 10, []) := by decide +kernel
theorem r_Model_read_287 : P_Model_read 287 = (none, .if_icmp .eq 9, [296]) := by decide +kernel
theorem r_Model_read_290 : P_Model_read 290 = (none, .iinc 3 1, []) := by decide +kernel
theorem r_Model_read_293 : P_Model_read 293 = (none, .goto (-24), [269]) := by decide +kernel
theorem r_Model_read_296 : P_Model_read 296 = (none, .aload_n 0, []) := by decide +kernel
theorem r_Model_read_297 : P_Model_read 297 = (none, .getfield 35, []) := by decide +kernel
theorem r_Model_read_300 : P_Model_read 300 = (none, .sipush 8000, []) := by decide +kernel
theorem r_Model_read_303 : P_Model_read 303 = (none, .iload_n 1, []) := by decide +kernel
theorem r_Model_read_304 : P_Model_read 304 = (none, .imul, []) := by decide +kernel
theorem r_Model_read_305 : P_Model_read 305 = (none, .aload_n 0, []) := by decide +kernel
theorem r_Model_read_306 : P_Model_read 306 = (none, .getfield 29, []) := by decide +kernel
theorem r_Model_read_309 : P_Model_read 309 = (none, .iload_n 1, []) := by decide +kernel
theorem r_Model_read_310 : P_Model_read 310 = (none, .iaload, []) := by decide +kernel
theorem r_Model_read_311 : P_Model_read 311 = (none, .iadd, []) := by decide +kernel
theorem r_Model_read_312 : P_Model_read 312 = (none, .iload_n 2, []) := by decide +kernel
theorem r_Model_read_313 : P_Model_read 313 = (none, .iastore, []) := by decide +kernel
theorem r_Model_read_314 : P_Model_read 314 = (none, .aload_n 0, []) := by decide +kernel
theorem r_Model_read_315 : P_Model_read 315 = (none, .getfield 38, []) := by decide +kernel
theorem r_Model_read_318 : P_Model_read 318 = (none, .sipush 8000, []) := by decide +kernel
theorem r_Model_read_321 : P_Model_read 321 = (none, .iload_n 1, []) := by decide +kernel
theorem r_Model_read_322 : P_Model_read 322 = (none, .imul, []) := by decide +kernel
theorem r_Model_read_323 : P_Model_read 323 = (none, .aload_n 0, []) := by decide +kernel
theorem r_Model_read_324 : P_Model_read 324 = (none, .getfield 29, []) := by decide +kernel
theorem r_Model_read_327 : P_Model_read 327 = (none, .iload_n 1, []) := by decide +kernel
theorem r_Model_read_328 : P_Model_read 328 = (none, .iaload, []) := by decide +kernel
theorem r_Model_read_329 : P_Model_read 329 = (none, .iadd, []) := by decide +kernel
theorem r_Model_read_330 : P_Model_read 330 = (none, .iload_n 3, []) := by decide +kernel
theorem r_Model_read_331 : P_Model_read 331 = (none, .iload_n 2, []) := by decide +kernel
theorem r_Model_read_332 : P_Model_read 332 = (none, .isub, []) := by decide +kernel
theorem r_Model_read_333 : P_Model_read 333 = (none, .iastore, []) := by decide +kernel
theorem r_Model_read_334 : P_Model_read 334 = (none, .aload_n 0, []) := by decide +kernel
theorem r_Model_read_335 : P_Model_read 335 = (none, .getfield 29, []) := by decide +kernel
theorem r_Model_read_338 : P_Model_read 338 = (none, .iload_n 1, []) := by decide +kernel
theorem r_Model_read_339 : P_Model_read 339 = (none, .dup2, []) := by decide +kernel
theorem r_Model_read_340 : P_Model_read 340 = (none, .iaload, []) := by decide +kernel
theorem r_Model_read_341 : P_Model_read 341 = (none, .iconst 1, []) := by decide +kernel
theorem r_Model_read_342 : P_Model_read 342 = (none, .iadd, []) := by decide +kernel
theorem r_Model_read_343 : P_Model_read 343 = (none, .iastore, []) := by decide +kernel
theorem r_Model_read_344 : P_Model_read 344 = (none, .aload_n 0, []) := by decide +kernel
theorem r_Model_read_345 : P_Model_read 345 = (none, .getfield 32, []) := by decide +kernel
theorem r_Model_read_348 : P_Model_read 348 = (none, .iload_n 1, []) := by decide +kernel
theorem r_Model_read_349 : P_Model_read 349 = (none, .dup2, []) := by decide +kernel
theorem r_Model_read_350 : P_Model_read 350 = (none, .iaload, []) := by decide +kernel
theorem r_Model_read_351 : P_Model_read 351 = (none, .iload_n 3, []) := by decide +kernel
theorem r_Model_read_352 : P_Model_read 352 = (none, .iload_n 2, []) := by decide +kernel
theorem r_Model_read_353 : P_Model_read 353 = (none, .isub, []) := by decide +kernel
theorem r_Model_read_354 : P_Model_read 354 = (none, .iadd, []) := by decide +kernel
theorem r_Model_read_355 : P_Model_read 355 = (none, .iastore, []) := by decide +kernel
theorem r_Model_read_356 : P_Model_read 356 = (none, .iload_n 3, []) := by decide +kernel
theorem r_Model_read_357 : P_Model_read 357 = (none, .istore_n 2, []) := by decide +kernel
theorem r_Model_read_358 : P_Model_read 358 = (none, .goto (-174), [184]) := by decide +kernel
theorem r_Model_read_361 : P_Model_read 361 = (none, .aload_n 0, []) := by decide +kernel
theorem r_Model_read_362 : P_Model_read 362 = (none, .getfield 20, []) := by decide +kernel
theorem r_Model_read_365 : P_Model_read 365 = (none, .iload_n 1, []) := by decide +kernel
theorem r_Model_read_366 : P_Model_read 366 = (none, .iaload, []) := by decide +kernel
theorem r_Model_read_367 : P_Model_read 367 = (none, .ireturn, []) := by decide +kernel
def E_Model_read : List (Nat × Ent) := [(646, (1, 0, 0, 0, T_Model_isPicture)), (660, (3, 2, 0, 0, T_Model_numberOf)), (672, (3, 7, 0, 0, T_Model_record)), (684, (3, 7, 0, 0, T_Model_take)), (380, (3, 0, 0, 0, T_Model_at))]
def X_Model_read : Cx := (llk (0, 0, 9) ftX11, llk 99 ntX11, llk none kcX11, llk none klX11, llk dEnt E_Model_read, 8, 0, false)
theorem xok_Model_read : Xok RX11 X_Model_read := xok_of ftX11_ok ntX11_ok kcX11_ok klX11_ok (E := E_Model_read) (List.forall_mem_cons.mpr ⟨co_X11_646, List.forall_mem_cons.mpr ⟨co_X11_660, List.forall_mem_cons.mpr ⟨co_X11_672, List.forall_mem_cons.mpr ⟨co_X11_684, List.forall_mem_cons.mpr ⟨co_X11_380, fun _ h => absurd h List.not_mem_nil⟩⟩⟩⟩⟩)
theorem xf_Model_read_9 : xfl X_Model_read 9 = (11, 0, 1) := by decide +kernel
theorem xf_Model_read_13 : xfl X_Model_read 13 = (11, 2, 1) := by decide +kernel
theorem xf_Model_read_16 : xfl X_Model_read 16 = (11, 3, 1) := by decide +kernel
theorem xf_Model_read_20 : xfl X_Model_read 20 = (11, 4, 1) := by decide +kernel
theorem xf_Model_read_23 : xfl X_Model_read 23 = (11, 5, 1) := by decide +kernel
theorem xf_Model_read_26 : xfl X_Model_read 26 = (11, 6, 1) := by decide +kernel
theorem xf_Model_read_29 : xfl X_Model_read 29 = (11, 7, 1) := by decide +kernel
theorem xf_Model_read_32 : xfl X_Model_read 32 = (11, 8, 1) := by decide +kernel
theorem xf_Model_read_35 : xfl X_Model_read 35 = (11, 9, 1) := by decide +kernel
theorem xf_Model_read_38 : xfl X_Model_read 38 = (11, 10, 1) := by decide +kernel
theorem xf_Model_read_41 : xfl X_Model_read 41 = (11, 11, 1) := by decide +kernel
theorem xf_Model_read_44 : xfl X_Model_read 44 = (11, 12, 1) := by decide +kernel
theorem xf_Model_read_50 : xfl X_Model_read 50 = (11, 14, 1) := by decide +kernel
theorem xf_Model_read_53 : xfl X_Model_read 53 = (11, 15, 1) := by decide +kernel
theorem xf_Model_read_59 : xfl X_Model_read 59 = (11, 17, 1) := by decide +kernel
theorem xf_Model_read_88 : xfl X_Model_read 88 = (11, 27, 1) := by decide +kernel
theorem xf_Model_read_91 : xfl X_Model_read 91 = (11, 1, 0) := by decide +kernel
theorem xk_Model_read_106 : xkc X_Model_read 106 = some 65536 := by decide +kernel
theorem xe_Model_read_646 : xE X_Model_read (4 * 161 + 2) = (1, 0, 0, 0, T_Model_isPicture) := rfl
theorem xe_Model_read_660 : xE X_Model_read (4 * 165 + 0) = (3, 2, 0, 0, T_Model_numberOf) := rfl
theorem xe_Model_read_672 : xE X_Model_read (4 * 168 + 0) = (3, 7, 0, 0, T_Model_record) := rfl
theorem xe_Model_read_684 : xE X_Model_read (4 * 171 + 0) = (3, 7, 0, 0, T_Model_take) := rfl
theorem xe_Model_read_380 : xE X_Model_read (4 * 95 + 0) = (3, 0, 0, 0, T_Model_at) := rfl
theorem xd_Model_read : xd X_Model_read = 8 := rfl
theorem xrb_Model_read : xrb X_Model_read = 0 := rfl
theorem xin_Model_read : xin X_Model_read = false := rfl
set_option maxHeartbeats 4000000 in
set_option maxRecDepth 100000 in
theorem S_Model_read : Snd yX11_read cX11_read 4 (some .int) T_Model_read 8 0 0 := by
  refine snd_of (X := X_Model_read) (P := P_Model_read) (tb := tb_Model_read) (own := RX11) (by decide) rfl rfl (by decide +kernel) xok_Model_read rfl rk0 (fun h => by first | rfl | cases h) ?_
  intro as M k has hM hT0
  obtain ⟨sz, sl, lay, ρ, σ, τ⟩ := M
  obtain ⟨o, as1, e, hlo, hT1⟩ := mkT_r hT0
  clear hT0
  subst e
  obtain ⟨p, as2, e, hT2⟩ := pI_x hT1
  clear hT1
  subst e
  obtain ⟨e, hT⟩ := hT2
  subst e
  replace hlo : lay o = (21, 0) := hlo
  have r_p : -2147483648 ≤ p ∧ p ≤ 2147483647 := has (vI p) (by simp)
  clear has
  replace hM : ∀ a i, -2147483648 ≤ σ a i ∧ σ a i ≤ 2147483647 := hM
  replace hT : TF_Model_read o p sz sl lay ρ σ τ k := hT
  unfold TF_Model_read at hT
  obtain ⟨hL, h1, h0⟩ := hT
  have hX : ∃ (U : Int → Int) (len : Int) (st : Nat → Int → Int), (0 ≤ p ∧ p < 3 → SW U len st ∧ MR σ o p U len st ∧ (0 ≤ σ o 1 ∧ σ o 1 ≤ 8000) ∧ (∀ i, -128 ≤ σ (o + 1) i ∧ σ (o + 1) i ≤ 127) ∧ (∀ (σ1 : Nat → Int → Int) (n : Nat), OB σ σ1 o p → σ1 o 1 = 0 → σ o 1 ≤ itS (tU σ o) (σ o 1) n 0 0 → MR σ1 o p (tU σ o) (σ o 1) (itS (tU σ o) (σ o 1) n) → k (some (vI (itS (tU σ o) (σ o 1) n 0 1))) (sz, sl, lay, ρ, σ1, τ))) := by
    by_cases hp : 0 ≤ p ∧ p < 3
    · obtain ⟨U, len, st, h⟩ := h1 hp
      exact ⟨U, len, st, fun _ => h⟩
    · exact ⟨fun _ => 0, 0, fun _ _ => 0, fun z => absurd z hp⟩
  clear h1
  obtain ⟨U, len, st, h1⟩ := hX
  obtain ⟨J, hJd⟩ : ∃ J : Nat → List AV → Mm → Prop, J = (fun c vs M1 => (0 ≤ p ∧ p < 3) ∧ ((c = 11 ∧ ∃ (i : Int) (f : Int → Int), (0 ≤ i ∧ i ≤ st 0 7) ∧ (∀ j, j < 65536 * p ∨ 65536 * p + 65536 ≤ j → f j = σ (o + 26) j) ∧ (∀ x, 0 ≤ x ∧ x < 65536 → f (65536 * p + x) = 0 ∨ (f (65536 * p + x) = fn U st x + 1 ∧ ∀ j, 0 ≤ j ∧ j < i → ¬ numA U (st 2) j = x)) ∧ vs = [vR o, vI p, vI i] ∧ M1 = (sz, sl, lay, ρ, fu σ (o + 26) f, τ)) ∨ (c = 46 ∧ ∃ (i : Int) (f g : Int → Int), (0 ≤ i ∧ i ≤ σ o 1) ∧ (∀ j, j < 65536 * p ∨ 65536 * p + 65536 ≤ j → f j = σ (o + 26) j) ∧ (∀ x, 0 ≤ x ∧ x < 65536 → f (65536 * p + x) = 0) ∧ (∀ j, j < 8000 * p ∨ 8000 * p + 8000 ≤ j → g j = σ (o + 2) j) ∧ (∀ j, 0 ≤ j ∧ j < i → g (8000 * p + j) = σ (o + 1) j) ∧ (∀ j, -128 ≤ g j ∧ g j ≤ 127) ∧ vs = [vR o, vI p, vI i] ∧ M1 = (sz, sl, lay, ρ, fu (fu σ (o + 26) f) (o + 2) g, τ)) ∨ (c = 158 ∧ ∃ (i : Int) (σ1 : Nat → Int → Int), (0 ≤ i ∧ i ≤ 40) ∧ RI σ σ1 o p ∧ (∀ k, 0 ≤ k ∧ k < i → σ1 (o + 11) (40 * p + k) = -1) ∧ vs = [vR o, vI p, vI i] ∧ M1 = (sz, sl, lay, ρ, σ1, τ)) ∨ (c = 184 ∧ ∃ (n : Nat) (σ1 : Nat → Int → Int), OB σ σ1 o p ∧ σ1 o 1 = 0 ∧ MR σ1 o p (tU σ o) (σ o 1) (itS (tU σ o) (σ o 1) n) ∧ vs = [vR o, vI p, vI (itS (tU σ o) (σ o 1) n 0 0)] ∧ M1 = (sz, sl, lay, ρ, σ1, τ)) ∨ (c = 269 ∧ ∃ (n : Nat) (σ1 : Nat → Int → Int) (e : Int), OB σ σ1 o p ∧ σ1 o 1 = 0 ∧ MR σ1 o p (tU σ o) (σ o 1) (itS (tU σ o) (σ o 1) n) ∧ (itS (tU σ o) (σ o 1) n 0 0 < e ∧ e ≤ σ o 1) ∧ ¬ tU σ o (itS (tU σ o) (σ o 1) n 0 0) = 10 ∧ ¬ Acc (tU σ o) (σ o 1) (itS (tU σ o) (σ o 1) n) (itS (tU σ o) (σ o 1) n 0 0) ∧ nxm (tU σ o) (σ o 1) (itS (tU σ o) (σ o 1) n 0 0 + 1) = nxm (tU σ o) (σ o 1) e ∧ vs = [vR o, vI p, vI (itS (tU σ o) (σ o 1) n 0 0), vI e] ∧ M1 = (sz, sl, lay, ρ, σ1, τ)))) := ⟨_, rfl⟩
  obtain ⟨μ, hμ⟩ : ∃ μ : Nat → List AV → Mm → Nat, μ = (fun c vs _ => if c = 11 then (900000000 - gI (vs.getD 2 vN)).toNat else if c = 46 then (800000000 - gI (vs.getD 2 vN)).toNat else if c = 158 then (700000000 - gI (vs.getD 2 vN)).toNat else if c = 184 then (20000 * (8001 - gI (vs.getD 2 vN))).toNat else (20000 * (8001 - gI (vs.getD 2 vN)) - 1 - gI (vs.getD 3 vN)).toNat) := ⟨_, rfl⟩
  refine ⟨Nat.le_of_ble_eq_true rfl, J, μ, 251, ?_, ?_⟩
  · skip
    by_cases hp : 0 ≤ p ∧ p < 3
    · have hpE : (0 ≤ p ∧ p < 3) = True := eq_true hp
      obtain ⟨hS, hR, hfd, hby, h1⟩ := h1 hp
      have w9 := hS.2.2.2.2.2.2.2.2.2.1
      obtain ⟨hB, hl3, ⟨m4, m5, m6⟩, ⟨m7, m8, m9⟩, m12, ⟨m14, m13⟩, m15, ⟨m17, m16⟩, m26⟩ := (show MR σ o p U len st from hR)
      (obtain ⟨mh, mp0, mp2, mp3, mp4, mp5, mp6, mp7, mp8, mp9, mp10, mp11, mp12, mp13, mp14, mp15, mp16, mp17, mp18, mp19, mp20, mp21, mp22, mp24, mp25, mp26, mp27, mq0, mq2, mq3, mq4, mq5, mq6, mq7, mq8, mq9, mq10, mq11, mq12, mq13, mq14, mq15, mq16, mq17, mq18, mq19, mq20, mq21, mq22, mq24, mq25, mq26, mq27⟩ := (show LModel lay ρ _ from hL); unfold wps; simp only [hpE, si_iload_n0, si_iload_n1, si_iload_n2, si_iload_n3, si_iload, si_lload_n0, si_lload_n1, si_lload_n2, si_lload_n3, si_lload, si_aload_n0, si_aload_n1, si_aload_n2, si_aload_n3, si_aload, si_istore_n0, si_istore_n1, si_istore_n2, si_istore_n3, si_istore, si_astore_n0, si_astore_n1, si_astore_n2, si_astore_n3, si_astore, si_lstore_n0, si_lstore_n1, si_lstore_n2, si_lstore_n3, si_lstore, si_iconst, si_bipush, si_sipush, si_ldc, si_ldc2_w, si_lconst0, si_lconst1, si_aconst_null, si_iinc, si_dup, si_dup2, si_iadd, si_isub, si_imul, si_idiv, si_irem, si_iand, si_ior, si_ishl, si_ishr, si_ladd, si_lmul, si_lor, si_lxor, si_lshl, si_lushr, si_lcmp, si_i2b, si_i2l, si_l2i, si_icmp_eq, si_icmp_ne, si_icmp_lt, si_icmp_ge, si_icmp_gt, si_icmp_le, si_if_eq, si_if_ne, si_if_lt, si_if_ge, si_if_gt, si_if_le, si_ifnull, si_ifnonnull, si_goto, si_tableswitch, si_lookupswitch, si_getfield, si_putfield, si_getstatic, si_iaload, si_baload, si_laload, si_aaload, si_iastore, si_bastore, si_lastore, si_aastore, si_arraylength, si_new, si_newarray, si_anewarray, si_invokevirtual, si_invokespecial, si_invokestatic, si_ireturn, si_lreturn, si_areturn, si_return_, pI_e, pL_e, pR_e, pA_r, pA_n, pN_n, pN_r, oI_e, oL_e, oA_r, oA_n, lget_e, lrm1_0, lrm2_0, lrm1_i, lrm1_r, lrm1_n, lrm1_l, lrm2_i, lrm2_r, lrm2_n, lrm2_l, popN_0, popN_s, acat_i, acat_l, acat_r, acat_n, stw_0, stw_s, psh_s, psh_n, wgf_r, wgf_i, wgf_b, wgf_n, wgf_m, wpf_i, wpf_r, wpf_b, wnew_e, callE_e, rbk_0, rbk_1, tsw_0, tsw_s, lsw_0, lsw_s, wp_s, wq_t, wq_f, oV_e, pick_0, pick_s, oZ_e, oY_e, r_Model_read_0, r_Model_read_1, r_Model_read_4, r_Model_read_7, r_Model_read_8, r_Model_read_9, r_Model_read_10, r_Model_read_11, r_Model_read_12, r_Model_read_13, r_Model_read_16, r_Model_read_17, r_Model_read_18, r_Model_read_21, r_Model_read_22, r_Model_read_25, r_Model_read_27, r_Model_read_28, r_Model_read_29, r_Model_read_30, r_Model_read_31, r_Model_read_32, r_Model_read_35, r_Model_read_36, r_Model_read_37, r_Model_read_38, r_Model_read_41, r_Model_read_44, r_Model_read_45, r_Model_read_46, r_Model_read_47, r_Model_read_48, r_Model_read_51, r_Model_read_54, r_Model_read_55, r_Model_read_58, r_Model_read_61, r_Model_read_62, r_Model_read_63, r_Model_read_64, r_Model_read_65, r_Model_read_66, r_Model_read_69, r_Model_read_70, r_Model_read_71, r_Model_read_72, r_Model_read_75, r_Model_read_78, r_Model_read_79, r_Model_read_82, r_Model_read_83, r_Model_read_84, r_Model_read_87, r_Model_read_88, r_Model_read_89, r_Model_read_90, r_Model_read_93, r_Model_read_94, r_Model_read_97, r_Model_read_98, r_Model_read_99, r_Model_read_100, r_Model_read_101, r_Model_read_104, r_Model_read_105, r_Model_read_106, r_Model_read_107, r_Model_read_108, r_Model_read_111, r_Model_read_112, r_Model_read_113, r_Model_read_114, r_Model_read_115, r_Model_read_118, r_Model_read_119, r_Model_read_120, r_Model_read_121, r_Model_read_122, r_Model_read_125, r_Model_read_126, r_Model_read_127, r_Model_read_128, r_Model_read_129, r_Model_read_132, r_Model_read_133, r_Model_read_134, r_Model_read_135, r_Model_read_136, r_Model_read_139, r_Model_read_140, r_Model_read_141, r_Model_read_142, r_Model_read_143, r_Model_read_146, r_Model_read_147, r_Model_read_148, r_Model_read_149, r_Model_read_150, r_Model_read_153, r_Model_read_154, r_Model_read_155, r_Model_read_156, r_Model_read_157, r_Model_read_158, r_Model_read_159, r_Model_read_161, r_Model_read_164, r_Model_read_165, r_Model_read_168, r_Model_read_170, r_Model_read_171, r_Model_read_172, r_Model_read_173, r_Model_read_174, r_Model_read_175, r_Model_read_176, r_Model_read_179, r_Model_read_182, r_Model_read_183, r_Model_read_184, r_Model_read_185, r_Model_read_186, r_Model_read_189, r_Model_read_190, r_Model_read_191, r_Model_read_194, r_Model_read_195, r_Model_read_196, r_Model_read_197, r_Model_read_200, r_Model_read_202, r_Model_read_205, r_Model_read_206, r_Model_read_209, r_Model_read_210, r_Model_read_211, r_Model_read_212, r_Model_read_213, r_Model_read_214, r_Model_read_215, r_Model_read_218, r_Model_read_221, r_Model_read_222, r_Model_read_223, r_Model_read_224, r_Model_read_227, r_Model_read_228, r_Model_read_229, r_Model_read_232, r_Model_read_233, r_Model_read_234, r_Model_read_235, r_Model_read_238, r_Model_read_239, r_Model_read_242, r_Model_read_243, r_Model_read_244, r_Model_read_245, r_Model_read_246, r_Model_read_247, r_Model_read_248, r_Model_read_249, r_Model_read_252, r_Model_read_253, r_Model_read_254, r_Model_read_255, r_Model_read_256, r_Model_read_257, r_Model_read_258, r_Model_read_259, r_Model_read_260, r_Model_read_261, r_Model_read_262, r_Model_read_265, r_Model_read_266, r_Model_read_267, r_Model_read_268, r_Model_read_269, r_Model_read_270, r_Model_read_271, r_Model_read_274, r_Model_read_275, r_Model_read_276, r_Model_read_279, r_Model_read_280, r_Model_read_281, r_Model_read_282, r_Model_read_285, r_Model_read_287, r_Model_read_290, r_Model_read_293, r_Model_read_296, r_Model_read_297, r_Model_read_300, r_Model_read_303, r_Model_read_304, r_Model_read_305, r_Model_read_306, r_Model_read_309, r_Model_read_310, r_Model_read_311, r_Model_read_312, r_Model_read_313, r_Model_read_314, r_Model_read_315, r_Model_read_318, r_Model_read_321, r_Model_read_322, r_Model_read_323, r_Model_read_324, r_Model_read_327, r_Model_read_328, r_Model_read_329, r_Model_read_330, r_Model_read_331, r_Model_read_332, r_Model_read_333, r_Model_read_334, r_Model_read_335, r_Model_read_338, r_Model_read_339, r_Model_read_340, r_Model_read_341, r_Model_read_342, r_Model_read_343, r_Model_read_344, r_Model_read_345, r_Model_read_348, r_Model_read_349, r_Model_read_350, r_Model_read_351, r_Model_read_352, r_Model_read_353, r_Model_read_354, r_Model_read_355, r_Model_read_356, r_Model_read_357, r_Model_read_358, r_Model_read_361, r_Model_read_362, r_Model_read_365, r_Model_read_366, r_Model_read_367, xf_Model_read_9, xf_Model_read_13, xf_Model_read_16, xf_Model_read_20, xf_Model_read_23, xf_Model_read_26, xf_Model_read_29, xf_Model_read_32, xf_Model_read_35, xf_Model_read_38, xf_Model_read_41, xf_Model_read_44, xf_Model_read_50, xf_Model_read_53, xf_Model_read_59, xf_Model_read_88, xf_Model_read_91, xk_Model_read_106, xe_Model_read_646, xe_Model_read_660, xe_Model_read_672, xe_Model_read_684, xe_Model_read_380, xd_Model_read, xrb_Model_read, xin_Model_read, T_Model_isPicture_e, TF_Model_isPicture, T_Model_numberOf_e, TF_Model_numberOf, T_Model_record_e, TF_Model_record, T_Model_take_e, TF_Model_take, T_Model_at_e, TF_Model_at, mh, mp0, mp2, mp3, mp4, mp5, mp6, mp7, mp8, mp9, mp10, mp11, mp12, mp13, mp14, mp15, mp16, mp17, mp18, mp19, mp20, mp21, mp22, mp24, mp25, mp26, mp27, mq0, mq2, mq3, mq4, mq5, mq6, mq7, mq8, mq9, mq10, mq11, mq12, mq13, mq14, mq15, mq16, mq17, mq18, mq19, mq20, mq21, mq22, mq24, mq25, mq26, mq27, Nat.reduceAdd, Nat.reduceMul, Nat.reduceEqDiff, reduceIte, Int.reduceNeg, Int.reduceLE, Int.reduceLT, Int.reduceAdd, Int.reduceSub, Int.reduceToNat, true_and, and_true, inR_e, Nat.reduceLT, Nat.reduceLeDiff, reduceCtorEq, Nat.add_zero, Nat.zero_add, or_false, false_or, or_true, true_or, not_true_eq_false, not_false_eq_true, Classical.not_not, Nat.add_eq_zero_iff, and_false, false_and, Int.reduceEq, List.mem_cons, List.not_mem_nil, forall_eq_or_imp, forall_eq, false_implies, implies_true, forall_const, aargs_0, aargs_i, aargs_r, aargs_l, aargs_n, nfT_e, eq_self, and_self, Nat.le_refl, fu_s, fu_fu, iu_iu, iu_s, fu_am, fu_a0, fu_0a, iu_l, Nat.reduceBEq, Int.reduceBEq, T_objInit_e]; clear mp0 mp2 mp3 mp4 mp5 mp6 mp7 mp8 mp9 mp10 mp11 mp12 mp13 mp14 mp15 mp16 mp17 mp18 mp19 mp20 mp21 mp22 mp24 mp25 mp26 mp27)
      rw [hJd]
      exact ⟨hp, Or.inl ⟨rfl, 0, σ (o + 26), by omega, fun _ _ => rfl, fun x hx => Or.inr ⟨m26 x hx, fun j hj => by omega⟩, rfl, by rw [fu_self]⟩⟩
    · have hpE : (0 ≤ p ∧ p < 3) = False := eq_false hp
      (obtain ⟨mh, mp0, mp2, mp3, mp4, mp5, mp6, mp7, mp8, mp9, mp10, mp11, mp12, mp13, mp14, mp15, mp16, mp17, mp18, mp19, mp20, mp21, mp22, mp24, mp25, mp26, mp27, mq0, mq2, mq3, mq4, mq5, mq6, mq7, mq8, mq9, mq10, mq11, mq12, mq13, mq14, mq15, mq16, mq17, mq18, mq19, mq20, mq21, mq22, mq24, mq25, mq26, mq27⟩ := (show LModel lay ρ _ from hL); unfold wps; simp only [hpE, si_iload_n0, si_iload_n1, si_iload_n2, si_iload_n3, si_iload, si_lload_n0, si_lload_n1, si_lload_n2, si_lload_n3, si_lload, si_aload_n0, si_aload_n1, si_aload_n2, si_aload_n3, si_aload, si_istore_n0, si_istore_n1, si_istore_n2, si_istore_n3, si_istore, si_astore_n0, si_astore_n1, si_astore_n2, si_astore_n3, si_astore, si_lstore_n0, si_lstore_n1, si_lstore_n2, si_lstore_n3, si_lstore, si_iconst, si_bipush, si_sipush, si_ldc, si_ldc2_w, si_lconst0, si_lconst1, si_aconst_null, si_iinc, si_dup, si_dup2, si_iadd, si_isub, si_imul, si_idiv, si_irem, si_iand, si_ior, si_ishl, si_ishr, si_ladd, si_lmul, si_lor, si_lxor, si_lshl, si_lushr, si_lcmp, si_i2b, si_i2l, si_l2i, si_icmp_eq, si_icmp_ne, si_icmp_lt, si_icmp_ge, si_icmp_gt, si_icmp_le, si_if_eq, si_if_ne, si_if_lt, si_if_ge, si_if_gt, si_if_le, si_ifnull, si_ifnonnull, si_goto, si_tableswitch, si_lookupswitch, si_getfield, si_putfield, si_getstatic, si_iaload, si_baload, si_laload, si_aaload, si_iastore, si_bastore, si_lastore, si_aastore, si_arraylength, si_new, si_newarray, si_anewarray, si_invokevirtual, si_invokespecial, si_invokestatic, si_ireturn, si_lreturn, si_areturn, si_return_, pI_e, pL_e, pR_e, pA_r, pA_n, pN_n, pN_r, oI_e, oL_e, oA_r, oA_n, lget_e, lrm1_0, lrm2_0, lrm1_i, lrm1_r, lrm1_n, lrm1_l, lrm2_i, lrm2_r, lrm2_n, lrm2_l, popN_0, popN_s, acat_i, acat_l, acat_r, acat_n, stw_0, stw_s, psh_s, psh_n, wgf_r, wgf_i, wgf_b, wgf_n, wgf_m, wpf_i, wpf_r, wpf_b, wnew_e, callE_e, rbk_0, rbk_1, tsw_0, tsw_s, lsw_0, lsw_s, wp_s, wq_t, wq_f, oV_e, pick_0, pick_s, oZ_e, oY_e, r_Model_read_0, r_Model_read_1, r_Model_read_4, r_Model_read_7, r_Model_read_8, r_Model_read_9, r_Model_read_10, r_Model_read_11, r_Model_read_12, r_Model_read_13, r_Model_read_16, r_Model_read_17, r_Model_read_18, r_Model_read_21, r_Model_read_22, r_Model_read_25, r_Model_read_27, r_Model_read_28, r_Model_read_29, r_Model_read_30, r_Model_read_31, r_Model_read_32, r_Model_read_35, r_Model_read_36, r_Model_read_37, r_Model_read_38, r_Model_read_41, r_Model_read_44, r_Model_read_45, r_Model_read_46, r_Model_read_47, r_Model_read_48, r_Model_read_51, r_Model_read_54, r_Model_read_55, r_Model_read_58, r_Model_read_61, r_Model_read_62, r_Model_read_63, r_Model_read_64, r_Model_read_65, r_Model_read_66, r_Model_read_69, r_Model_read_70, r_Model_read_71, r_Model_read_72, r_Model_read_75, r_Model_read_78, r_Model_read_79, r_Model_read_82, r_Model_read_83, r_Model_read_84, r_Model_read_87, r_Model_read_88, r_Model_read_89, r_Model_read_90, r_Model_read_93, r_Model_read_94, r_Model_read_97, r_Model_read_98, r_Model_read_99, r_Model_read_100, r_Model_read_101, r_Model_read_104, r_Model_read_105, r_Model_read_106, r_Model_read_107, r_Model_read_108, r_Model_read_111, r_Model_read_112, r_Model_read_113, r_Model_read_114, r_Model_read_115, r_Model_read_118, r_Model_read_119, r_Model_read_120, r_Model_read_121, r_Model_read_122, r_Model_read_125, r_Model_read_126, r_Model_read_127, r_Model_read_128, r_Model_read_129, r_Model_read_132, r_Model_read_133, r_Model_read_134, r_Model_read_135, r_Model_read_136, r_Model_read_139, r_Model_read_140, r_Model_read_141, r_Model_read_142, r_Model_read_143, r_Model_read_146, r_Model_read_147, r_Model_read_148, r_Model_read_149, r_Model_read_150, r_Model_read_153, r_Model_read_154, r_Model_read_155, r_Model_read_156, r_Model_read_157, r_Model_read_158, r_Model_read_159, r_Model_read_161, r_Model_read_164, r_Model_read_165, r_Model_read_168, r_Model_read_170, r_Model_read_171, r_Model_read_172, r_Model_read_173, r_Model_read_174, r_Model_read_175, r_Model_read_176, r_Model_read_179, r_Model_read_182, r_Model_read_183, r_Model_read_184, r_Model_read_185, r_Model_read_186, r_Model_read_189, r_Model_read_190, r_Model_read_191, r_Model_read_194, r_Model_read_195, r_Model_read_196, r_Model_read_197, r_Model_read_200, r_Model_read_202, r_Model_read_205, r_Model_read_206, r_Model_read_209, r_Model_read_210, r_Model_read_211, r_Model_read_212, r_Model_read_213, r_Model_read_214, r_Model_read_215, r_Model_read_218, r_Model_read_221, r_Model_read_222, r_Model_read_223, r_Model_read_224, r_Model_read_227, r_Model_read_228, r_Model_read_229, r_Model_read_232, r_Model_read_233, r_Model_read_234, r_Model_read_235, r_Model_read_238, r_Model_read_239, r_Model_read_242, r_Model_read_243, r_Model_read_244, r_Model_read_245, r_Model_read_246, r_Model_read_247, r_Model_read_248, r_Model_read_249, r_Model_read_252, r_Model_read_253, r_Model_read_254, r_Model_read_255, r_Model_read_256, r_Model_read_257, r_Model_read_258, r_Model_read_259, r_Model_read_260, r_Model_read_261, r_Model_read_262, r_Model_read_265, r_Model_read_266, r_Model_read_267, r_Model_read_268, r_Model_read_269, r_Model_read_270, r_Model_read_271, r_Model_read_274, r_Model_read_275, r_Model_read_276, r_Model_read_279, r_Model_read_280, r_Model_read_281, r_Model_read_282, r_Model_read_285, r_Model_read_287, r_Model_read_290, r_Model_read_293, r_Model_read_296, r_Model_read_297, r_Model_read_300, r_Model_read_303, r_Model_read_304, r_Model_read_305, r_Model_read_306, r_Model_read_309, r_Model_read_310, r_Model_read_311, r_Model_read_312, r_Model_read_313, r_Model_read_314, r_Model_read_315, r_Model_read_318, r_Model_read_321, r_Model_read_322, r_Model_read_323, r_Model_read_324, r_Model_read_327, r_Model_read_328, r_Model_read_329, r_Model_read_330, r_Model_read_331, r_Model_read_332, r_Model_read_333, r_Model_read_334, r_Model_read_335, r_Model_read_338, r_Model_read_339, r_Model_read_340, r_Model_read_341, r_Model_read_342, r_Model_read_343, r_Model_read_344, r_Model_read_345, r_Model_read_348, r_Model_read_349, r_Model_read_350, r_Model_read_351, r_Model_read_352, r_Model_read_353, r_Model_read_354, r_Model_read_355, r_Model_read_356, r_Model_read_357, r_Model_read_358, r_Model_read_361, r_Model_read_362, r_Model_read_365, r_Model_read_366, r_Model_read_367, xf_Model_read_9, xf_Model_read_13, xf_Model_read_16, xf_Model_read_20, xf_Model_read_23, xf_Model_read_26, xf_Model_read_29, xf_Model_read_32, xf_Model_read_35, xf_Model_read_38, xf_Model_read_41, xf_Model_read_44, xf_Model_read_50, xf_Model_read_53, xf_Model_read_59, xf_Model_read_88, xf_Model_read_91, xk_Model_read_106, xe_Model_read_646, xe_Model_read_660, xe_Model_read_672, xe_Model_read_684, xe_Model_read_380, xd_Model_read, xrb_Model_read, xin_Model_read, T_Model_isPicture_e, TF_Model_isPicture, T_Model_numberOf_e, TF_Model_numberOf, T_Model_record_e, TF_Model_record, T_Model_take_e, TF_Model_take, T_Model_at_e, TF_Model_at, mh, mp0, mp2, mp3, mp4, mp5, mp6, mp7, mp8, mp9, mp10, mp11, mp12, mp13, mp14, mp15, mp16, mp17, mp18, mp19, mp20, mp21, mp22, mp24, mp25, mp26, mp27, mq0, mq2, mq3, mq4, mq5, mq6, mq7, mq8, mq9, mq10, mq11, mq12, mq13, mq14, mq15, mq16, mq17, mq18, mq19, mq20, mq21, mq22, mq24, mq25, mq26, mq27, Nat.reduceAdd, Nat.reduceMul, Nat.reduceEqDiff, reduceIte, Int.reduceNeg, Int.reduceLE, Int.reduceLT, Int.reduceAdd, Int.reduceSub, Int.reduceToNat, true_and, and_true, inR_e, Nat.reduceLT, Nat.reduceLeDiff, reduceCtorEq, Nat.add_zero, Nat.zero_add, or_false, false_or, or_true, true_or, not_true_eq_false, not_false_eq_true, Classical.not_not, Nat.add_eq_zero_iff, and_false, false_and, Int.reduceEq, List.mem_cons, List.not_mem_nil, forall_eq_or_imp, forall_eq, false_implies, implies_true, forall_const, aargs_0, aargs_i, aargs_r, aargs_l, aargs_n, nfT_e, eq_self, and_self, Nat.le_refl, fu_s, fu_fu, iu_iu, iu_s, fu_am, fu_a0, fu_0a, iu_l, Nat.reduceBEq, Int.reduceBEq, T_objInit_e]; clear mp0 mp2 mp3 mp4 mp5 mp6 mp7 mp8 mp9 mp10 mp11 mp12 mp13 mp14 mp15 mp16 mp17 mp18 mp19 mp20 mp21 mp22 mp24 mp25 mp26 mp27)
      exact h0 hp
  · intro cp vs M1 hvs hM1 hlen hJ
    rw [hJd] at hJ
    obtain ⟨hp, hJ⟩ := hJ
    obtain ⟨hS, hR, hfd, hby, h1⟩ := h1 hp
    rcases hJ with ⟨rfl, i, f, g1, g2, g3, rfl, rfl⟩ | ⟨rfl, i, f, g, g1, g2, g3, g4, g5, g6, rfl, rfl⟩ | ⟨rfl, i, σ1, g1, g2, g3, rfl, rfl⟩ | ⟨rfl, n, σ1, g1, g2, g3, rfl, rfl⟩ | ⟨rfl, n, σ1, e, g1, g2, g3, g4, g5, g6, g7, rfl, rfl⟩
    · obtain ⟨hB, hl3, ⟨m4, m5, m6⟩, ⟨m7, m8, m9⟩, m12, ⟨m14, m13⟩, m15, ⟨m17, m16⟩, m26⟩ := (show MR σ o p U len st from hR)
      have w9 := hS.2.2.2.2.2.2.2.2.2.1
      (obtain ⟨mh, mp0, mp2, mp3, mp4, mp5, mp6, mp7, mp8, mp9, mp10, mp11, mp12, mp13, mp14, mp15, mp16, mp17, mp18, mp19, mp20, mp21, mp22, mp24, mp25, mp26, mp27, mq0, mq2, mq3, mq4, mq5, mq6, mq7, mq8, mq9, mq10, mq11, mq12, mq13, mq14, mq15, mq16, mq17, mq18, mq19, mq20, mq21, mq22, mq24, mq25, mq26, mq27⟩ := (show LModel lay ρ _ from hL); unfold wps; simp only [Option.getD_some, List.zip_cons_cons, List.zip_nil_left, List.zip_nil_right, List.zip_nil_right, MB_fu, MR_fu, si_iload_n0, si_iload_n1, si_iload_n2, si_iload_n3, si_iload, si_lload_n0, si_lload_n1, si_lload_n2, si_lload_n3, si_lload, si_aload_n0, si_aload_n1, si_aload_n2, si_aload_n3, si_aload, si_istore_n0, si_istore_n1, si_istore_n2, si_istore_n3, si_istore, si_astore_n0, si_astore_n1, si_astore_n2, si_astore_n3, si_astore, si_lstore_n0, si_lstore_n1, si_lstore_n2, si_lstore_n3, si_lstore, si_iconst, si_bipush, si_sipush, si_ldc, si_ldc2_w, si_lconst0, si_lconst1, si_aconst_null, si_iinc, si_dup, si_dup2, si_iadd, si_isub, si_imul, si_idiv, si_irem, si_iand, si_ior, si_ishl, si_ishr, si_ladd, si_lmul, si_lor, si_lxor, si_lshl, si_lushr, si_lcmp, si_i2b, si_i2l, si_l2i, si_icmp_eq, si_icmp_ne, si_icmp_lt, si_icmp_ge, si_icmp_gt, si_icmp_le, si_if_eq, si_if_ne, si_if_lt, si_if_ge, si_if_gt, si_if_le, si_ifnull, si_ifnonnull, si_goto, si_tableswitch, si_lookupswitch, si_getfield, si_putfield, si_getstatic, si_iaload, si_baload, si_laload, si_aaload, si_iastore, si_bastore, si_lastore, si_aastore, si_arraylength, si_new, si_newarray, si_anewarray, si_invokevirtual, si_invokespecial, si_invokestatic, si_ireturn, si_lreturn, si_areturn, si_return_, pI_e, pL_e, pR_e, pA_r, pA_n, pN_n, pN_r, oI_e, oL_e, oA_r, oA_n, lget_e, lrm1_0, lrm2_0, lrm1_i, lrm1_r, lrm1_n, lrm1_l, lrm2_i, lrm2_r, lrm2_n, lrm2_l, popN_0, popN_s, acat_i, acat_l, acat_r, acat_n, stw_0, stw_s, psh_s, psh_n, wgf_r, wgf_i, wgf_b, wgf_n, wgf_m, wpf_i, wpf_r, wpf_b, wnew_e, callE_e, rbk_0, rbk_1, tsw_0, tsw_s, lsw_0, lsw_s, wp_s, wq_t, wq_f, oV_e, pick_0, pick_s, oZ_e, oY_e, r_Model_read_0, r_Model_read_1, r_Model_read_4, r_Model_read_7, r_Model_read_8, r_Model_read_9, r_Model_read_10, r_Model_read_11, r_Model_read_12, r_Model_read_13, r_Model_read_16, r_Model_read_17, r_Model_read_18, r_Model_read_21, r_Model_read_22, r_Model_read_25, r_Model_read_27, r_Model_read_28, r_Model_read_29, r_Model_read_30, r_Model_read_31, r_Model_read_32, r_Model_read_35, r_Model_read_36, r_Model_read_37, r_Model_read_38, r_Model_read_41, r_Model_read_44, r_Model_read_45, r_Model_read_46, r_Model_read_47, r_Model_read_48, r_Model_read_51, r_Model_read_54, r_Model_read_55, r_Model_read_58, r_Model_read_61, r_Model_read_62, r_Model_read_63, r_Model_read_64, r_Model_read_65, r_Model_read_66, r_Model_read_69, r_Model_read_70, r_Model_read_71, r_Model_read_72, r_Model_read_75, r_Model_read_78, r_Model_read_79, r_Model_read_82, r_Model_read_83, r_Model_read_84, r_Model_read_87, r_Model_read_88, r_Model_read_89, r_Model_read_90, r_Model_read_93, r_Model_read_94, r_Model_read_97, r_Model_read_98, r_Model_read_99, r_Model_read_100, r_Model_read_101, r_Model_read_104, r_Model_read_105, r_Model_read_106, r_Model_read_107, r_Model_read_108, r_Model_read_111, r_Model_read_112, r_Model_read_113, r_Model_read_114, r_Model_read_115, r_Model_read_118, r_Model_read_119, r_Model_read_120, r_Model_read_121, r_Model_read_122, r_Model_read_125, r_Model_read_126, r_Model_read_127, r_Model_read_128, r_Model_read_129, r_Model_read_132, r_Model_read_133, r_Model_read_134, r_Model_read_135, r_Model_read_136, r_Model_read_139, r_Model_read_140, r_Model_read_141, r_Model_read_142, r_Model_read_143, r_Model_read_146, r_Model_read_147, r_Model_read_148, r_Model_read_149, r_Model_read_150, r_Model_read_153, r_Model_read_154, r_Model_read_155, r_Model_read_156, r_Model_read_157, r_Model_read_158, r_Model_read_159, r_Model_read_161, r_Model_read_164, r_Model_read_165, r_Model_read_168, r_Model_read_170, r_Model_read_171, r_Model_read_172, r_Model_read_173, r_Model_read_174, r_Model_read_175, r_Model_read_176, r_Model_read_179, r_Model_read_182, r_Model_read_183, r_Model_read_184, r_Model_read_185, r_Model_read_186, r_Model_read_189, r_Model_read_190, r_Model_read_191, r_Model_read_194, r_Model_read_195, r_Model_read_196, r_Model_read_197, r_Model_read_200, r_Model_read_202, r_Model_read_205, r_Model_read_206, r_Model_read_209, r_Model_read_210, r_Model_read_211, r_Model_read_212, r_Model_read_213, r_Model_read_214, r_Model_read_215, r_Model_read_218, r_Model_read_221, r_Model_read_222, r_Model_read_223, r_Model_read_224, r_Model_read_227, r_Model_read_228, r_Model_read_229, r_Model_read_232, r_Model_read_233, r_Model_read_234, r_Model_read_235, r_Model_read_238, r_Model_read_239, r_Model_read_242, r_Model_read_243, r_Model_read_244, r_Model_read_245, r_Model_read_246, r_Model_read_247, r_Model_read_248, r_Model_read_249, r_Model_read_252, r_Model_read_253, r_Model_read_254, r_Model_read_255, r_Model_read_256, r_Model_read_257, r_Model_read_258, r_Model_read_259, r_Model_read_260, r_Model_read_261, r_Model_read_262, r_Model_read_265, r_Model_read_266, r_Model_read_267, r_Model_read_268, r_Model_read_269, r_Model_read_270, r_Model_read_271, r_Model_read_274, r_Model_read_275, r_Model_read_276, r_Model_read_279, r_Model_read_280, r_Model_read_281, r_Model_read_282, r_Model_read_285, r_Model_read_287, r_Model_read_290, r_Model_read_293, r_Model_read_296, r_Model_read_297, r_Model_read_300, r_Model_read_303, r_Model_read_304, r_Model_read_305, r_Model_read_306, r_Model_read_309, r_Model_read_310, r_Model_read_311, r_Model_read_312, r_Model_read_313, r_Model_read_314, r_Model_read_315, r_Model_read_318, r_Model_read_321, r_Model_read_322, r_Model_read_323, r_Model_read_324, r_Model_read_327, r_Model_read_328, r_Model_read_329, r_Model_read_330, r_Model_read_331, r_Model_read_332, r_Model_read_333, r_Model_read_334, r_Model_read_335, r_Model_read_338, r_Model_read_339, r_Model_read_340, r_Model_read_341, r_Model_read_342, r_Model_read_343, r_Model_read_344, r_Model_read_345, r_Model_read_348, r_Model_read_349, r_Model_read_350, r_Model_read_351, r_Model_read_352, r_Model_read_353, r_Model_read_354, r_Model_read_355, r_Model_read_356, r_Model_read_357, r_Model_read_358, r_Model_read_361, r_Model_read_362, r_Model_read_365, r_Model_read_366, r_Model_read_367, xf_Model_read_9, xf_Model_read_13, xf_Model_read_16, xf_Model_read_20, xf_Model_read_23, xf_Model_read_26, xf_Model_read_29, xf_Model_read_32, xf_Model_read_35, xf_Model_read_38, xf_Model_read_41, xf_Model_read_44, xf_Model_read_50, xf_Model_read_53, xf_Model_read_59, xf_Model_read_88, xf_Model_read_91, xk_Model_read_106, xe_Model_read_646, xe_Model_read_660, xe_Model_read_672, xe_Model_read_684, xe_Model_read_380, xd_Model_read, xrb_Model_read, xin_Model_read, T_Model_isPicture_e, TF_Model_isPicture, T_Model_numberOf_e, TF_Model_numberOf, T_Model_record_e, TF_Model_record, T_Model_take_e, TF_Model_take, T_Model_at_e, TF_Model_at, mh, mp0, mp2, mp3, mp4, mp5, mp6, mp7, mp8, mp9, mp10, mp11, mp12, mp13, mp14, mp15, mp16, mp17, mp18, mp19, mp20, mp21, mp22, mp24, mp25, mp26, mp27, mq0, mq2, mq3, mq4, mq5, mq6, mq7, mq8, mq9, mq10, mq11, mq12, mq13, mq14, mq15, mq16, mq17, mq18, mq19, mq20, mq21, mq22, mq24, mq25, mq26, mq27, Nat.reduceAdd, Nat.reduceMul, Nat.reduceEqDiff, reduceIte, Int.reduceNeg, Int.reduceLE, Int.reduceLT, Int.reduceAdd, Int.reduceSub, Int.reduceToNat, true_and, and_true, inR_e, Nat.reduceLT, Nat.reduceLeDiff, reduceCtorEq, Nat.add_zero, Nat.zero_add, or_false, false_or, or_true, true_or, not_true_eq_false, not_false_eq_true, Classical.not_not, Nat.add_eq_zero_iff, and_false, false_and, Int.reduceEq, List.mem_cons, List.not_mem_nil, forall_eq_or_imp, forall_eq, false_implies, implies_true, forall_const, aargs_0, aargs_i, aargs_r, aargs_l, aargs_n, nfT_e, eq_self, and_self, Nat.le_refl, fu_s, fu_fu, iu_iu, iu_s, fu_am, fu_a0, fu_0a, iu_l, Nat.reduceBEq, Int.reduceBEq, T_objInit_e]; clear mp0 mp2 mp3 mp4 mp5 mp6 mp7 mp8 mp9 mp10 mp11 mp12 mp13 mp14 mp15 mp16 mp17 mp18 mp19 mp20 mp21 mp22 mp24 mp25 mp26 mp27)
      rw [m14]
      refine ⟨by omega, by omega, fun a => ⟨?_, (by rw [hμ]; simp only [gI_e, List.getD_cons_succ, List.getD_cons_zero, Nat.reduceEqDiff, reduceIte]; omega)⟩, fun a => ?_⟩
      · rw [hJd]
        refine ⟨hp, Or.inr (Or.inl ⟨rfl, 0, f, σ (o + 2), by omega, g2, fun x hx => ?_, fun _ _ => rfl, fun j hj => by omega, hB.2.2.2.2.2.2, rfl, ?_⟩)⟩
        · rcases g3 x hx with z | ⟨z1, z2⟩
          · exact z
          · rcases hS.fnR x with y | y
            · rw [z1, y]; rfl
            · exact absurd y.2 (z2 _ (by omega))
        · rw [show fu (fu σ (o + 26) f) (o + 2) (σ (o + 2)) = fu σ (o + 26) f from by rw [show σ (o + 2) = fu σ (o + 26) f (o + 2) from (fu_n (by omega)).symm, fu_self]]
      · have tv := hS.tv (i := i) (by omega)
        have nm := hS.num (i := i) (by omega)
        have t4 := tv.1.2.2.1
        have t0 := tv.1.2.1
        rw [m13 i (by omega)]
        refine ⟨by omega, hL, U, len, st 1, hB, by omega, by omega, ?_⟩
        rw [show two2 U (st 2 i + 1) = numA U (st 2) i from rfl]
        refine ⟨by omega, by omega, by omega, by omega, ?_, (by rw [hμ]; simp only [gI_e, List.getD_cons_succ, List.getD_cons_zero, Nat.reduceEqDiff, reduceIte]; omega)⟩
        rw [hJd]
        refine ⟨hp, Or.inl ⟨rfl, i + 1, _, by omega, fun j hj => ?_, fun x hx => ?_, rfl, rfl⟩⟩
        · rw [iu_n (by omega)]; exact g2 j hj
        · by_cases e : x = numA U (st 2) i
          · left; rw [e, iu_s]
          · rw [iu_n (by omega)]
            rcases g3 x hx with z | ⟨z1, z2⟩
            · exact Or.inl z
            · refine Or.inr ⟨z1, fun j hj => ?_⟩
              by_cases e2 : j = i
              · rw [e2]; exact fun z => e z.symm
              · exact z2 j (by omega)
    · have hbi := hby i
      (obtain ⟨mh, mp0, mp2, mp3, mp4, mp5, mp6, mp7, mp8, mp9, mp10, mp11, mp12, mp13, mp14, mp15, mp16, mp17, mp18, mp19, mp20, mp21, mp22, mp24, mp25, mp26, mp27, mq0, mq2, mq3, mq4, mq5, mq6, mq7, mq8, mq9, mq10, mq11, mq12, mq13, mq14, mq15, mq16, mq17, mq18, mq19, mq20, mq21, mq22, mq24, mq25, mq26, mq27⟩ := (show LModel lay ρ _ from hL); unfold wps; simp only [Option.getD_some, List.zip_cons_cons, List.zip_nil_left, List.zip_nil_right, List.zip_nil_right, MB_fu, MR_fu, si_iload_n0, si_iload_n1, si_iload_n2, si_iload_n3, si_iload, si_lload_n0, si_lload_n1, si_lload_n2, si_lload_n3, si_lload, si_aload_n0, si_aload_n1, si_aload_n2, si_aload_n3, si_aload, si_istore_n0, si_istore_n1, si_istore_n2, si_istore_n3, si_istore, si_astore_n0, si_astore_n1, si_astore_n2, si_astore_n3, si_astore, si_lstore_n0, si_lstore_n1, si_lstore_n2, si_lstore_n3, si_lstore, si_iconst, si_bipush, si_sipush, si_ldc, si_ldc2_w, si_lconst0, si_lconst1, si_aconst_null, si_iinc, si_dup, si_dup2, si_iadd, si_isub, si_imul, si_idiv, si_irem, si_iand, si_ior, si_ishl, si_ishr, si_ladd, si_lmul, si_lor, si_lxor, si_lshl, si_lushr, si_lcmp, si_i2b, si_i2l, si_l2i, si_icmp_eq, si_icmp_ne, si_icmp_lt, si_icmp_ge, si_icmp_gt, si_icmp_le, si_if_eq, si_if_ne, si_if_lt, si_if_ge, si_if_gt, si_if_le, si_ifnull, si_ifnonnull, si_goto, si_tableswitch, si_lookupswitch, si_getfield, si_putfield, si_getstatic, si_iaload, si_baload, si_laload, si_aaload, si_iastore, si_bastore, si_lastore, si_aastore, si_arraylength, si_new, si_newarray, si_anewarray, si_invokevirtual, si_invokespecial, si_invokestatic, si_ireturn, si_lreturn, si_areturn, si_return_, pI_e, pL_e, pR_e, pA_r, pA_n, pN_n, pN_r, oI_e, oL_e, oA_r, oA_n, lget_e, lrm1_0, lrm2_0, lrm1_i, lrm1_r, lrm1_n, lrm1_l, lrm2_i, lrm2_r, lrm2_n, lrm2_l, popN_0, popN_s, acat_i, acat_l, acat_r, acat_n, stw_0, stw_s, psh_s, psh_n, wgf_r, wgf_i, wgf_b, wgf_n, wgf_m, wpf_i, wpf_r, wpf_b, wnew_e, callE_e, rbk_0, rbk_1, tsw_0, tsw_s, lsw_0, lsw_s, wp_s, wq_t, wq_f, oV_e, pick_0, pick_s, oZ_e, oY_e, r_Model_read_0, r_Model_read_1, r_Model_read_4, r_Model_read_7, r_Model_read_8, r_Model_read_9, r_Model_read_10, r_Model_read_11, r_Model_read_12, r_Model_read_13, r_Model_read_16, r_Model_read_17, r_Model_read_18, r_Model_read_21, r_Model_read_22, r_Model_read_25, r_Model_read_27, r_Model_read_28, r_Model_read_29, r_Model_read_30, r_Model_read_31, r_Model_read_32, r_Model_read_35, r_Model_read_36, r_Model_read_37, r_Model_read_38, r_Model_read_41, r_Model_read_44, r_Model_read_45, r_Model_read_46, r_Model_read_47, r_Model_read_48, r_Model_read_51, r_Model_read_54, r_Model_read_55, r_Model_read_58, r_Model_read_61, r_Model_read_62, r_Model_read_63, r_Model_read_64, r_Model_read_65, r_Model_read_66, r_Model_read_69, r_Model_read_70, r_Model_read_71, r_Model_read_72, r_Model_read_75, r_Model_read_78, r_Model_read_79, r_Model_read_82, r_Model_read_83, r_Model_read_84, r_Model_read_87, r_Model_read_88, r_Model_read_89, r_Model_read_90, r_Model_read_93, r_Model_read_94, r_Model_read_97, r_Model_read_98, r_Model_read_99, r_Model_read_100, r_Model_read_101, r_Model_read_104, r_Model_read_105, r_Model_read_106, r_Model_read_107, r_Model_read_108, r_Model_read_111, r_Model_read_112, r_Model_read_113, r_Model_read_114, r_Model_read_115, r_Model_read_118, r_Model_read_119, r_Model_read_120, r_Model_read_121, r_Model_read_122, r_Model_read_125, r_Model_read_126, r_Model_read_127, r_Model_read_128, r_Model_read_129, r_Model_read_132, r_Model_read_133, r_Model_read_134, r_Model_read_135, r_Model_read_136, r_Model_read_139, r_Model_read_140, r_Model_read_141, r_Model_read_142, r_Model_read_143, r_Model_read_146, r_Model_read_147, r_Model_read_148, r_Model_read_149, r_Model_read_150, r_Model_read_153, r_Model_read_154, r_Model_read_155, r_Model_read_156, r_Model_read_157, r_Model_read_158, r_Model_read_159, r_Model_read_161, r_Model_read_164, r_Model_read_165, r_Model_read_168, r_Model_read_170, r_Model_read_171, r_Model_read_172, r_Model_read_173, r_Model_read_174, r_Model_read_175, r_Model_read_176, r_Model_read_179, r_Model_read_182, r_Model_read_183, r_Model_read_184, r_Model_read_185, r_Model_read_186, r_Model_read_189, r_Model_read_190, r_Model_read_191, r_Model_read_194, r_Model_read_195, r_Model_read_196, r_Model_read_197, r_Model_read_200, r_Model_read_202, r_Model_read_205, r_Model_read_206, r_Model_read_209, r_Model_read_210, r_Model_read_211, r_Model_read_212, r_Model_read_213, r_Model_read_214, r_Model_read_215, r_Model_read_218, r_Model_read_221, r_Model_read_222, r_Model_read_223, r_Model_read_224, r_Model_read_227, r_Model_read_228, r_Model_read_229, r_Model_read_232, r_Model_read_233, r_Model_read_234, r_Model_read_235, r_Model_read_238, r_Model_read_239, r_Model_read_242, r_Model_read_243, r_Model_read_244, r_Model_read_245, r_Model_read_246, r_Model_read_247, r_Model_read_248, r_Model_read_249, r_Model_read_252, r_Model_read_253, r_Model_read_254, r_Model_read_255, r_Model_read_256, r_Model_read_257, r_Model_read_258, r_Model_read_259, r_Model_read_260, r_Model_read_261, r_Model_read_262, r_Model_read_265, r_Model_read_266, r_Model_read_267, r_Model_read_268, r_Model_read_269, r_Model_read_270, r_Model_read_271, r_Model_read_274, r_Model_read_275, r_Model_read_276, r_Model_read_279, r_Model_read_280, r_Model_read_281, r_Model_read_282, r_Model_read_285, r_Model_read_287, r_Model_read_290, r_Model_read_293, r_Model_read_296, r_Model_read_297, r_Model_read_300, r_Model_read_303, r_Model_read_304, r_Model_read_305, r_Model_read_306, r_Model_read_309, r_Model_read_310, r_Model_read_311, r_Model_read_312, r_Model_read_313, r_Model_read_314, r_Model_read_315, r_Model_read_318, r_Model_read_321, r_Model_read_322, r_Model_read_323, r_Model_read_324, r_Model_read_327, r_Model_read_328, r_Model_read_329, r_Model_read_330, r_Model_read_331, r_Model_read_332, r_Model_read_333, r_Model_read_334, r_Model_read_335, r_Model_read_338, r_Model_read_339, r_Model_read_340, r_Model_read_341, r_Model_read_342, r_Model_read_343, r_Model_read_344, r_Model_read_345, r_Model_read_348, r_Model_read_349, r_Model_read_350, r_Model_read_351, r_Model_read_352, r_Model_read_353, r_Model_read_354, r_Model_read_355, r_Model_read_356, r_Model_read_357, r_Model_read_358, r_Model_read_361, r_Model_read_362, r_Model_read_365, r_Model_read_366, r_Model_read_367, xf_Model_read_9, xf_Model_read_13, xf_Model_read_16, xf_Model_read_20, xf_Model_read_23, xf_Model_read_26, xf_Model_read_29, xf_Model_read_32, xf_Model_read_35, xf_Model_read_38, xf_Model_read_41, xf_Model_read_44, xf_Model_read_50, xf_Model_read_53, xf_Model_read_59, xf_Model_read_88, xf_Model_read_91, xk_Model_read_106, xe_Model_read_646, xe_Model_read_660, xe_Model_read_672, xe_Model_read_684, xe_Model_read_380, xd_Model_read, xrb_Model_read, xin_Model_read, T_Model_isPicture_e, TF_Model_isPicture, T_Model_numberOf_e, TF_Model_numberOf, T_Model_record_e, TF_Model_record, T_Model_take_e, TF_Model_take, T_Model_at_e, TF_Model_at, mh, mp0, mp2, mp3, mp4, mp5, mp6, mp7, mp8, mp9, mp10, mp11, mp12, mp13, mp14, mp15, mp16, mp17, mp18, mp19, mp20, mp21, mp22, mp24, mp25, mp26, mp27, mq0, mq2, mq3, mq4, mq5, mq6, mq7, mq8, mq9, mq10, mq11, mq12, mq13, mq14, mq15, mq16, mq17, mq18, mq19, mq20, mq21, mq22, mq24, mq25, mq26, mq27, Nat.reduceAdd, Nat.reduceMul, Nat.reduceEqDiff, reduceIte, Int.reduceNeg, Int.reduceLE, Int.reduceLT, Int.reduceAdd, Int.reduceSub, Int.reduceToNat, true_and, and_true, inR_e, Nat.reduceLT, Nat.reduceLeDiff, reduceCtorEq, Nat.add_zero, Nat.zero_add, or_false, false_or, or_true, true_or, not_true_eq_false, not_false_eq_true, Classical.not_not, Nat.add_eq_zero_iff, and_false, false_and, Int.reduceEq, List.mem_cons, List.not_mem_nil, forall_eq_or_imp, forall_eq, false_implies, implies_true, forall_const, aargs_0, aargs_i, aargs_r, aargs_l, aargs_n, nfT_e, eq_self, and_self, Nat.le_refl, fu_s, fu_fu, iu_iu, iu_s, fu_am, fu_a0, fu_0a, iu_l, Nat.reduceBEq, Int.reduceBEq, T_objInit_e]; clear mp0 mp2 mp3 mp4 mp5 mp6 mp7 mp8 mp9 mp10 mp11 mp12 mp13 mp14 mp15 mp16 mp17 mp18 mp19 mp20 mp21 mp22 mp24 mp25 mp26 mp27)
      refine ⟨fun a => ?_, fun a => ?_⟩
      · refine ⟨by omega, by omega, by omega, by omega, by omega, by omega, by omega, by omega, by omega, by omega, by omega, by omega, by omega, by omega, by omega, by omega, by omega, by omega, by omega, by omega, ?_, (by rw [hμ]; simp only [gI_e, List.getD_cons_succ, List.getD_cons_zero, Nat.reduceEqDiff, reduceIte]; omega)⟩
        rw [hJd]
        refine ⟨hp, Or.inr (Or.inr (Or.inl ⟨rfl, 0, _, by omega, ⟨OB.w17 (OB.w15 (OB.w14 (OB.w12 (OB.w8 (OB.w7 (OB.w6 (OB.w5 (OB.w4 (OB.fd (OB.w3 (OB.w2 (OB.w26 OB.rf g2) (fun j hj => by rw [fu_n (by omega)]; exact g4 j hj)) (fun j hj => by (try simp only [fu_am, Nat.reduceBEq]); exact iu_n (by omega))) (fun j hj => by (try simp only [fu_a0, fu_0a, Nat.reduceBEq]); exact iu_n hj)) (fun j hj => by (try simp only [fu_am, fu_a0, fu_0a, Nat.reduceBEq]); exact iu_n (by omega))) (fun j hj => by (try simp only [fu_am, fu_a0, fu_0a, Nat.reduceBEq]); exact iu_n (by omega))) (fun j hj => by (try simp only [fu_am, fu_a0, fu_0a, Nat.reduceBEq]); exact iu_n (by omega))) (fun j hj => by (try simp only [fu_am, fu_a0, fu_0a, Nat.reduceBEq]); exact iu_n (by omega))) (fun j hj => by (try simp only [fu_am, fu_a0, fu_0a, Nat.reduceBEq]); exact iu_n (by omega))) (fun j hj => by (try simp only [fu_am, fu_a0, fu_0a, Nat.reduceBEq]); exact iu_n (by omega))) (fun j hj => by (try simp only [fu_am, fu_a0, fu_0a, Nat.reduceBEq]); exact iu_n (by omega))) (fun j hj => by (try simp only [fu_am, fu_a0, fu_0a, Nat.reduceBEq]); exact iu_n (by omega))) (fun j hj => by (try simp only [fu_am, fu_a0, fu_0a, Nat.reduceBEq]); exact iu_n (by omega)), ?_⟩, fun k hk => by omega, rfl, rfl⟩))⟩
        simp only [fu_s, fu_am, fu_a0, fu_0a, iu_s, Nat.reduceBEq, true_and, and_true]
        exact ⟨fun j hj => g5 j (by omega), g6, fun x hx => g3 x hx⟩
      · refine ⟨by omega, by omega, by omega, by omega, hbi, by omega, by omega, by omega, ?_, (by rw [hμ]; simp only [gI_e, List.getD_cons_succ, List.getD_cons_zero, Nat.reduceEqDiff, reduceIte]; omega)⟩
        rw [hJd]
        refine ⟨hp, Or.inr (Or.inl ⟨rfl, i + 1, f, _, by omega, g2, g3, fun j hj => ?_, fun j hj => ?_, fun j => ?_, rfl, rfl⟩)⟩
        · rw [iu_n (by omega)]; exact g4 j hj
        · by_cases e : j = i
          · rw [e, iu_s]
          · rw [iu_n (by omega)]; exact g5 j (by omega)
        · by_cases e : j = 8000 * p + i
          · rw [e, iu_s]; exact hbi
          · rw [iu_n e]; exact g6 j
    · (obtain ⟨mh, mp0, mp2, mp3, mp4, mp5, mp6, mp7, mp8, mp9, mp10, mp11, mp12, mp13, mp14, mp15, mp16, mp17, mp18, mp19, mp20, mp21, mp22, mp24, mp25, mp26, mp27, mq0, mq2, mq3, mq4, mq5, mq6, mq7, mq8, mq9, mq10, mq11, mq12, mq13, mq14, mq15, mq16, mq17, mq18, mq19, mq20, mq21, mq22, mq24, mq25, mq26, mq27⟩ := (show LModel lay ρ _ from hL); unfold wps; simp only [Option.getD_some, List.zip_cons_cons, List.zip_nil_left, List.zip_nil_right, List.zip_nil_right, MB_fu, MR_fu, si_iload_n0, si_iload_n1, si_iload_n2, si_iload_n3, si_iload, si_lload_n0, si_lload_n1, si_lload_n2, si_lload_n3, si_lload, si_aload_n0, si_aload_n1, si_aload_n2, si_aload_n3, si_aload, si_istore_n0, si_istore_n1, si_istore_n2, si_istore_n3, si_istore, si_astore_n0, si_astore_n1, si_astore_n2, si_astore_n3, si_astore, si_lstore_n0, si_lstore_n1, si_lstore_n2, si_lstore_n3, si_lstore, si_iconst, si_bipush, si_sipush, si_ldc, si_ldc2_w, si_lconst0, si_lconst1, si_aconst_null, si_iinc, si_dup, si_dup2, si_iadd, si_isub, si_imul, si_idiv, si_irem, si_iand, si_ior, si_ishl, si_ishr, si_ladd, si_lmul, si_lor, si_lxor, si_lshl, si_lushr, si_lcmp, si_i2b, si_i2l, si_l2i, si_icmp_eq, si_icmp_ne, si_icmp_lt, si_icmp_ge, si_icmp_gt, si_icmp_le, si_if_eq, si_if_ne, si_if_lt, si_if_ge, si_if_gt, si_if_le, si_ifnull, si_ifnonnull, si_goto, si_tableswitch, si_lookupswitch, si_getfield, si_putfield, si_getstatic, si_iaload, si_baload, si_laload, si_aaload, si_iastore, si_bastore, si_lastore, si_aastore, si_arraylength, si_new, si_newarray, si_anewarray, si_invokevirtual, si_invokespecial, si_invokestatic, si_ireturn, si_lreturn, si_areturn, si_return_, pI_e, pL_e, pR_e, pA_r, pA_n, pN_n, pN_r, oI_e, oL_e, oA_r, oA_n, lget_e, lrm1_0, lrm2_0, lrm1_i, lrm1_r, lrm1_n, lrm1_l, lrm2_i, lrm2_r, lrm2_n, lrm2_l, popN_0, popN_s, acat_i, acat_l, acat_r, acat_n, stw_0, stw_s, psh_s, psh_n, wgf_r, wgf_i, wgf_b, wgf_n, wgf_m, wpf_i, wpf_r, wpf_b, wnew_e, callE_e, rbk_0, rbk_1, tsw_0, tsw_s, lsw_0, lsw_s, wp_s, wq_t, wq_f, oV_e, pick_0, pick_s, oZ_e, oY_e, r_Model_read_0, r_Model_read_1, r_Model_read_4, r_Model_read_7, r_Model_read_8, r_Model_read_9, r_Model_read_10, r_Model_read_11, r_Model_read_12, r_Model_read_13, r_Model_read_16, r_Model_read_17, r_Model_read_18, r_Model_read_21, r_Model_read_22, r_Model_read_25, r_Model_read_27, r_Model_read_28, r_Model_read_29, r_Model_read_30, r_Model_read_31, r_Model_read_32, r_Model_read_35, r_Model_read_36, r_Model_read_37, r_Model_read_38, r_Model_read_41, r_Model_read_44, r_Model_read_45, r_Model_read_46, r_Model_read_47, r_Model_read_48, r_Model_read_51, r_Model_read_54, r_Model_read_55, r_Model_read_58, r_Model_read_61, r_Model_read_62, r_Model_read_63, r_Model_read_64, r_Model_read_65, r_Model_read_66, r_Model_read_69, r_Model_read_70, r_Model_read_71, r_Model_read_72, r_Model_read_75, r_Model_read_78, r_Model_read_79, r_Model_read_82, r_Model_read_83, r_Model_read_84, r_Model_read_87, r_Model_read_88, r_Model_read_89, r_Model_read_90, r_Model_read_93, r_Model_read_94, r_Model_read_97, r_Model_read_98, r_Model_read_99, r_Model_read_100, r_Model_read_101, r_Model_read_104, r_Model_read_105, r_Model_read_106, r_Model_read_107, r_Model_read_108, r_Model_read_111, r_Model_read_112, r_Model_read_113, r_Model_read_114, r_Model_read_115, r_Model_read_118, r_Model_read_119, r_Model_read_120, r_Model_read_121, r_Model_read_122, r_Model_read_125, r_Model_read_126, r_Model_read_127, r_Model_read_128, r_Model_read_129, r_Model_read_132, r_Model_read_133, r_Model_read_134, r_Model_read_135, r_Model_read_136, r_Model_read_139, r_Model_read_140, r_Model_read_141, r_Model_read_142, r_Model_read_143, r_Model_read_146, r_Model_read_147, r_Model_read_148, r_Model_read_149, r_Model_read_150, r_Model_read_153, r_Model_read_154, r_Model_read_155, r_Model_read_156, r_Model_read_157, r_Model_read_158, r_Model_read_159, r_Model_read_161, r_Model_read_164, r_Model_read_165, r_Model_read_168, r_Model_read_170, r_Model_read_171, r_Model_read_172, r_Model_read_173, r_Model_read_174, r_Model_read_175, r_Model_read_176, r_Model_read_179, r_Model_read_182, r_Model_read_183, r_Model_read_184, r_Model_read_185, r_Model_read_186, r_Model_read_189, r_Model_read_190, r_Model_read_191, r_Model_read_194, r_Model_read_195, r_Model_read_196, r_Model_read_197, r_Model_read_200, r_Model_read_202, r_Model_read_205, r_Model_read_206, r_Model_read_209, r_Model_read_210, r_Model_read_211, r_Model_read_212, r_Model_read_213, r_Model_read_214, r_Model_read_215, r_Model_read_218, r_Model_read_221, r_Model_read_222, r_Model_read_223, r_Model_read_224, r_Model_read_227, r_Model_read_228, r_Model_read_229, r_Model_read_232, r_Model_read_233, r_Model_read_234, r_Model_read_235, r_Model_read_238, r_Model_read_239, r_Model_read_242, r_Model_read_243, r_Model_read_244, r_Model_read_245, r_Model_read_246, r_Model_read_247, r_Model_read_248, r_Model_read_249, r_Model_read_252, r_Model_read_253, r_Model_read_254, r_Model_read_255, r_Model_read_256, r_Model_read_257, r_Model_read_258, r_Model_read_259, r_Model_read_260, r_Model_read_261, r_Model_read_262, r_Model_read_265, r_Model_read_266, r_Model_read_267, r_Model_read_268, r_Model_read_269, r_Model_read_270, r_Model_read_271, r_Model_read_274, r_Model_read_275, r_Model_read_276, r_Model_read_279, r_Model_read_280, r_Model_read_281, r_Model_read_282, r_Model_read_285, r_Model_read_287, r_Model_read_290, r_Model_read_293, r_Model_read_296, r_Model_read_297, r_Model_read_300, r_Model_read_303, r_Model_read_304, r_Model_read_305, r_Model_read_306, r_Model_read_309, r_Model_read_310, r_Model_read_311, r_Model_read_312, r_Model_read_313, r_Model_read_314, r_Model_read_315, r_Model_read_318, r_Model_read_321, r_Model_read_322, r_Model_read_323, r_Model_read_324, r_Model_read_327, r_Model_read_328, r_Model_read_329, r_Model_read_330, r_Model_read_331, r_Model_read_332, r_Model_read_333, r_Model_read_334, r_Model_read_335, r_Model_read_338, r_Model_read_339, r_Model_read_340, r_Model_read_341, r_Model_read_342, r_Model_read_343, r_Model_read_344, r_Model_read_345, r_Model_read_348, r_Model_read_349, r_Model_read_350, r_Model_read_351, r_Model_read_352, r_Model_read_353, r_Model_read_354, r_Model_read_355, r_Model_read_356, r_Model_read_357, r_Model_read_358, r_Model_read_361, r_Model_read_362, r_Model_read_365, r_Model_read_366, r_Model_read_367, xf_Model_read_9, xf_Model_read_13, xf_Model_read_16, xf_Model_read_20, xf_Model_read_23, xf_Model_read_26, xf_Model_read_29, xf_Model_read_32, xf_Model_read_35, xf_Model_read_38, xf_Model_read_41, xf_Model_read_44, xf_Model_read_50, xf_Model_read_53, xf_Model_read_59, xf_Model_read_88, xf_Model_read_91, xk_Model_read_106, xe_Model_read_646, xe_Model_read_660, xe_Model_read_672, xe_Model_read_684, xe_Model_read_380, xd_Model_read, xrb_Model_read, xin_Model_read, T_Model_isPicture_e, TF_Model_isPicture, T_Model_numberOf_e, TF_Model_numberOf, T_Model_record_e, TF_Model_record, T_Model_take_e, TF_Model_take, T_Model_at_e, TF_Model_at, mh, mp0, mp2, mp3, mp4, mp5, mp6, mp7, mp8, mp9, mp10, mp11, mp12, mp13, mp14, mp15, mp16, mp17, mp18, mp19, mp20, mp21, mp22, mp24, mp25, mp26, mp27, mq0, mq2, mq3, mq4, mq5, mq6, mq7, mq8, mq9, mq10, mq11, mq12, mq13, mq14, mq15, mq16, mq17, mq18, mq19, mq20, mq21, mq22, mq24, mq25, mq26, mq27, Nat.reduceAdd, Nat.reduceMul, Nat.reduceEqDiff, reduceIte, Int.reduceNeg, Int.reduceLE, Int.reduceLT, Int.reduceAdd, Int.reduceSub, Int.reduceToNat, true_and, and_true, inR_e, Nat.reduceLT, Nat.reduceLeDiff, reduceCtorEq, Nat.add_zero, Nat.zero_add, or_false, false_or, or_true, true_or, not_true_eq_false, not_false_eq_true, Classical.not_not, Nat.add_eq_zero_iff, and_false, false_and, Int.reduceEq, List.mem_cons, List.not_mem_nil, forall_eq_or_imp, forall_eq, false_implies, implies_true, forall_const, aargs_0, aargs_i, aargs_r, aargs_l, aargs_n, nfT_e, eq_self, and_self, Nat.le_refl, fu_s, fu_fu, iu_iu, iu_s, fu_am, fu_a0, fu_0a, iu_l, Nat.reduceBEq, Int.reduceBEq, T_objInit_e]; clear mp0 mp2 mp3 mp4 mp5 mp6 mp7 mp8 mp9 mp10 mp11 mp12 mp13 mp14 mp15 mp16 mp17 mp18 mp19 mp20 mp21 mp22 mp24 mp25 mp26 mp27)
      refine ⟨fun a => ⟨?_, (by rw [hμ]; simp only [gI_e, List.getD_cons_succ, List.getD_cons_zero, Nat.reduceEqDiff, reduceIte]; omega)⟩, fun a => ?_⟩
      · rw [hJd]
        refine ⟨hp, Or.inr (Or.inr (Or.inr (Or.inl ⟨rfl, 0, σ1, g2.1, g2.2.1, g2.mr hp hfd (fun k hk => g3 k (by omega)), rfl, rfl⟩)))⟩
      · refine ⟨by omega, by omega, by omega, by omega, by omega, ?_, (by rw [hμ]; simp only [gI_e, List.getD_cons_succ, List.getD_cons_zero, Nat.reduceEqDiff, reduceIte]; omega)⟩
        rw [hJd]
        obtain ⟨r0, r1, r2, r3, r4, r5, r6⟩ := (show RI σ σ1 o p from g2)
        refine ⟨hp, Or.inr (Or.inr (Or.inl ⟨rfl, i + 1, _, by omega, ⟨OB.w11 (r0) (fun j hj => by (try simp only [fu_am, fu_a0, fu_0a, Nat.reduceBEq]); exact iu_n (by omega)), ?_⟩, fun k hk => ?_, rfl, rfl⟩))⟩
        · simp only [fu_am, fu_0a, fu_a0, Nat.reduceBEq]
          exact ⟨r1, r2, r3, r4, r5, r6⟩
        · rw [fu_s]
          by_cases e : k = i
          · rw [e, iu_s]
          · rw [iu_n (by omega)]; exact g3 k (by omega)
    · skip
      have hS1 := SW.itSW (U := tU σ o) (len := σ o 1) (tU_R σ o) hfd n
      have eN : itS (tU σ o) (σ o 1) (n + 1) = stp (tU σ o) (σ o 1) (itS (tU σ o) (σ o 1) n) := rfl
      generalize hst : itS (tU σ o) (σ o 1) n = s1 at *
      obtain ⟨w0, w1, w2, w3, w4, w5, w6, w7, w8, w9, w10, w11, w12, w13, w14⟩ := (show SW (tU σ o) (σ o 1) s1 from hS1)
      obtain ⟨hB, hl3, ⟨m4, m5, m6⟩, ⟨m7, m8, m9⟩, m12, ⟨m14, m13⟩, m15, ⟨m17, m16⟩, m26⟩ := (show MR σ1 o p (tU σ o) (σ o 1) s1 from g3)
      obtain ⟨b1, b2, b3, b4, b5, b6, b7⟩ := (show MB σ1 o p (tU σ o) (σ o 1) (s1 1) from hB)
      generalize hq : s1 0 0 = q at *
      (obtain ⟨mh, mp0, mp2, mp3, mp4, mp5, mp6, mp7, mp8, mp9, mp10, mp11, mp12, mp13, mp14, mp15, mp16, mp17, mp18, mp19, mp20, mp21, mp22, mp24, mp25, mp26, mp27, mq0, mq2, mq3, mq4, mq5, mq6, mq7, mq8, mq9, mq10, mq11, mq12, mq13, mq14, mq15, mq16, mq17, mq18, mq19, mq20, mq21, mq22, mq24, mq25, mq26, mq27⟩ := (show LModel lay ρ _ from hL); unfold wps; simp only [Option.getD_some, List.zip_cons_cons, List.zip_nil_left, List.zip_nil_right, List.zip_nil_right, MB_fu, MR_fu, si_iload_n0, si_iload_n1, si_iload_n2, si_iload_n3, si_iload, si_lload_n0, si_lload_n1, si_lload_n2, si_lload_n3, si_lload, si_aload_n0, si_aload_n1, si_aload_n2, si_aload_n3, si_aload, si_istore_n0, si_istore_n1, si_istore_n2, si_istore_n3, si_istore, si_astore_n0, si_astore_n1, si_astore_n2, si_astore_n3, si_astore, si_lstore_n0, si_lstore_n1, si_lstore_n2, si_lstore_n3, si_lstore, si_iconst, si_bipush, si_sipush, si_ldc, si_ldc2_w, si_lconst0, si_lconst1, si_aconst_null, si_iinc, si_dup, si_dup2, si_iadd, si_isub, si_imul, si_idiv, si_irem, si_iand, si_ior, si_ishl, si_ishr, si_ladd, si_lmul, si_lor, si_lxor, si_lshl, si_lushr, si_lcmp, si_i2b, si_i2l, si_l2i, si_icmp_eq, si_icmp_ne, si_icmp_lt, si_icmp_ge, si_icmp_gt, si_icmp_le, si_if_eq, si_if_ne, si_if_lt, si_if_ge, si_if_gt, si_if_le, si_ifnull, si_ifnonnull, si_goto, si_tableswitch, si_lookupswitch, si_getfield, si_putfield, si_getstatic, si_iaload, si_baload, si_laload, si_aaload, si_iastore, si_bastore, si_lastore, si_aastore, si_arraylength, si_new, si_newarray, si_anewarray, si_invokevirtual, si_invokespecial, si_invokestatic, si_ireturn, si_lreturn, si_areturn, si_return_, pI_e, pL_e, pR_e, pA_r, pA_n, pN_n, pN_r, oI_e, oL_e, oA_r, oA_n, lget_e, lrm1_0, lrm2_0, lrm1_i, lrm1_r, lrm1_n, lrm1_l, lrm2_i, lrm2_r, lrm2_n, lrm2_l, popN_0, popN_s, acat_i, acat_l, acat_r, acat_n, stw_0, stw_s, psh_s, psh_n, wgf_r, wgf_i, wgf_b, wgf_n, wgf_m, wpf_i, wpf_r, wpf_b, wnew_e, callE_e, rbk_0, rbk_1, tsw_0, tsw_s, lsw_0, lsw_s, wp_s, wq_t, wq_f, oV_e, pick_0, pick_s, oZ_e, oY_e, r_Model_read_0, r_Model_read_1, r_Model_read_4, r_Model_read_7, r_Model_read_8, r_Model_read_9, r_Model_read_10, r_Model_read_11, r_Model_read_12, r_Model_read_13, r_Model_read_16, r_Model_read_17, r_Model_read_18, r_Model_read_21, r_Model_read_22, r_Model_read_25, r_Model_read_27, r_Model_read_28, r_Model_read_29, r_Model_read_30, r_Model_read_31, r_Model_read_32, r_Model_read_35, r_Model_read_36, r_Model_read_37, r_Model_read_38, r_Model_read_41, r_Model_read_44, r_Model_read_45, r_Model_read_46, r_Model_read_47, r_Model_read_48, r_Model_read_51, r_Model_read_54, r_Model_read_55, r_Model_read_58, r_Model_read_61, r_Model_read_62, r_Model_read_63, r_Model_read_64, r_Model_read_65, r_Model_read_66, r_Model_read_69, r_Model_read_70, r_Model_read_71, r_Model_read_72, r_Model_read_75, r_Model_read_78, r_Model_read_79, r_Model_read_82, r_Model_read_83, r_Model_read_84, r_Model_read_87, r_Model_read_88, r_Model_read_89, r_Model_read_90, r_Model_read_93, r_Model_read_94, r_Model_read_97, r_Model_read_98, r_Model_read_99, r_Model_read_100, r_Model_read_101, r_Model_read_104, r_Model_read_105, r_Model_read_106, r_Model_read_107, r_Model_read_108, r_Model_read_111, r_Model_read_112, r_Model_read_113, r_Model_read_114, r_Model_read_115, r_Model_read_118, r_Model_read_119, r_Model_read_120, r_Model_read_121, r_Model_read_122, r_Model_read_125, r_Model_read_126, r_Model_read_127, r_Model_read_128, r_Model_read_129, r_Model_read_132, r_Model_read_133, r_Model_read_134, r_Model_read_135, r_Model_read_136, r_Model_read_139, r_Model_read_140, r_Model_read_141, r_Model_read_142, r_Model_read_143, r_Model_read_146, r_Model_read_147, r_Model_read_148, r_Model_read_149, r_Model_read_150, r_Model_read_153, r_Model_read_154, r_Model_read_155, r_Model_read_156, r_Model_read_157, r_Model_read_158, r_Model_read_159, r_Model_read_161, r_Model_read_164, r_Model_read_165, r_Model_read_168, r_Model_read_170, r_Model_read_171, r_Model_read_172, r_Model_read_173, r_Model_read_174, r_Model_read_175, r_Model_read_176, r_Model_read_179, r_Model_read_182, r_Model_read_183, r_Model_read_184, r_Model_read_185, r_Model_read_186, r_Model_read_189, r_Model_read_190, r_Model_read_191, r_Model_read_194, r_Model_read_195, r_Model_read_196, r_Model_read_197, r_Model_read_200, r_Model_read_202, r_Model_read_205, r_Model_read_206, r_Model_read_209, r_Model_read_210, r_Model_read_211, r_Model_read_212, r_Model_read_213, r_Model_read_214, r_Model_read_215, r_Model_read_218, r_Model_read_221, r_Model_read_222, r_Model_read_223, r_Model_read_224, r_Model_read_227, r_Model_read_228, r_Model_read_229, r_Model_read_232, r_Model_read_233, r_Model_read_234, r_Model_read_235, r_Model_read_238, r_Model_read_239, r_Model_read_242, r_Model_read_243, r_Model_read_244, r_Model_read_245, r_Model_read_246, r_Model_read_247, r_Model_read_248, r_Model_read_249, r_Model_read_252, r_Model_read_253, r_Model_read_254, r_Model_read_255, r_Model_read_256, r_Model_read_257, r_Model_read_258, r_Model_read_259, r_Model_read_260, r_Model_read_261, r_Model_read_262, r_Model_read_265, r_Model_read_266, r_Model_read_267, r_Model_read_268, r_Model_read_269, r_Model_read_270, r_Model_read_271, r_Model_read_274, r_Model_read_275, r_Model_read_276, r_Model_read_279, r_Model_read_280, r_Model_read_281, r_Model_read_282, r_Model_read_285, r_Model_read_287, r_Model_read_290, r_Model_read_293, r_Model_read_296, r_Model_read_297, r_Model_read_300, r_Model_read_303, r_Model_read_304, r_Model_read_305, r_Model_read_306, r_Model_read_309, r_Model_read_310, r_Model_read_311, r_Model_read_312, r_Model_read_313, r_Model_read_314, r_Model_read_315, r_Model_read_318, r_Model_read_321, r_Model_read_322, r_Model_read_323, r_Model_read_324, r_Model_read_327, r_Model_read_328, r_Model_read_329, r_Model_read_330, r_Model_read_331, r_Model_read_332, r_Model_read_333, r_Model_read_334, r_Model_read_335, r_Model_read_338, r_Model_read_339, r_Model_read_340, r_Model_read_341, r_Model_read_342, r_Model_read_343, r_Model_read_344, r_Model_read_345, r_Model_read_348, r_Model_read_349, r_Model_read_350, r_Model_read_351, r_Model_read_352, r_Model_read_353, r_Model_read_354, r_Model_read_355, r_Model_read_356, r_Model_read_357, r_Model_read_358, r_Model_read_361, r_Model_read_362, r_Model_read_365, r_Model_read_366, r_Model_read_367, xf_Model_read_9, xf_Model_read_13, xf_Model_read_16, xf_Model_read_20, xf_Model_read_23, xf_Model_read_26, xf_Model_read_29, xf_Model_read_32, xf_Model_read_35, xf_Model_read_38, xf_Model_read_41, xf_Model_read_44, xf_Model_read_50, xf_Model_read_53, xf_Model_read_59, xf_Model_read_88, xf_Model_read_91, xk_Model_read_106, xe_Model_read_646, xe_Model_read_660, xe_Model_read_672, xe_Model_read_684, xe_Model_read_380, xd_Model_read, xrb_Model_read, xin_Model_read, T_Model_isPicture_e, TF_Model_isPicture, T_Model_numberOf_e, TF_Model_numberOf, T_Model_record_e, TF_Model_record, T_Model_take_e, TF_Model_take, T_Model_at_e, TF_Model_at, mh, mp0, mp2, mp3, mp4, mp5, mp6, mp7, mp8, mp9, mp10, mp11, mp12, mp13, mp14, mp15, mp16, mp17, mp18, mp19, mp20, mp21, mp22, mp24, mp25, mp26, mp27, mq0, mq2, mq3, mq4, mq5, mq6, mq7, mq8, mq9, mq10, mq11, mq12, mq13, mq14, mq15, mq16, mq17, mq18, mq19, mq20, mq21, mq22, mq24, mq25, mq26, mq27, Nat.reduceAdd, Nat.reduceMul, Nat.reduceEqDiff, reduceIte, Int.reduceNeg, Int.reduceLE, Int.reduceLT, Int.reduceAdd, Int.reduceSub, Int.reduceToNat, true_and, and_true, inR_e, Nat.reduceLT, Nat.reduceLeDiff, reduceCtorEq, Nat.add_zero, Nat.zero_add, or_false, false_or, or_true, true_or, not_true_eq_false, not_false_eq_true, Classical.not_not, Nat.add_eq_zero_iff, and_false, false_and, Int.reduceEq, List.mem_cons, List.not_mem_nil, forall_eq_or_imp, forall_eq, false_implies, implies_true, forall_const, aargs_0, aargs_i, aargs_r, aargs_l, aargs_n, nfT_e, eq_self, and_self, Nat.le_refl, fu_s, fu_fu, iu_iu, iu_s, fu_am, fu_a0, fu_0a, iu_l, Nat.reduceBEq, Int.reduceBEq, T_objInit_e]; clear mp0 mp2 mp3 mp4 mp5 mp6 mp7 mp8 mp9 mp10 mp11 mp12 mp13 mp14 mp15 mp16 mp17 mp18 mp19 mp20 mp21 mp22 mp24 mp25 mp26 mp27)
      rw [hl3]
      refine ⟨by omega, by omega, fun a => ⟨by omega, by omega, ?_⟩, fun a => ⟨hL, b1, by omega, ?_⟩⟩
      · have := h1 σ1 n g1 g2 (by rw [hst, hq]; exact a) (by rw [hst]; exact g3)
        rw [hst] at this
        rw [m4]
        exact this
      · rw [b3 q (by omega)]
        have ne : ¬ σ o 1 ≤ s1 0 0 := by omega
        refine ⟨fun h10 => ⟨hL, tU σ o, σ o 1, s1, hS1, g3, by omega, fun ac c => ?_, fun ac c => ?_⟩, fun h10 => ?_⟩
        · have en := ac.en w0
          have es : itS (tU σ o) (σ o 1) (n + 1) = tk (tU σ o) s1 q := by
            rw [eN]; unfold stp
            rw [if_neg ne, hq, if_neg h10, if_pos (bP_e.mpr ac)]
          have e0 : tk (tU σ o) s1 q 0 0 = enE (tU σ o) s1 q := by
            unfold tk
            repeat' split
            · unfold tkK scR; simp only [fu_s, iu_s, iu_l, Int.reduceBEq]
            · unfold tkR scR; simp only [fu_s, iu_s, iu_l, Int.reduceBEq]
            · unfold tkT scR; simp only [fu_s, iu_s, iu_l, Int.reduceBEq]
          refine ⟨fun z => by omega, fun z => ⟨hL, tU σ o, σ o 1, s1, hS1, g3, by omega, ac, fun e75 => ?_, fun e65 => ?_, fun e75 e65 d => ?_⟩⟩
          · have aK : AccK (tU σ o) (σ o 1) (s1 1) q := by
              rcases ac with ⟨y, ac⟩ | ⟨y, ac⟩ | ⟨y, ac⟩
              · exact ac
              · omega
              · omega
            have r1 := b5.1 (q + 1)
            have a2 := aK.2.1
            refine ⟨by omega, by omega, by omega, by omega, by omega, by omega, by omega, by omega, by omega, by omega, by omega, ?_, (by rw [hμ]; simp only [gI_e, List.getD_cons_succ, List.getD_cons_zero, Nat.reduceEqDiff, reduceIte]; omega)⟩
            rw [hJd]
            refine ⟨hp, Or.inr (Or.inr (Or.inr (Or.inl ⟨rfl, n + 1, _, OB.w5 (OB.w4 (OB.w12 (OB.w11 (g1.sc (n := 23) (by omega)) (fun j hj => by (try simp only [fu_am, fu_a0, fu_0a, Nat.reduceBEq]); exact iu_n (by omega))) (fun j hj => by (try simp only [fu_am, fu_a0, fu_0a, Nat.reduceBEq]); exact iu_n (by omega))) (fun j hj => by (try simp only [fu_am, fu_a0, fu_0a, Nat.reduceBEq]); exact iu_n (by omega))) (fun j hj => by (try simp only [fu_am, fu_a0, fu_0a, Nat.reduceBEq]); exact iu_n (by omega)), ?_, ?_, by rw [es, e0], rfl⟩)))⟩
            · simp only [fu_0a, fu_a0, Nat.reduceBEq]
              exact g2
            · rw [es]
              have := MR.tK (σ := fu σ1 (o + 23) c) (by rw [MR_fu (by omega) (by omega)]; exact g3) hS1 hq h10 ac e75
              simp only [fu_am, Nat.reduceBEq] at this
              exact this
          · refine ⟨by omega, by omega, by omega, by omega, by omega, by omega, by omega, by omega, by omega, by omega, by omega, ?_, (by rw [hμ]; simp only [gI_e, List.getD_cons_succ, List.getD_cons_zero, Nat.reduceEqDiff, reduceIte]; omega)⟩
            have a9 : s1 0 9 < 100 := by
              rcases ac with ⟨y, ac⟩ | ⟨y, ac⟩ | ⟨y, ac⟩
              · omega
              · exact ac.2.2.2.2
              · omega
            rw [hJd]
            refine ⟨hp, Or.inr (Or.inr (Or.inr (Or.inl ⟨rfl, n + 1, _, OB.w5 (OB.w4 (OB.w17 (OB.w16 (g1.sc (n := 23) (by omega)) (fun j hj => by (try simp only [fu_am, fu_a0, fu_0a, Nat.reduceBEq]); exact iu_n (by omega))) (fun j hj => by (try simp only [fu_am, fu_a0, fu_0a, Nat.reduceBEq]); exact iu_n (by omega))) (fun j hj => by (try simp only [fu_am, fu_a0, fu_0a, Nat.reduceBEq]); exact iu_n (by omega))) (fun j hj => by (try simp only [fu_am, fu_a0, fu_0a, Nat.reduceBEq]); exact iu_n (by omega)), ?_, ?_, by rw [es, e0], rfl⟩)))⟩
            · simp only [fu_0a, fu_a0, Nat.reduceBEq]
              exact g2
            · rw [es]
              have := MR.tR (σ := fu σ1 (o + 23) c) (by rw [MR_fu (by omega) (by omega)]; exact g3) hS1 hq e65
              simp only [fu_am, Nat.reduceBEq] at this
              exact this
          · refine ⟨by omega, by omega, by omega, by omega, by omega, by omega, by omega, by omega, by omega, by omega, by omega, ?_, (by rw [hμ]; simp only [gI_e, List.getD_cons_succ, List.getD_cons_zero, Nat.reduceEqDiff, reduceIte]; omega)⟩
            have aT : AccT (tU σ o) (σ o 1) (s1 1) (s1 2) (s1 0 7) (s1 0 8) q := by
              rcases ac with ⟨y, ac⟩ | ⟨y, ac⟩ | ⟨y, ac⟩
              · omega
              · omega
              · exact ac
            have a9 := aT.2.2.2.2.2.2.2.2.1
            have r2 := two2_R b5.1 (q + 1)
            rw [hJd]
            refine ⟨hp, Or.inr (Or.inr (Or.inr (Or.inl ⟨rfl, n + 1, _, OB.w5 (OB.w4 (OB.w26 (OB.w14 (OB.w13 (OB.w15 (g1.sc (n := 23) (by omega)) (fun j hj => by (try simp only [fu_am, fu_a0, fu_0a, Nat.reduceBEq]); exact iu_n (by omega))) (fun j hj => by (try simp only [fu_am, fu_a0, fu_0a, Nat.reduceBEq]); exact iu_n (by omega))) (fun j hj => by (try simp only [fu_am, fu_a0, fu_0a, Nat.reduceBEq]); exact iu_n (by omega))) (fun j hj => by (try simp only [fu_am, fu_a0, fu_0a, Nat.reduceBEq]); exact iu_n (by omega))) (fun j hj => by (try simp only [fu_am, fu_a0, fu_0a, Nat.reduceBEq]); exact iu_n (by omega))) (fun j hj => by (try simp only [fu_am, fu_a0, fu_0a, Nat.reduceBEq]); exact iu_n (by omega)), ?_, ?_, by rw [es, e0], rfl⟩)))⟩
            · simp only [fu_0a, fu_a0, Nat.reduceBEq]
              exact g2
            · rw [es]
              exact MR.tT g3 hS1 hq h10 ac e75 e65
        · refine ⟨by omega, ?_, (by rw [hμ]; simp only [gI_e, List.getD_cons_succ, List.getD_cons_zero, Nat.reduceEqDiff, reduceIte]; omega)⟩
          rw [hJd]
          refine ⟨hp, Or.inr (Or.inr (Or.inr (Or.inr ⟨rfl, n, _, q + 1, g1.sc (n := 23) (by omega), ?_, ?_, ?_, ?_, ?_, ?_, ?_, rfl⟩)))⟩
          · simp only [fu_0a, fu_a0, Nat.reduceBEq]
            exact g2
          · rw [hst, MR_fu (by omega) (by omega)]
            exact g3
          · rw [hst, hq]; omega
          · rw [hst, hq]; exact h10
          · rw [hst, hq]; exact ac
          · rw [hst, hq]
          · rw [hst, hq]
        · have es : itS (tU σ o) (σ o 1) (n + 1) = mkS s1 := by
            rw [eN]; unfold stp
            rw [if_neg ne, hq, if_pos h10]
          refine ⟨by omega, by omega, by omega, by omega, by omega, by omega, ?_, (by rw [hμ]; simp only [gI_e, List.getD_cons_succ, List.getD_cons_zero, Nat.reduceEqDiff, reduceIte]; omega)⟩
          rw [hJd]
          refine ⟨hp, Or.inr (Or.inr (Or.inr (Or.inl ⟨rfl, n + 1, _, OB.w6 (g1) (fun j hj => by (try simp only [fu_am, fu_a0, fu_0a, Nat.reduceBEq]); exact iu_n (by omega)), ?_, ?_, ?_, rfl⟩)))⟩
          · simp only [fu_0a, fu_a0, Nat.reduceBEq]
            exact g2
          · rw [es]; exact g3.mk
          · rw [es]; unfold mkS
            simp only [fu_s, iu_s]
            rw [hq]
    · skip
      have hS1 := SW.itSW (U := tU σ o) (len := σ o 1) (tU_R σ o) hfd n
      have eN : itS (tU σ o) (σ o 1) (n + 1) = stp (tU σ o) (σ o 1) (itS (tU σ o) (σ o 1) n) := rfl
      generalize hst : itS (tU σ o) (σ o 1) n = s1 at *
      obtain ⟨w0, w1, w2, w3, w4, w5, w6, w7, w8, w9, w10, w11, w12, w13, w14⟩ := (show SW (tU σ o) (σ o 1) s1 from hS1)
      obtain ⟨hB, hl3, ⟨m4, m5, m6⟩, ⟨m7, m8, m9⟩, m12, ⟨m14, m13⟩, m15, ⟨m17, m16⟩, m26⟩ := (show MR σ1 o p (tU σ o) (σ o 1) s1 from g3)
      obtain ⟨b1, b2, b3, b4, b5, b6, b7⟩ := (show MB σ1 o p (tU σ o) (σ o 1) (s1 1) from hB)
      generalize hq : s1 0 0 = q at *
      have h4 := w6.1
      have h42 : 2 * s1 0 4 ≤ q := by
        rcases w6.2 with y | ⟨y, y2 | y2⟩
        · exact y
        · omega
        · exact absurd y2 g5
      (obtain ⟨mh, mp0, mp2, mp3, mp4, mp5, mp6, mp7, mp8, mp9, mp10, mp11, mp12, mp13, mp14, mp15, mp16, mp17, mp18, mp19, mp20, mp21, mp22, mp24, mp25, mp26, mp27, mq0, mq2, mq3, mq4, mq5, mq6, mq7, mq8, mq9, mq10, mq11, mq12, mq13, mq14, mq15, mq16, mq17, mq18, mq19, mq20, mq21, mq22, mq24, mq25, mq26, mq27⟩ := (show LModel lay ρ _ from hL); unfold wps; simp only [Option.getD_some, List.zip_cons_cons, List.zip_nil_left, List.zip_nil_right, List.zip_nil_right, MB_fu, MR_fu, si_iload_n0, si_iload_n1, si_iload_n2, si_iload_n3, si_iload, si_lload_n0, si_lload_n1, si_lload_n2, si_lload_n3, si_lload, si_aload_n0, si_aload_n1, si_aload_n2, si_aload_n3, si_aload, si_istore_n0, si_istore_n1, si_istore_n2, si_istore_n3, si_istore, si_astore_n0, si_astore_n1, si_astore_n2, si_astore_n3, si_astore, si_lstore_n0, si_lstore_n1, si_lstore_n2, si_lstore_n3, si_lstore, si_iconst, si_bipush, si_sipush, si_ldc, si_ldc2_w, si_lconst0, si_lconst1, si_aconst_null, si_iinc, si_dup, si_dup2, si_iadd, si_isub, si_imul, si_idiv, si_irem, si_iand, si_ior, si_ishl, si_ishr, si_ladd, si_lmul, si_lor, si_lxor, si_lshl, si_lushr, si_lcmp, si_i2b, si_i2l, si_l2i, si_icmp_eq, si_icmp_ne, si_icmp_lt, si_icmp_ge, si_icmp_gt, si_icmp_le, si_if_eq, si_if_ne, si_if_lt, si_if_ge, si_if_gt, si_if_le, si_ifnull, si_ifnonnull, si_goto, si_tableswitch, si_lookupswitch, si_getfield, si_putfield, si_getstatic, si_iaload, si_baload, si_laload, si_aaload, si_iastore, si_bastore, si_lastore, si_aastore, si_arraylength, si_new, si_newarray, si_anewarray, si_invokevirtual, si_invokespecial, si_invokestatic, si_ireturn, si_lreturn, si_areturn, si_return_, pI_e, pL_e, pR_e, pA_r, pA_n, pN_n, pN_r, oI_e, oL_e, oA_r, oA_n, lget_e, lrm1_0, lrm2_0, lrm1_i, lrm1_r, lrm1_n, lrm1_l, lrm2_i, lrm2_r, lrm2_n, lrm2_l, popN_0, popN_s, acat_i, acat_l, acat_r, acat_n, stw_0, stw_s, psh_s, psh_n, wgf_r, wgf_i, wgf_b, wgf_n, wgf_m, wpf_i, wpf_r, wpf_b, wnew_e, callE_e, rbk_0, rbk_1, tsw_0, tsw_s, lsw_0, lsw_s, wp_s, wq_t, wq_f, oV_e, pick_0, pick_s, oZ_e, oY_e, r_Model_read_0, r_Model_read_1, r_Model_read_4, r_Model_read_7, r_Model_read_8, r_Model_read_9, r_Model_read_10, r_Model_read_11, r_Model_read_12, r_Model_read_13, r_Model_read_16, r_Model_read_17, r_Model_read_18, r_Model_read_21, r_Model_read_22, r_Model_read_25, r_Model_read_27, r_Model_read_28, r_Model_read_29, r_Model_read_30, r_Model_read_31, r_Model_read_32, r_Model_read_35, r_Model_read_36, r_Model_read_37, r_Model_read_38, r_Model_read_41, r_Model_read_44, r_Model_read_45, r_Model_read_46, r_Model_read_47, r_Model_read_48, r_Model_read_51, r_Model_read_54, r_Model_read_55, r_Model_read_58, r_Model_read_61, r_Model_read_62, r_Model_read_63, r_Model_read_64, r_Model_read_65, r_Model_read_66, r_Model_read_69, r_Model_read_70, r_Model_read_71, r_Model_read_72, r_Model_read_75, r_Model_read_78, r_Model_read_79, r_Model_read_82, r_Model_read_83, r_Model_read_84, r_Model_read_87, r_Model_read_88, r_Model_read_89, r_Model_read_90, r_Model_read_93, r_Model_read_94, r_Model_read_97, r_Model_read_98, r_Model_read_99, r_Model_read_100, r_Model_read_101, r_Model_read_104, r_Model_read_105, r_Model_read_106, r_Model_read_107, r_Model_read_108, r_Model_read_111, r_Model_read_112, r_Model_read_113, r_Model_read_114, r_Model_read_115, r_Model_read_118, r_Model_read_119, r_Model_read_120, r_Model_read_121, r_Model_read_122, r_Model_read_125, r_Model_read_126, r_Model_read_127, r_Model_read_128, r_Model_read_129, r_Model_read_132, r_Model_read_133, r_Model_read_134, r_Model_read_135, r_Model_read_136, r_Model_read_139, r_Model_read_140, r_Model_read_141, r_Model_read_142, r_Model_read_143, r_Model_read_146, r_Model_read_147, r_Model_read_148, r_Model_read_149, r_Model_read_150, r_Model_read_153, r_Model_read_154, r_Model_read_155, r_Model_read_156, r_Model_read_157, r_Model_read_158, r_Model_read_159, r_Model_read_161, r_Model_read_164, r_Model_read_165, r_Model_read_168, r_Model_read_170, r_Model_read_171, r_Model_read_172, r_Model_read_173, r_Model_read_174, r_Model_read_175, r_Model_read_176, r_Model_read_179, r_Model_read_182, r_Model_read_183, r_Model_read_184, r_Model_read_185, r_Model_read_186, r_Model_read_189, r_Model_read_190, r_Model_read_191, r_Model_read_194, r_Model_read_195, r_Model_read_196, r_Model_read_197, r_Model_read_200, r_Model_read_202, r_Model_read_205, r_Model_read_206, r_Model_read_209, r_Model_read_210, r_Model_read_211, r_Model_read_212, r_Model_read_213, r_Model_read_214, r_Model_read_215, r_Model_read_218, r_Model_read_221, r_Model_read_222, r_Model_read_223, r_Model_read_224, r_Model_read_227, r_Model_read_228, r_Model_read_229, r_Model_read_232, r_Model_read_233, r_Model_read_234, r_Model_read_235, r_Model_read_238, r_Model_read_239, r_Model_read_242, r_Model_read_243, r_Model_read_244, r_Model_read_245, r_Model_read_246, r_Model_read_247, r_Model_read_248, r_Model_read_249, r_Model_read_252, r_Model_read_253, r_Model_read_254, r_Model_read_255, r_Model_read_256, r_Model_read_257, r_Model_read_258, r_Model_read_259, r_Model_read_260, r_Model_read_261, r_Model_read_262, r_Model_read_265, r_Model_read_266, r_Model_read_267, r_Model_read_268, r_Model_read_269, r_Model_read_270, r_Model_read_271, r_Model_read_274, r_Model_read_275, r_Model_read_276, r_Model_read_279, r_Model_read_280, r_Model_read_281, r_Model_read_282, r_Model_read_285, r_Model_read_287, r_Model_read_290, r_Model_read_293, r_Model_read_296, r_Model_read_297, r_Model_read_300, r_Model_read_303, r_Model_read_304, r_Model_read_305, r_Model_read_306, r_Model_read_309, r_Model_read_310, r_Model_read_311, r_Model_read_312, r_Model_read_313, r_Model_read_314, r_Model_read_315, r_Model_read_318, r_Model_read_321, r_Model_read_322, r_Model_read_323, r_Model_read_324, r_Model_read_327, r_Model_read_328, r_Model_read_329, r_Model_read_330, r_Model_read_331, r_Model_read_332, r_Model_read_333, r_Model_read_334, r_Model_read_335, r_Model_read_338, r_Model_read_339, r_Model_read_340, r_Model_read_341, r_Model_read_342, r_Model_read_343, r_Model_read_344, r_Model_read_345, r_Model_read_348, r_Model_read_349, r_Model_read_350, r_Model_read_351, r_Model_read_352, r_Model_read_353, r_Model_read_354, r_Model_read_355, r_Model_read_356, r_Model_read_357, r_Model_read_358, r_Model_read_361, r_Model_read_362, r_Model_read_365, r_Model_read_366, r_Model_read_367, xf_Model_read_9, xf_Model_read_13, xf_Model_read_16, xf_Model_read_20, xf_Model_read_23, xf_Model_read_26, xf_Model_read_29, xf_Model_read_32, xf_Model_read_35, xf_Model_read_38, xf_Model_read_41, xf_Model_read_44, xf_Model_read_50, xf_Model_read_53, xf_Model_read_59, xf_Model_read_88, xf_Model_read_91, xk_Model_read_106, xe_Model_read_646, xe_Model_read_660, xe_Model_read_672, xe_Model_read_684, xe_Model_read_380, xd_Model_read, xrb_Model_read, xin_Model_read, T_Model_isPicture_e, TF_Model_isPicture, T_Model_numberOf_e, TF_Model_numberOf, T_Model_record_e, TF_Model_record, T_Model_take_e, TF_Model_take, T_Model_at_e, TF_Model_at, mh, mp0, mp2, mp3, mp4, mp5, mp6, mp7, mp8, mp9, mp10, mp11, mp12, mp13, mp14, mp15, mp16, mp17, mp18, mp19, mp20, mp21, mp22, mp24, mp25, mp26, mp27, mq0, mq2, mq3, mq4, mq5, mq6, mq7, mq8, mq9, mq10, mq11, mq12, mq13, mq14, mq15, mq16, mq17, mq18, mq19, mq20, mq21, mq22, mq24, mq25, mq26, mq27, Nat.reduceAdd, Nat.reduceMul, Nat.reduceEqDiff, reduceIte, Int.reduceNeg, Int.reduceLE, Int.reduceLT, Int.reduceAdd, Int.reduceSub, Int.reduceToNat, true_and, and_true, inR_e, Nat.reduceLT, Nat.reduceLeDiff, reduceCtorEq, Nat.add_zero, Nat.zero_add, or_false, false_or, or_true, true_or, not_true_eq_false, not_false_eq_true, Classical.not_not, Nat.add_eq_zero_iff, and_false, false_and, Int.reduceEq, List.mem_cons, List.not_mem_nil, forall_eq_or_imp, forall_eq, false_implies, implies_true, forall_const, aargs_0, aargs_i, aargs_r, aargs_l, aargs_n, nfT_e, eq_self, and_self, Nat.le_refl, fu_s, fu_fu, iu_iu, iu_s, fu_am, fu_a0, fu_0a, iu_l, Nat.reduceBEq, Int.reduceBEq, T_objInit_e]; clear mp0 mp2 mp3 mp4 mp5 mp6 mp7 mp8 mp9 mp10 mp11 mp12 mp13 mp14 mp15 mp16 mp17 mp18 mp19 mp20 mp21 mp22 mp24 mp25 mp26 mp27)
      rw [hl3]
      have fin : nxm (tU σ o) (σ o 1) e = e → J 184 [vR o, vI p, vI e] (sz, sl, lay, ρ, fu (fu (fu (fu σ1 (o + 9) (iu (σ1 (o + 9)) (8000 * p + σ1 (o + 7) p) q)) (o + 10) (iu (σ1 (o + 10)) (8000 * p + σ1 (o + 7) p) (e - q))) (o + 7) (iu (σ1 (o + 7)) p (σ1 (o + 7) p + 1))) (o + 8) (iu (σ1 (o + 8)) p (σ1 (o + 8) p + (e - q))), τ) := by
        intro he
        have es : itS (tU σ o) (σ o 1) (n + 1) = hlS (tU σ o) (σ o 1) s1 := by
          rw [eN]; unfold stp
          rw [if_neg (by omega), hq, if_neg g5, if_neg (by rw [bP_e]; exact g6)]
        rw [hJd]
        refine ⟨hp, Or.inr (Or.inr (Or.inr (Or.inl ⟨rfl, n + 1, _, OB.w8 (OB.w7 (OB.w10 (OB.w9 (g1) (fun j hj => by (try simp only [fu_am, fu_a0, fu_0a, Nat.reduceBEq]); exact iu_n (by omega))) (fun j hj => by (try simp only [fu_am, fu_a0, fu_0a, Nat.reduceBEq]); exact iu_n (by omega))) (fun j hj => by (try simp only [fu_am, fu_a0, fu_0a, Nat.reduceBEq]); exact iu_n (by omega))) (fun j hj => by (try simp only [fu_am, fu_a0, fu_0a, Nat.reduceBEq]); exact iu_n (by omega)), ?_, ?_, ?_, rfl⟩)))⟩
        · simp only [fu_0a, fu_a0, Nat.reduceBEq]
          exact g2
        · rw [es]; exact g3.hl hq (g7.trans he) h4
        · rw [es]; unfold hlS
          simp only [fu_s, iu_s]
          rw [hq, g7, he]
      have h7 := m7
      refine ⟨by omega, by omega, fun z => ?_, fun z => ⟨hL, b1, by omega, ?_⟩⟩
      · have he : nxm (tU σ o) (σ o 1) e = e := nxm_out (Or.inl (by omega))
        repeat' (first | exact fin he | apply And.intro)
        all_goals first | omega | exact (by rw [hμ]; simp only [gI_e, List.getD_cons_succ, List.getD_cons_zero, Nat.reduceEqDiff, reduceIte]; omega)
      · rw [b3 e (by omega)]
        refine ⟨fun h10 => ?_, fun h10 => ⟨by omega, ?_, (by rw [hμ]; simp only [gI_e, List.getD_cons_succ, List.getD_cons_zero, Nat.reduceEqDiff, reduceIte]; omega)⟩⟩
        · have he : nxm (tU σ o) (σ o 1) e = e := nxm_out (Or.inr h10)
          repeat' (first | exact fin he | apply And.intro)
          all_goals first | omega | exact (by rw [hμ]; simp only [gI_e, List.getD_cons_succ, List.getD_cons_zero, Nat.reduceEqDiff, reduceIte]; omega)
        · rw [hJd]
          refine ⟨hp, Or.inr (Or.inr (Or.inr (Or.inr ⟨rfl, n, σ1, e + 1, g1, g2, ?_, ?_, ?_, ?_, ?_, ?_, rfl⟩)))⟩
          · rw [hst]; exact g3
          · rw [hst, hq]; omega
          · rw [hst, hq]; exact g5
          · rw [hst, hq]; exact g6
          · rw [hst, hq, g7]; exact nxm_in (by omega) h10
          · rw [hst, hq]

def TF_Model_take (o : Nat) (p : Int) (q : Int) (sz sl : Nat) (lay : Nat → Nat × Int) (ρ : Nat → Int → Nat) (σ : Nat → Int → Int) (τ : Nat → Int → Int64) (k : Option AV → Mm → Prop) : Prop := LModel lay ρ o ∧ ∃ (U : Int → Int) (len : Int) (st : Nat → Int → Int), SW U len st ∧ MR σ o p U len st ∧ (0 ≤ q ∧ q < len) ∧ Acc U len st q ∧ (U q = 75 → k none (sz, sl, lay, ρ, fu (fu σ (o + 11) (iu (σ (o + 11)) (40 * p + U (q + 1)) q)) (o + 12) (iu (σ (o + 12)) p (σ (o + 12) p + 1)), τ)) ∧ (U q = 65 → k none (sz, sl, lay, ρ, fu (fu σ (o + 16) (iu (σ (o + 16)) (100 * p + σ (o + 17) p) (two2 U (q + 2)))) (o + 17) (iu (σ (o + 17)) p (σ (o + 17) p + 1)), τ)) ∧ (¬ U q = 75 → ¬ U q = 65 → ∀ c : Int → Int, k none (sz, sl, lay, ρ, fu (fu (fu (fu (fu σ (o + 23) c) (o + 15) (iu (σ (o + 15)) p (σ (o + 15) p + rz U (st 1) q))) (o + 13) (iu (σ (o + 13)) (600 * p + σ (o + 14) p) q)) (o + 14) (iu (σ (o + 14)) p (σ (o + 14) p + 1))) (o + 26) (iu (σ (o + 26)) (65536 * p + two2 U (q + 1)) (σ (o + 14) p + 1)), τ))
def T_Model_take : Tr := mkT 11 fun o as M k => pI as fun p as => pI as fun q as => as = [] ∧ TF_Model_take o p q M.1 M.2.1 M.2.2.1 M.2.2.2.1 M.2.2.2.2.1 M.2.2.2.2.2 k
theorem T_Model_take_e {o : Nat} {p : Int} {q : Int} {sz sl : Nat} {lay : Nat → Nat × Int} {ρ : Nat → Int → Nat} {σ : Nat → Int → Int} {τ : Nat → Int → Int64} {k : Option AV → Mm → Prop} : T_Model_take [vR o, vI p, vI q] (sz, sl, lay, ρ, σ, τ) k = (lay o = (21, 0) ∧ TF_Model_take o p q sz sl lay ρ σ τ k) := by simp [T_Model_take, mkT_e, pI_e, pR_e, pL_e]
theorem T_Model_take_r (as : List AV) (M : Mm) (k : Option AV → Mm → Prop) (h : T_Model_take as M k) : ∃ b As, as = vR b :: As ∧ M.2.2.1 b = (10 + 11, 0) := by
  obtain ⟨b, As, h1, h2, -⟩ := mkT_r h
  exact ⟨b, As, h1, h2⟩
def tb_Model_take : List (Nat × Option (List Nat) × Instr × List Nat) := [(0, none, .aload_n 0, []), (1, none, .iload_n 1, []), (2, none, .iload_n 2, []), (3, none, .invokevirtual 95, []), (6, none, .istore_n 3, []), (7, none, .iload_n 3, []), (8, none, .bipush 75, []), (10, none, .if_icmp .ne 35, [45]), (13, none, .aload_n 0, []), (14, none, .getfield 41, []), (17, none, .bipush 40, []), (19, none, .iload_n 1, []), (20, none, .imul, []), (21, none, .aload_n 0, []), (22, none, .iload_n 1, []), (23, none, .iload_n 2, []), (24, none, .iconst 1, []), (25, none, .iadd, []), (26, none, .invokevirtual 95, []), (29, none, .iadd, []), (30, none, .iload_n 2, []), (31, none, .iastore, []), (32, none, .aload_n 0, []), (33, none, .getfield 44, []), (36, none, .iload_n 1, []), (37, none, .dup2, []), (38, none, .iaload, []), (39, none, .iconst 1, []), (40, none, .iadd, []), (41, none, .iastore, []), (42, none, .goto 113, [155]), (45, none, .iload_n 3, []), (46, none, .bipush 65, []), (48, none, .if_icmp .ne 40, [88]), (51, none, .aload_n 0, []), (52, none, .getfield 56, []), (55, none, .bipush 100, []), (57, none, .iload_n 1, []), (58, none, .imul, []), (59, none, .aload_n 0, []), (60, none, .getfield 59, []), (63, none, .iload_n 1, []), (64, none, .iaload, []), (65, none, .iadd, []), (66, none, .aload_n 0, []), (67, none, .iload_n 1, []), (68, none, .iload_n 2, []), (69, none, .iconst 2, []), (70, none, .iadd, []), (71, none, .invokevirtual 107, []), (74, none, .iastore, []), (75, none, .aload_n 0, []), (76, none, .getfield 59, []), (79, none, .iload_n 1, []), (80, none, .dup2, []), (81, none, .iaload, []), (82, none, .iconst 1, []), (83, none, .iadd, []), (84, none, .iastore, []), (85, none, .goto 70, [155]), (88, none, .aload_n 0, []), (89, none, .getfield 53, []), (92, none, .iload_n 1, []), (93, none, .dup2, []), (94, none, .iaload, []), (95, none, .aload_n 0, []), (96, none, .iload_n 1, []), (97, none, .iload_n 2, []), (98, none, .invokevirtual 158, []), (101, none, .iadd, []), (102, none, .iastore, []), (103, none, .aload_n 0, []), (104, none, .getfield 47, []), (107, none, .sipush 600, []), (110, none, .iload_n 1, []), (111, none, .imul, []), (112, none, .aload_n 0, []), (113, none, .getfield 50, []), (116, none, .iload_n 1, []), (117, none, .iaload, []), (118, none, .iadd, []), (119, none, .iload_n 2, []), (120, none, .iastore, []), (121, none, .aload_n 0, []), (122, none, .getfield 50, []), (125, none, .iload_n 1, []), (126, none, .dup2, []), (127, none, .iaload, []), (128, none, .iconst 1, []), (129, none, .iadd, []), (130, none, .iastore, []), (131, none, .aload_n 0, []), (132, none, .getfield 88, []), (135, none, .ldc 106, []), (137, none, .iload_n 1, []), (138, none, .imul, []), (139, none, .aload_n 0, []), (140, none, .iload_n 1, []), (141, none, .iload_n 2, []), (142, none, .iconst 1, []), (143, none, .iadd, []), (144, none, .invokevirtual 107, []), (147, none, .iadd, []), (148, none, .aload_n 0, []), (149, none, .getfield 50, []), (152, none, .iload_n 1, []), (153, none, .iaload, []), (154, none, .iastore, []), (155, none, .return_, [])]
def P_Model_take : Nat → Option (List Nat) × Instr × List Nat := plk tb_Model_take
theorem r_Model_take_0 : P_Model_take 0 = (none, .aload_n 0, []) := by decide +kernel
theorem r_Model_take_1 : P_Model_take 1 = (none, .iload_n 1, []) := by decide +kernel
theorem r_Model_take_2 : P_Model_take 2 = (none, .iload_n 2, []) := by decide +kernel
theorem r_Model_take_3 : P_Model_take 3 = (none, .invokevirtual 95, []) := by decide +kernel
theorem r_Model_take_6 : P_Model_take 6 = (none, .istore_n 3, []) := by decide +kernel
theorem r_Model_take_7 : P_Model_take 7 = (none, .iload_n 3, []) := by decide +kernel
theorem r_Model_take_8 : P_Model_take 8 = (none, .bipush 75, []) := by decide +kernel
theorem r_Model_take_10 : P_Model_take 10 = (none, .if_icmp .ne 35, [45]) := by decide +kernel
theorem r_Model_take_13 : P_Model_take 13 = (none, .aload_n 0, []) := by decide +kernel
theorem r_Model_take_14 : P_Model_take 14 = (none, .getfield 41, []) := by decide +kernel
theorem r_Model_take_17 : P_Model_take 17 = (none, .bipush 40, []) := by decide +kernel
theorem r_Model_take_19 : P_Model_take 19 = (none, .iload_n 1, []) := by decide +kernel
theorem r_Model_take_20 : P_Model_take 20 = (none, .imul, []) := by decide +kernel
theorem r_Model_take_21 : P_Model_take 21 = (none, .aload_n 0, []) := by decide +kernel
theorem r_Model_take_22 : P_Model_take 22 = (none, .iload_n 1, []) := by decide +kernel
theorem r_Model_take_23 : P_Model_take 23 = (none, .iload_n 2, []) := by decide +kernel
theorem r_Model_take_24 : P_Model_take 24 = (none, .iconst 1, []) := by decide +kernel
theorem r_Model_take_25 : P_Model_take 25 = (none, .iadd, []) := by decide +kernel
theorem r_Model_take_26 : P_Model_take 26 = (none, .invokevirtual 95, []) := by decide +kernel
theorem r_Model_take_29 : P_Model_take 29 = (none, .iadd, []) := by decide +kernel
theorem r_Model_take_30 : P_Model_take 30 = (none, .iload_n 2, []) := by decide +kernel
theorem r_Model_take_31 : P_Model_take 31 = (none, .iastore, []) := by decide +kernel
theorem r_Model_take_32 : P_Model_take 32 = (none, .aload_n 0, []) := by decide +kernel
theorem r_Model_take_33 : P_Model_take 33 = (none, .getfield 44, []) := by decide +kernel
theorem r_Model_take_36 : P_Model_take 36 = (none, .iload_n 1, []) := by decide +kernel
theorem r_Model_take_37 : P_Model_take 37 = (none, .dup2, []) := by decide +kernel
theorem r_Model_take_38 : P_Model_take 38 = (none, .iaload, []) := by decide +kernel
theorem r_Model_take_39 : P_Model_take 39 = (none, .iconst 1, []) := by decide +kernel
theorem r_Model_take_40 : P_Model_take 40 = (none, .iadd, []) := by decide +kernel
theorem r_Model_take_41 : P_Model_take 41 = (none, .iastore, []) := by decide +kernel
theorem r_Model_take_42 : P_Model_take 42 = (none, .goto 113, [155]) := by decide +kernel
theorem r_Model_take_45 : P_Model_take 45 = (none, .iload_n 3, []) := by decide +kernel
theorem r_Model_take_46 : P_Model_take 46 = (none, .bipush 65, []) := by decide +kernel
theorem r_Model_take_48 : P_Model_take 48 = (none, .if_icmp .ne 40, [88]) := by decide +kernel
theorem r_Model_take_51 : P_Model_take 51 = (none, .aload_n 0, []) := by decide +kernel
theorem r_Model_take_52 : P_Model_take 52 = (none, .getfield 56, []) := by decide +kernel
theorem r_Model_take_55 : P_Model_take 55 = (none, .bipush 100, []) := by decide +kernel
theorem r_Model_take_57 : P_Model_take 57 = (none, .iload_n 1, []) := by decide +kernel
theorem r_Model_take_58 : P_Model_take 58 = (none, .imul, []) := by decide +kernel
theorem r_Model_take_59 : P_Model_take 59 = (none, .aload_n 0, []) := by decide +kernel
theorem r_Model_take_60 : P_Model_take 60 = (none, .getfield 59, []) := by decide +kernel
theorem r_Model_take_63 : P_Model_take 63 = (none, .iload_n 1, []) := by decide +kernel
theorem r_Model_take_64 : P_Model_take 64 = (none, .iaload, []) := by decide +kernel
theorem r_Model_take_65 : P_Model_take 65 = (none, .iadd, []) := by decide +kernel
theorem r_Model_take_66 : P_Model_take 66 = (none, .aload_n 0, []) := by decide +kernel
theorem r_Model_take_67 : P_Model_take 67 = (none, .iload_n 1, []) := by decide +kernel
theorem r_Model_take_68 : P_Model_take 68 = (none, .iload_n 2, []) := by decide +kernel
theorem r_Model_take_69 : P_Model_take 69 = (none, .iconst 2, []) := by decide +kernel
theorem r_Model_take_70 : P_Model_take 70 = (none, .iadd, []) := by decide +kernel
theorem r_Model_take_71 : P_Model_take 71 = (none, .invokevirtual 107, []) := by decide +kernel
theorem r_Model_take_74 : P_Model_take 74 = (none, .iastore, []) := by decide +kernel
theorem r_Model_take_75 : P_Model_take 75 = (none, .aload_n 0, []) := by decide +kernel
theorem r_Model_take_76 : P_Model_take 76 = (none, .getfield 59, []) := by decide +kernel
theorem r_Model_take_79 : P_Model_take 79 = (none, .iload_n 1, []) := by decide +kernel
theorem r_Model_take_80 : P_Model_take 80 = (none, .dup2, []) := by decide +kernel
theorem r_Model_take_81 : P_Model_take 81 = (none, .iaload, []) := by decide +kernel
theorem r_Model_take_82 : P_Model_take 82 = (none, .iconst 1, []) := by decide +kernel
theorem r_Model_take_83 : P_Model_take 83 = (none, .iadd, []) := by decide +kernel
theorem r_Model_take_84 : P_Model_take 84 = (none, .iastore, []) := by decide +kernel
theorem r_Model_take_85 : P_Model_take 85 = (none, .goto 70, [155]) := by decide +kernel
theorem r_Model_take_88 : P_Model_take 88 = (none, .aload_n 0, []) := by decide +kernel
theorem r_Model_take_89 : P_Model_take 89 = (none, .getfield 53, []) := by decide +kernel
theorem r_Model_take_92 : P_Model_take 92 = (none, .iload_n 1, []) := by decide +kernel
theorem r_Model_take_93 : P_Model_take 93 = (none, .dup2, []) := by decide +kernel
theorem r_Model_take_94 : P_Model_take 94 = (none, .iaload, []) := by decide +kernel
theorem r_Model_take_95 : P_Model_take 95 = (none, .aload_n 0, []) := by decide +kernel
theorem r_Model_take_96 : P_Model_take 96 = (none, .iload_n 1, []) := by decide +kernel
theorem r_Model_take_97 : P_Model_take 97 = (none, .iload_n 2, []) := by decide +kernel
theorem r_Model_take_98 : P_Model_take 98 = (none, .invokevirtual 158, []) := by decide +kernel
theorem r_Model_take_101 : P_Model_take 101 = (none, .iadd, []) := by decide +kernel
theorem r_Model_take_102 : P_Model_take 102 = (none, .iastore, []) := by decide +kernel
theorem r_Model_take_103 : P_Model_take 103 = (none, .aload_n 0, []) := by decide +kernel
theorem r_Model_take_104 : P_Model_take 104 = (none, .getfield 47, []) := by decide +kernel
theorem r_Model_take_107 : P_Model_take 107 = (none, .sipush 600, []) := by decide +kernel
theorem r_Model_take_110 : P_Model_take 110 = (none, .iload_n 1, []) := by decide +kernel
theorem r_Model_take_111 : P_Model_take 111 = (none, .imul, []) := by decide +kernel
theorem r_Model_take_112 : P_Model_take 112 = (none, .aload_n 0, []) := by decide +kernel
theorem r_Model_take_113 : P_Model_take 113 = (none, .getfield 50, []) := by decide +kernel
theorem r_Model_take_116 : P_Model_take 116 = (none, .iload_n 1, []) := by decide +kernel
theorem r_Model_take_117 : P_Model_take 117 = (none, .iaload, []) := by decide +kernel
theorem r_Model_take_118 : P_Model_take 118 = (none, .iadd, []) := by decide +kernel
theorem r_Model_take_119 : P_Model_take 119 = (none, .iload_n 2, []) := by decide +kernel
theorem r_Model_take_120 : P_Model_take 120 = (none, .iastore, []) := by decide +kernel
theorem r_Model_take_121 : P_Model_take 121 = (none, .aload_n 0, []) := by decide +kernel
theorem r_Model_take_122 : P_Model_take 122 = (none, .getfield 50, []) := by decide +kernel
theorem r_Model_take_125 : P_Model_take 125 = (none, .iload_n 1, []) := by decide +kernel
theorem r_Model_take_126 : P_Model_take 126 = (none, .dup2, []) := by decide +kernel
theorem r_Model_take_127 : P_Model_take 127 = (none, .iaload, []) := by decide +kernel
theorem r_Model_take_128 : P_Model_take 128 = (none, .iconst 1, []) := by decide +kernel
theorem r_Model_take_129 : P_Model_take 129 = (none, .iadd, []) := by decide +kernel
theorem r_Model_take_130 : P_Model_take 130 = (none, .iastore, []) := by decide +kernel
theorem r_Model_take_131 : P_Model_take 131 = (none, .aload_n 0, []) := by decide +kernel
theorem r_Model_take_132 : P_Model_take 132 = (none, .getfield 88, []) := by decide +kernel
theorem r_Model_take_135 : P_Model_take 135 = (none, .ldc 106, []) := by decide +kernel
theorem r_Model_take_137 : P_Model_take 137 = (none, .iload_n 1, []) := by decide +kernel
theorem r_Model_take_138 : P_Model_take 138 = (none, .imul, []) := by decide +kernel
theorem r_Model_take_139 : P_Model_take 139 = (none, .aload_n 0, []) := by decide +kernel
theorem r_Model_take_140 : P_Model_take 140 = (none, .iload_n 1, []) := by decide +kernel
theorem r_Model_take_141 : P_Model_take 141 = (none, .iload_n 2, []) := by decide +kernel
theorem r_Model_take_142 : P_Model_take 142 = (none, .iconst 1, []) := by decide +kernel
theorem r_Model_take_143 : P_Model_take 143 = (none, .iadd, []) := by decide +kernel
theorem r_Model_take_144 : P_Model_take 144 = (none, .invokevirtual 107, []) := by decide +kernel
theorem r_Model_take_147 : P_Model_take 147 = (none, .iadd, []) := by decide +kernel
theorem r_Model_take_148 : P_Model_take 148 = (none, .aload_n 0, []) := by decide +kernel
theorem r_Model_take_149 : P_Model_take 149 = (none, .getfield 50, []) := by decide +kernel
theorem r_Model_take_152 : P_Model_take 152 = (none, .iload_n 1, []) := by decide +kernel
theorem r_Model_take_153 : P_Model_take 153 = (none, .iaload, []) := by decide +kernel
theorem r_Model_take_154 : P_Model_take 154 = (none, .iastore, []) := by decide +kernel
theorem r_Model_take_155 : P_Model_take 155 = (none, .return_, []) := by decide +kernel
def E_Model_take : List (Nat × Ent) := [(428, (3, 1, 0, 0, T_Model_two)), (632, (3, 6, 0, 0, T_Model_refsNotZero)), (380, (3, 0, 0, 0, T_Model_at))]
def X_Model_take : Cx := (llk (0, 0, 9) ftX11, llk 99 ntX11, llk none kcX11, llk none klX11, llk dEnt E_Model_take, 7, 3, false)
theorem xok_Model_take : Xok RX11 X_Model_take := xok_of ftX11_ok ntX11_ok kcX11_ok klX11_ok (E := E_Model_take) (List.forall_mem_cons.mpr ⟨co_X11_428, List.forall_mem_cons.mpr ⟨co_X11_632, List.forall_mem_cons.mpr ⟨co_X11_380, fun _ h => absurd h List.not_mem_nil⟩⟩⟩)
theorem xf_Model_take_41 : xfl X_Model_take 41 = (11, 11, 1) := by decide +kernel
theorem xf_Model_take_44 : xfl X_Model_take 44 = (11, 12, 1) := by decide +kernel
theorem xf_Model_take_47 : xfl X_Model_take 47 = (11, 13, 1) := by decide +kernel
theorem xf_Model_take_50 : xfl X_Model_take 50 = (11, 14, 1) := by decide +kernel
theorem xf_Model_take_53 : xfl X_Model_take 53 = (11, 15, 1) := by decide +kernel
theorem xf_Model_take_56 : xfl X_Model_take 56 = (11, 16, 1) := by decide +kernel
theorem xf_Model_take_59 : xfl X_Model_take 59 = (11, 17, 1) := by decide +kernel
theorem xf_Model_take_88 : xfl X_Model_take 88 = (11, 27, 1) := by decide +kernel
theorem xk_Model_take_106 : xkc X_Model_take 106 = some 65536 := by decide +kernel
theorem xe_Model_take_428 : xE X_Model_take (4 * 107 + 0) = (3, 1, 0, 0, T_Model_two) := rfl
theorem xe_Model_take_632 : xE X_Model_take (4 * 158 + 0) = (3, 6, 0, 0, T_Model_refsNotZero) := rfl
theorem xe_Model_take_380 : xE X_Model_take (4 * 95 + 0) = (3, 0, 0, 0, T_Model_at) := rfl
theorem xd_Model_take : xd X_Model_take = 7 := rfl
theorem xrb_Model_take : xrb X_Model_take = 3 := rfl
theorem xin_Model_take : xin X_Model_take = false := rfl
set_option maxHeartbeats 4000000 in
set_option maxRecDepth 100000 in
theorem S_Model_take : Snd yX11_take cX11_take 4 none T_Model_take 7 0 0 := by
  refine snd_of (X := X_Model_take) (P := P_Model_take) (tb := tb_Model_take) (own := RX11) (by decide) rfl rfl (by decide +kernel) xok_Model_take rfl rk3 (fun h => by first | rfl | cases h) ?_
  intro as M k has hM hT0
  obtain ⟨sz, sl, lay, ρ, σ, τ⟩ := M
  obtain ⟨o, as1, e, hlo, hT1⟩ := mkT_r hT0
  clear hT0
  subst e
  obtain ⟨p, as2, e, hT2⟩ := pI_x hT1
  clear hT1
  subst e
  obtain ⟨q, as3, e, hT3⟩ := pI_x hT2
  clear hT2
  subst e
  obtain ⟨e, hT⟩ := hT3
  subst e
  replace hlo : lay o = (21, 0) := hlo
  have r_p : -2147483648 ≤ p ∧ p ≤ 2147483647 := has (vI p) (by simp)
  have r_q : -2147483648 ≤ q ∧ q ≤ 2147483647 := has (vI q) (by simp)
  clear has
  replace hM : ∀ a i, -2147483648 ≤ σ a i ∧ σ a i ≤ 2147483647 := hM
  replace hT : TF_Model_take o p q sz sl lay ρ σ τ k := hT
  unfold TF_Model_take at hT
  obtain ⟨hL, U, len, st, hS, hR, hq, ha, h1, h2, h3⟩ := hT
  obtain ⟨hB, hl3, ⟨m4, m5, m6⟩, ⟨m7, m8, m9⟩, m12, ⟨m14, m13⟩, m15, ⟨m17, m16⟩, m26⟩ := (show MR σ o p U len st from hR)
  obtain ⟨b1, b2, b3, b4, b5, b6, b7⟩ := (show MB σ o p U len (st 1) from hB)
  obtain ⟨w0, w1, w2, w3, w4, w5, w6, w7, w8, w9, w10, w11, w12, w13, w14⟩ := (show SW U len st from hS)
  refine ⟨Nat.le_of_ble_eq_true rfl, fun _ _ _ => False, fun _ _ _ => 0, 117, ?_, fun _ _ _ _ _ _ h => h.elim⟩
  have hq0 : σ (o + 2) (8000 * p + q) % 256 = U q := b3 q (by omega)
  have hkc := cntP_R (P := fun k => 0 ≤ st 1 k) (N := 40)
  rcases ha with ⟨e, a⟩ | ⟨e, a⟩ | ⟨e, a⟩
  · have hqq := hq0.trans e
    have a1 := a.1
    have a2 := a.2.1
    have u1 := b3 (q + 1) (by omega)
    have r1 := b5.1 (q + 1)
    (obtain ⟨mh, mp0, mp2, mp3, mp4, mp5, mp6, mp7, mp8, mp9, mp10, mp11, mp12, mp13, mp14, mp15, mp16, mp17, mp18, mp19, mp20, mp21, mp22, mp24, mp25, mp26, mp27, mq0, mq2, mq3, mq4, mq5, mq6, mq7, mq8, mq9, mq10, mq11, mq12, mq13, mq14, mq15, mq16, mq17, mq18, mq19, mq20, mq21, mq22, mq24, mq25, mq26, mq27⟩ := (show LModel lay ρ _ from hL); unfold wps; simp only [hqq, u1, si_iload_n0, si_iload_n1, si_iload_n2, si_iload_n3, si_iload, si_lload_n0, si_lload_n1, si_lload_n2, si_lload_n3, si_lload, si_aload_n0, si_aload_n1, si_aload_n2, si_aload_n3, si_aload, si_istore_n0, si_istore_n1, si_istore_n2, si_istore_n3, si_istore, si_astore_n0, si_astore_n1, si_astore_n2, si_astore_n3, si_astore, si_lstore_n0, si_lstore_n1, si_lstore_n2, si_lstore_n3, si_lstore, si_iconst, si_bipush, si_sipush, si_ldc, si_ldc2_w, si_lconst0, si_lconst1, si_aconst_null, si_iinc, si_dup, si_dup2, si_iadd, si_isub, si_imul, si_idiv, si_irem, si_iand, si_ior, si_ishl, si_ishr, si_ladd, si_lmul, si_lor, si_lxor, si_lshl, si_lushr, si_lcmp, si_i2b, si_i2l, si_l2i, si_icmp_eq, si_icmp_ne, si_icmp_lt, si_icmp_ge, si_icmp_gt, si_icmp_le, si_if_eq, si_if_ne, si_if_lt, si_if_ge, si_if_gt, si_if_le, si_ifnull, si_ifnonnull, si_goto, si_tableswitch, si_lookupswitch, si_getfield, si_putfield, si_getstatic, si_iaload, si_baload, si_laload, si_aaload, si_iastore, si_bastore, si_lastore, si_aastore, si_arraylength, si_new, si_newarray, si_anewarray, si_invokevirtual, si_invokespecial, si_invokestatic, si_ireturn, si_lreturn, si_areturn, si_return_, pI_e, pL_e, pR_e, pA_r, pA_n, pN_n, pN_r, oI_e, oL_e, oA_r, oA_n, lget_e, lrm1_0, lrm2_0, lrm1_i, lrm1_r, lrm1_n, lrm1_l, lrm2_i, lrm2_r, lrm2_n, lrm2_l, popN_0, popN_s, acat_i, acat_l, acat_r, acat_n, stw_0, stw_s, psh_s, psh_n, wgf_r, wgf_i, wgf_b, wgf_n, wgf_m, wpf_i, wpf_r, wpf_b, wnew_e, callE_e, rbk_0, rbk_1, tsw_0, tsw_s, lsw_0, lsw_s, wp_s, wq_t, wq_f, oV_e, pick_0, pick_s, oZ_e, oY_e, r_Model_take_0, r_Model_take_1, r_Model_take_2, r_Model_take_3, r_Model_take_6, r_Model_take_7, r_Model_take_8, r_Model_take_10, r_Model_take_13, r_Model_take_14, r_Model_take_17, r_Model_take_19, r_Model_take_20, r_Model_take_21, r_Model_take_22, r_Model_take_23, r_Model_take_24, r_Model_take_25, r_Model_take_26, r_Model_take_29, r_Model_take_30, r_Model_take_31, r_Model_take_32, r_Model_take_33, r_Model_take_36, r_Model_take_37, r_Model_take_38, r_Model_take_39, r_Model_take_40, r_Model_take_41, r_Model_take_42, r_Model_take_45, r_Model_take_46, r_Model_take_48, r_Model_take_51, r_Model_take_52, r_Model_take_55, r_Model_take_57, r_Model_take_58, r_Model_take_59, r_Model_take_60, r_Model_take_63, r_Model_take_64, r_Model_take_65, r_Model_take_66, r_Model_take_67, r_Model_take_68, r_Model_take_69, r_Model_take_70, r_Model_take_71, r_Model_take_74, r_Model_take_75, r_Model_take_76, r_Model_take_79, r_Model_take_80, r_Model_take_81, r_Model_take_82, r_Model_take_83, r_Model_take_84, r_Model_take_85, r_Model_take_88, r_Model_take_89, r_Model_take_92, r_Model_take_93, r_Model_take_94, r_Model_take_95, r_Model_take_96, r_Model_take_97, r_Model_take_98, r_Model_take_101, r_Model_take_102, r_Model_take_103, r_Model_take_104, r_Model_take_107, r_Model_take_110, r_Model_take_111, r_Model_take_112, r_Model_take_113, r_Model_take_116, r_Model_take_117, r_Model_take_118, r_Model_take_119, r_Model_take_120, r_Model_take_121, r_Model_take_122, r_Model_take_125, r_Model_take_126, r_Model_take_127, r_Model_take_128, r_Model_take_129, r_Model_take_130, r_Model_take_131, r_Model_take_132, r_Model_take_135, r_Model_take_137, r_Model_take_138, r_Model_take_139, r_Model_take_140, r_Model_take_141, r_Model_take_142, r_Model_take_143, r_Model_take_144, r_Model_take_147, r_Model_take_148, r_Model_take_149, r_Model_take_152, r_Model_take_153, r_Model_take_154, r_Model_take_155, xf_Model_take_41, xf_Model_take_44, xf_Model_take_47, xf_Model_take_50, xf_Model_take_53, xf_Model_take_56, xf_Model_take_59, xf_Model_take_88, xk_Model_take_106, xe_Model_take_428, xe_Model_take_632, xe_Model_take_380, xd_Model_take, xrb_Model_take, xin_Model_take, T_Model_two_e, TF_Model_two, T_Model_refsNotZero_e, TF_Model_refsNotZero, T_Model_at_e, TF_Model_at, mh, mp0, mp2, mp3, mp4, mp5, mp6, mp7, mp8, mp9, mp10, mp11, mp12, mp13, mp14, mp15, mp16, mp17, mp18, mp19, mp20, mp21, mp22, mp24, mp25, mp26, mp27, mq0, mq2, mq3, mq4, mq5, mq6, mq7, mq8, mq9, mq10, mq11, mq12, mq13, mq14, mq15, mq16, mq17, mq18, mq19, mq20, mq21, mq22, mq24, mq25, mq26, mq27, Nat.reduceAdd, Nat.reduceMul, Nat.reduceEqDiff, reduceIte, Int.reduceNeg, Int.reduceLE, Int.reduceLT, Int.reduceAdd, Int.reduceSub, Int.reduceToNat, true_and, and_true, inR_e, Nat.reduceLT, Nat.reduceLeDiff, reduceCtorEq, Nat.add_zero, Nat.zero_add, or_false, false_or, or_true, true_or, not_true_eq_false, not_false_eq_true, Classical.not_not, Nat.add_eq_zero_iff, and_false, false_and, Int.reduceEq, List.mem_cons, List.not_mem_nil, forall_eq_or_imp, forall_eq, false_implies, implies_true, forall_const, aargs_0, aargs_i, aargs_r, aargs_l, aargs_n, nfT_e, eq_self, and_self, Nat.le_refl, fu_s, fu_fu, iu_iu, iu_s, fu_am, fu_a0, fu_0a, iu_l, Nat.reduceBEq, Int.reduceBEq, T_objInit_e]; clear mp0 mp2 mp3 mp4 mp5 mp6 mp7 mp8 mp9 mp10 mp11 mp12 mp13 mp14 mp15 mp16 mp17 mp18 mp19 mp20 mp21 mp22 mp24 mp25 mp26 mp27)
    exact ⟨hL, b1, by omega, by omega, by omega, hL, b1, by omega, by omega, by omega, by omega, by omega, by omega, by omega, by omega, by omega, h1 e⟩
  · have hqq := hq0.trans e
    have a1 := a.1
    have a5 := a.2.2.2.2
    have u2 := b3 (q + 2) (by omega)
    have u3 := b3 (q + 2 + 1) (by omega)
    have n2 : U (q + 2) * 256 + U (q + 2 + 1) = two2 U (q + 2) := rfl
    (obtain ⟨mh, mp0, mp2, mp3, mp4, mp5, mp6, mp7, mp8, mp9, mp10, mp11, mp12, mp13, mp14, mp15, mp16, mp17, mp18, mp19, mp20, mp21, mp22, mp24, mp25, mp26, mp27, mq0, mq2, mq3, mq4, mq5, mq6, mq7, mq8, mq9, mq10, mq11, mq12, mq13, mq14, mq15, mq16, mq17, mq18, mq19, mq20, mq21, mq22, mq24, mq25, mq26, mq27⟩ := (show LModel lay ρ _ from hL); unfold wps; simp only [hqq, u2, u3, n2, si_iload_n0, si_iload_n1, si_iload_n2, si_iload_n3, si_iload, si_lload_n0, si_lload_n1, si_lload_n2, si_lload_n3, si_lload, si_aload_n0, si_aload_n1, si_aload_n2, si_aload_n3, si_aload, si_istore_n0, si_istore_n1, si_istore_n2, si_istore_n3, si_istore, si_astore_n0, si_astore_n1, si_astore_n2, si_astore_n3, si_astore, si_lstore_n0, si_lstore_n1, si_lstore_n2, si_lstore_n3, si_lstore, si_iconst, si_bipush, si_sipush, si_ldc, si_ldc2_w, si_lconst0, si_lconst1, si_aconst_null, si_iinc, si_dup, si_dup2, si_iadd, si_isub, si_imul, si_idiv, si_irem, si_iand, si_ior, si_ishl, si_ishr, si_ladd, si_lmul, si_lor, si_lxor, si_lshl, si_lushr, si_lcmp, si_i2b, si_i2l, si_l2i, si_icmp_eq, si_icmp_ne, si_icmp_lt, si_icmp_ge, si_icmp_gt, si_icmp_le, si_if_eq, si_if_ne, si_if_lt, si_if_ge, si_if_gt, si_if_le, si_ifnull, si_ifnonnull, si_goto, si_tableswitch, si_lookupswitch, si_getfield, si_putfield, si_getstatic, si_iaload, si_baload, si_laload, si_aaload, si_iastore, si_bastore, si_lastore, si_aastore, si_arraylength, si_new, si_newarray, si_anewarray, si_invokevirtual, si_invokespecial, si_invokestatic, si_ireturn, si_lreturn, si_areturn, si_return_, pI_e, pL_e, pR_e, pA_r, pA_n, pN_n, pN_r, oI_e, oL_e, oA_r, oA_n, lget_e, lrm1_0, lrm2_0, lrm1_i, lrm1_r, lrm1_n, lrm1_l, lrm2_i, lrm2_r, lrm2_n, lrm2_l, popN_0, popN_s, acat_i, acat_l, acat_r, acat_n, stw_0, stw_s, psh_s, psh_n, wgf_r, wgf_i, wgf_b, wgf_n, wgf_m, wpf_i, wpf_r, wpf_b, wnew_e, callE_e, rbk_0, rbk_1, tsw_0, tsw_s, lsw_0, lsw_s, wp_s, wq_t, wq_f, oV_e, pick_0, pick_s, oZ_e, oY_e, r_Model_take_0, r_Model_take_1, r_Model_take_2, r_Model_take_3, r_Model_take_6, r_Model_take_7, r_Model_take_8, r_Model_take_10, r_Model_take_13, r_Model_take_14, r_Model_take_17, r_Model_take_19, r_Model_take_20, r_Model_take_21, r_Model_take_22, r_Model_take_23, r_Model_take_24, r_Model_take_25, r_Model_take_26, r_Model_take_29, r_Model_take_30, r_Model_take_31, r_Model_take_32, r_Model_take_33, r_Model_take_36, r_Model_take_37, r_Model_take_38, r_Model_take_39, r_Model_take_40, r_Model_take_41, r_Model_take_42, r_Model_take_45, r_Model_take_46, r_Model_take_48, r_Model_take_51, r_Model_take_52, r_Model_take_55, r_Model_take_57, r_Model_take_58, r_Model_take_59, r_Model_take_60, r_Model_take_63, r_Model_take_64, r_Model_take_65, r_Model_take_66, r_Model_take_67, r_Model_take_68, r_Model_take_69, r_Model_take_70, r_Model_take_71, r_Model_take_74, r_Model_take_75, r_Model_take_76, r_Model_take_79, r_Model_take_80, r_Model_take_81, r_Model_take_82, r_Model_take_83, r_Model_take_84, r_Model_take_85, r_Model_take_88, r_Model_take_89, r_Model_take_92, r_Model_take_93, r_Model_take_94, r_Model_take_95, r_Model_take_96, r_Model_take_97, r_Model_take_98, r_Model_take_101, r_Model_take_102, r_Model_take_103, r_Model_take_104, r_Model_take_107, r_Model_take_110, r_Model_take_111, r_Model_take_112, r_Model_take_113, r_Model_take_116, r_Model_take_117, r_Model_take_118, r_Model_take_119, r_Model_take_120, r_Model_take_121, r_Model_take_122, r_Model_take_125, r_Model_take_126, r_Model_take_127, r_Model_take_128, r_Model_take_129, r_Model_take_130, r_Model_take_131, r_Model_take_132, r_Model_take_135, r_Model_take_137, r_Model_take_138, r_Model_take_139, r_Model_take_140, r_Model_take_141, r_Model_take_142, r_Model_take_143, r_Model_take_144, r_Model_take_147, r_Model_take_148, r_Model_take_149, r_Model_take_152, r_Model_take_153, r_Model_take_154, r_Model_take_155, xf_Model_take_41, xf_Model_take_44, xf_Model_take_47, xf_Model_take_50, xf_Model_take_53, xf_Model_take_56, xf_Model_take_59, xf_Model_take_88, xk_Model_take_106, xe_Model_take_428, xe_Model_take_632, xe_Model_take_380, xd_Model_take, xrb_Model_take, xin_Model_take, T_Model_two_e, TF_Model_two, T_Model_refsNotZero_e, TF_Model_refsNotZero, T_Model_at_e, TF_Model_at, mh, mp0, mp2, mp3, mp4, mp5, mp6, mp7, mp8, mp9, mp10, mp11, mp12, mp13, mp14, mp15, mp16, mp17, mp18, mp19, mp20, mp21, mp22, mp24, mp25, mp26, mp27, mq0, mq2, mq3, mq4, mq5, mq6, mq7, mq8, mq9, mq10, mq11, mq12, mq13, mq14, mq15, mq16, mq17, mq18, mq19, mq20, mq21, mq22, mq24, mq25, mq26, mq27, Nat.reduceAdd, Nat.reduceMul, Nat.reduceEqDiff, reduceIte, Int.reduceNeg, Int.reduceLE, Int.reduceLT, Int.reduceAdd, Int.reduceSub, Int.reduceToNat, true_and, and_true, inR_e, Nat.reduceLT, Nat.reduceLeDiff, reduceCtorEq, Nat.add_zero, Nat.zero_add, or_false, false_or, or_true, true_or, not_true_eq_false, not_false_eq_true, Classical.not_not, Nat.add_eq_zero_iff, and_false, false_and, Int.reduceEq, List.mem_cons, List.not_mem_nil, forall_eq_or_imp, forall_eq, false_implies, implies_true, forall_const, aargs_0, aargs_i, aargs_r, aargs_l, aargs_n, nfT_e, eq_self, and_self, Nat.le_refl, fu_s, fu_fu, iu_iu, iu_s, fu_am, fu_a0, fu_0a, iu_l, Nat.reduceBEq, Int.reduceBEq, T_objInit_e]; clear mp0 mp2 mp3 mp4 mp5 mp6 mp7 mp8 mp9 mp10 mp11 mp12 mp13 mp14 mp15 mp16 mp17 mp18 mp19 mp20 mp21 mp22 mp24 mp25 mp26 mp27)
    exact ⟨hL, b1, by omega, by omega, by omega, by omega, by omega, by omega, hL, b1, by omega, by omega, by omega, by omega, by omega, by omega, by omega, by omega, h2 e⟩
  · have a1 := a.1
    have a9 := a.2.2.2.2.2.2.2.2.1
    have a10 := a.2.2.2.2.2.2.2.2.2
    have u1 := b3 (q + 1) (by omega)
    have u2 := b3 (q + 1 + 1) (by omega)
    have n2 : U (q + 1) * 256 + U (q + 1 + 1) = two2 U (q + 1) := rfl
    have r2 := two2_R b5.1 (q + 1)
    have cz := cntZ_R (fun k => decide (sA U (st 1) q k = 5 ∧ ¬ vZ U (st 1) q k = 0)) (nV U (st 1) q).toNat
    have cz2 : 0 ≤ rz U (st 1) q ∧ rz U (st 1) q ≤ (nV U (st 1) q).toNat := cz
    have tv : TV U len (st 1) q := ⟨⟨a.2.2.1, by omega, a1, a.2.1⟩, a.2.2.2.1⟩
    have f75 : (U q = 75) = False := eq_false (by omega)
    have f65 : (U q = 65) = False := eq_false (by omega)
    (obtain ⟨mh, mp0, mp2, mp3, mp4, mp5, mp6, mp7, mp8, mp9, mp10, mp11, mp12, mp13, mp14, mp15, mp16, mp17, mp18, mp19, mp20, mp21, mp22, mp24, mp25, mp26, mp27, mq0, mq2, mq3, mq4, mq5, mq6, mq7, mq8, mq9, mq10, mq11, mq12, mq13, mq14, mq15, mq16, mq17, mq18, mq19, mq20, mq21, mq22, mq24, mq25, mq26, mq27⟩ := (show LModel lay ρ _ from hL); unfold wps; simp only [hq0, f75, f65, u1, u2, n2, si_iload_n0, si_iload_n1, si_iload_n2, si_iload_n3, si_iload, si_lload_n0, si_lload_n1, si_lload_n2, si_lload_n3, si_lload, si_aload_n0, si_aload_n1, si_aload_n2, si_aload_n3, si_aload, si_istore_n0, si_istore_n1, si_istore_n2, si_istore_n3, si_istore, si_astore_n0, si_astore_n1, si_astore_n2, si_astore_n3, si_astore, si_lstore_n0, si_lstore_n1, si_lstore_n2, si_lstore_n3, si_lstore, si_iconst, si_bipush, si_sipush, si_ldc, si_ldc2_w, si_lconst0, si_lconst1, si_aconst_null, si_iinc, si_dup, si_dup2, si_iadd, si_isub, si_imul, si_idiv, si_irem, si_iand, si_ior, si_ishl, si_ishr, si_ladd, si_lmul, si_lor, si_lxor, si_lshl, si_lushr, si_lcmp, si_i2b, si_i2l, si_l2i, si_icmp_eq, si_icmp_ne, si_icmp_lt, si_icmp_ge, si_icmp_gt, si_icmp_le, si_if_eq, si_if_ne, si_if_lt, si_if_ge, si_if_gt, si_if_le, si_ifnull, si_ifnonnull, si_goto, si_tableswitch, si_lookupswitch, si_getfield, si_putfield, si_getstatic, si_iaload, si_baload, si_laload, si_aaload, si_iastore, si_bastore, si_lastore, si_aastore, si_arraylength, si_new, si_newarray, si_anewarray, si_invokevirtual, si_invokespecial, si_invokestatic, si_ireturn, si_lreturn, si_areturn, si_return_, pI_e, pL_e, pR_e, pA_r, pA_n, pN_n, pN_r, oI_e, oL_e, oA_r, oA_n, lget_e, lrm1_0, lrm2_0, lrm1_i, lrm1_r, lrm1_n, lrm1_l, lrm2_i, lrm2_r, lrm2_n, lrm2_l, popN_0, popN_s, acat_i, acat_l, acat_r, acat_n, stw_0, stw_s, psh_s, psh_n, wgf_r, wgf_i, wgf_b, wgf_n, wgf_m, wpf_i, wpf_r, wpf_b, wnew_e, callE_e, rbk_0, rbk_1, tsw_0, tsw_s, lsw_0, lsw_s, wp_s, wq_t, wq_f, oV_e, pick_0, pick_s, oZ_e, oY_e, r_Model_take_0, r_Model_take_1, r_Model_take_2, r_Model_take_3, r_Model_take_6, r_Model_take_7, r_Model_take_8, r_Model_take_10, r_Model_take_13, r_Model_take_14, r_Model_take_17, r_Model_take_19, r_Model_take_20, r_Model_take_21, r_Model_take_22, r_Model_take_23, r_Model_take_24, r_Model_take_25, r_Model_take_26, r_Model_take_29, r_Model_take_30, r_Model_take_31, r_Model_take_32, r_Model_take_33, r_Model_take_36, r_Model_take_37, r_Model_take_38, r_Model_take_39, r_Model_take_40, r_Model_take_41, r_Model_take_42, r_Model_take_45, r_Model_take_46, r_Model_take_48, r_Model_take_51, r_Model_take_52, r_Model_take_55, r_Model_take_57, r_Model_take_58, r_Model_take_59, r_Model_take_60, r_Model_take_63, r_Model_take_64, r_Model_take_65, r_Model_take_66, r_Model_take_67, r_Model_take_68, r_Model_take_69, r_Model_take_70, r_Model_take_71, r_Model_take_74, r_Model_take_75, r_Model_take_76, r_Model_take_79, r_Model_take_80, r_Model_take_81, r_Model_take_82, r_Model_take_83, r_Model_take_84, r_Model_take_85, r_Model_take_88, r_Model_take_89, r_Model_take_92, r_Model_take_93, r_Model_take_94, r_Model_take_95, r_Model_take_96, r_Model_take_97, r_Model_take_98, r_Model_take_101, r_Model_take_102, r_Model_take_103, r_Model_take_104, r_Model_take_107, r_Model_take_110, r_Model_take_111, r_Model_take_112, r_Model_take_113, r_Model_take_116, r_Model_take_117, r_Model_take_118, r_Model_take_119, r_Model_take_120, r_Model_take_121, r_Model_take_122, r_Model_take_125, r_Model_take_126, r_Model_take_127, r_Model_take_128, r_Model_take_129, r_Model_take_130, r_Model_take_131, r_Model_take_132, r_Model_take_135, r_Model_take_137, r_Model_take_138, r_Model_take_139, r_Model_take_140, r_Model_take_141, r_Model_take_142, r_Model_take_143, r_Model_take_144, r_Model_take_147, r_Model_take_148, r_Model_take_149, r_Model_take_152, r_Model_take_153, r_Model_take_154, r_Model_take_155, xf_Model_take_41, xf_Model_take_44, xf_Model_take_47, xf_Model_take_50, xf_Model_take_53, xf_Model_take_56, xf_Model_take_59, xf_Model_take_88, xk_Model_take_106, xe_Model_take_428, xe_Model_take_632, xe_Model_take_380, xd_Model_take, xrb_Model_take, xin_Model_take, T_Model_two_e, TF_Model_two, T_Model_refsNotZero_e, TF_Model_refsNotZero, T_Model_at_e, TF_Model_at, mh, mp0, mp2, mp3, mp4, mp5, mp6, mp7, mp8, mp9, mp10, mp11, mp12, mp13, mp14, mp15, mp16, mp17, mp18, mp19, mp20, mp21, mp22, mp24, mp25, mp26, mp27, mq0, mq2, mq3, mq4, mq5, mq6, mq7, mq8, mq9, mq10, mq11, mq12, mq13, mq14, mq15, mq16, mq17, mq18, mq19, mq20, mq21, mq22, mq24, mq25, mq26, mq27, Nat.reduceAdd, Nat.reduceMul, Nat.reduceEqDiff, reduceIte, Int.reduceNeg, Int.reduceLE, Int.reduceLT, Int.reduceAdd, Int.reduceSub, Int.reduceToNat, true_and, and_true, inR_e, Nat.reduceLT, Nat.reduceLeDiff, reduceCtorEq, Nat.add_zero, Nat.zero_add, or_false, false_or, or_true, true_or, not_true_eq_false, not_false_eq_true, Classical.not_not, Nat.add_eq_zero_iff, and_false, false_and, Int.reduceEq, List.mem_cons, List.not_mem_nil, forall_eq_or_imp, forall_eq, false_implies, implies_true, forall_const, aargs_0, aargs_i, aargs_r, aargs_l, aargs_n, nfT_e, eq_self, and_self, Nat.le_refl, fu_s, fu_fu, iu_iu, iu_s, fu_am, fu_a0, fu_0a, iu_l, Nat.reduceBEq, Int.reduceBEq, T_objInit_e]; clear mp0 mp2 mp3 mp4 mp5 mp6 mp7 mp8 mp9 mp10 mp11 mp12 mp13 mp14 mp15 mp16 mp17 mp18 mp19 mp20 mp21 mp22 mp24 mp25 mp26 mp27)
    refine ⟨hL, b1, by omega, by omega, by omega, hL, U, len, st 1, hB, tv, fun c => ?_⟩
    repeat' (first | assumption | apply And.intro)
    all_goals first | omega | exact h3 (by omega) (by omega) c

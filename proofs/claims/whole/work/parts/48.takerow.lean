theorem mul_R8 {a b : Int} (ha : 0 ≤ a ∧ a < 65536) (hb : 0 ≤ b ∧ b ≤ 8) : 0 ≤ a * b ∧ a * b ≤ 524288 := by
  have h1 := Int.mul_nonneg ha.1 hb.1
  have h2 := Int.mul_le_mul_of_nonneg_left hb.2 ha.1
  omega
def TF_Picture_takeRow (o : Nat) (t : Nat) (p : Int) (sz sl : Nat) (lay : Nat → Nat × Int) (ρ : Nat → Int → Nat) (σ : Nat → Int → Int) (τ : Nat → Int → Int64) (k : Option AV → Mm → Prop) : Prop := LPicture lay ρ o ∧ LTape lay ρ t ∧ (0 ≤ σ t 1 ∧ σ t 1 ≤ 8000) ∧ (t + 2 ≤ o) ∧ Wd lay ρ σ ∧ (0 ≤ p ∧ p < σ t 1) ∧ tU σ t p = 82 ∧ ∃ (kk tt : Nat) (A T : Int → Int) (n refs : Int), o + 1 = kk ∧ o + 8 = tt ∧ LKinds lay ρ kk ∧ LThings lay ρ tt ∧ KW (tU σ t) A ∧ KR σ kk (tU σ t) A ∧ TR σ τ tt (tU σ t) A T n refs p ∧ (0 ≤ n ∧ n ≤ 600) ∧ (0 ≤ refs ∧ refs ≤ 3000) ∧ (¬ AccT (tU σ t) (σ t 1) A T n refs p → ∀ (σ2 : Nat → Int → Int) (τ2 : Nat → Int → Int64), Fr σ σ2 tt 12 → (∀ a, ¬ a = tt + 10 → τ2 a = τ a) → TR σ2 τ2 tt (tU σ t) A T n refs p → k (some (vI (0))) (sz, sl, lay, ρ, σ2, τ2)) ∧ (AccT (tU σ t) (σ t 1) A T n refs p → ∀ (σ2 : Nat → Int → Int) (τ2 : Nat → Int → Int64), Fr σ σ2 tt 12 → (∀ a, ¬ a = tt + 10 → τ2 a = τ a) → TR σ2 τ2 tt (tU σ t) A (iu T n p) (n + 1) (refs + rz (tU σ t) A p) (vP (tU σ t) A p (nV (tU σ t) A p)) → k (some (vI (vP (tU σ t) A p (nV (tU σ t) A p) - p))) (sz, sl, lay, ρ, σ2, τ2))
def T_Picture_takeRow : Tr := mkT 3 fun o as M k => pR as fun t as => pI as fun p as => as = [] ∧ TF_Picture_takeRow o t p M.1 M.2.1 M.2.2.1 M.2.2.2.1 M.2.2.2.2.1 M.2.2.2.2.2 k
theorem T_Picture_takeRow_e {o : Nat} {t : Nat} {p : Int} {sz sl : Nat} {lay : Nat → Nat × Int} {ρ : Nat → Int → Nat} {σ : Nat → Int → Int} {τ : Nat → Int → Int64} {k : Option AV → Mm → Prop} : T_Picture_takeRow [vR o, vR t, vI p] (sz, sl, lay, ρ, σ, τ) k = (lay o = (13, 0) ∧ TF_Picture_takeRow o t p sz sl lay ρ σ τ k) := by simp [T_Picture_takeRow, mkT_e, pI_e, pR_e, pL_e]
theorem T_Picture_takeRow_r (as : List AV) (M : Mm) (k : Option AV → Mm → Prop) (h : T_Picture_takeRow as M k) : ∃ b As, as = vR b :: As ∧ M.2.2.1 b = (10 + 3, 0) := by
  obtain ⟨b, As, h1, h2, -⟩ := mkT_r h
  exact ⟨b, As, h1, h2⟩
def tb_Picture_takeRow : List (Nat × Option (List Nat) × Instr × List Nat) := [(0, none, .aload_n 1, []), (1, none, .iload_n 2, []), (2, none, .iconst 1, []), (3, none, .iadd, []), (4, none, .invokevirtual 159, []), (7, none, .istore_n 3, []), (8, none, .aload_n 1, []), (9, none, .iload_n 2, []), (10, none, .iconst 3, []), (11, none, .iadd, []), (12, none, .invokevirtual 116, []), (15, none, .istore 4, []), (17, none, .aload_n 1, []), (18, none, .iload_n 2, []), (19, none, .iconst 4, []), (20, none, .iadd, []), (21, none, .invokevirtual 159, []), (24, none, .istore 5, []), (26, none, .iload 5, []), (28, none, .iload 4, []), (30, none, .invokestatic 186, []), (33, none, .imul, []), (34, none, .istore 6, []), (36, some [0, 1, 2, 3, 4, 5, 6], .iload 4, []), (38, none, .invokestatic 150, []), (41, none, .ifCond .eq 41, [82]), (44, none, .iload 5, []), (46, none, .ifCond .lt 36, [82]), (49, none, .iload 5, []), (51, none, .sipush 1000, []), (54, none, .if_icmp .gt 28, [82]), (57, none, .aload_n 0, []), (58, none, .getfield 21, []), (61, none, .iload_n 3, []), (62, none, .invokevirtual 168, []), (65, none, .ifCond .eq 17, [82]), (68, none, .aload_n 1, []), (69, none, .iload_n 2, []), (70, none, .bipush 6, []), (72, none, .iadd, []), (73, none, .iload 6, []), (75, none, .iadd, []), (76, none, .invokevirtual 146, []), (79, none, .ifCond .ne 5, [84]), (82, none, .iconst 0, []), (83, none, .ireturn, []), (84, some [0, 1, 2, 3, 4, 5, 6], .aload_n 0, []), (85, none, .getfield 21, []), (88, none, .invokevirtual 170, []), (91, none, .iconst 0, []), (92, none, .istore 7, []), (94, some [0, 1, 2, 3, 4, 5, 6, 7], .iload 7, []), (96, none, .iload 5, []), (98, none, .if_icmp .ge 37, [135]), (101, none, .aload_n 0, []), (102, none, .getfield 21, []), (105, none, .iload 4, []), (107, none, .aload_n 1, []), (108, none, .iload_n 2, []), (109, none, .bipush 6, []), (111, none, .iadd, []), (112, none, .iload 7, []), (114, none, .iload 4, []), (116, none, .invokestatic 186, []), (119, none, .imul, []), (120, none, .iadd, []), (121, none, .iload 4, []), (123, none, .invokevirtual 178, []), (126, none, .invokevirtual 182, []), (129, none, .iinc 7 1, []), (132, none, .goto (-38), [94]), (135, some [0, 1, 2, 3, 4, 5, 6], .aload_n 0, []), (136, none, .getfield 21, []), (139, none, .iload_n 3, []), (140, none, .iconst 1, []), (141, none, .iload 4, []), (143, none, .iload_n 2, []), (144, none, .bipush 12, []), (146, none, .iload 6, []), (148, none, .iadd, []), (149, none, .invokevirtual 189, []), (152, none, .istore 7, []), (154, none, .iload 7, []), (156, none, .ifCond .eq 11, [167]), (159, none, .bipush 6, []), (161, none, .iload 6, []), (163, none, .iadd, []), (164, none, .goto 4, [168]), (167, none, .iconst 0, []), (168, none, .ireturn, [])]
def P_Picture_takeRow : Nat → Option (List Nat) × Instr × List Nat := plk tb_Picture_takeRow
theorem r_Picture_takeRow_0 : P_Picture_takeRow 0 = (none, .aload_n 1, []) := by decide +kernel
theorem r_Picture_takeRow_1 : P_Picture_takeRow 1 = (none, .iload_n 2, []) := by decide +kernel
theorem r_Picture_takeRow_2 : P_Picture_takeRow 2 = (none, .iconst 1, []) := by decide +kernel
theorem r_Picture_takeRow_3 : P_Picture_takeRow 3 = (none, .iadd, []) := by decide +kernel
theorem r_Picture_takeRow_4 : P_Picture_takeRow 4 = (none, .invokevirtual 159, []) := by decide +kernel
theorem r_Picture_takeRow_7 : P_Picture_takeRow 7 = (none, .istore_n 3, []) := by decide +kernel
theorem r_Picture_takeRow_8 : P_Picture_takeRow 8 = (none, .aload_n 1, []) := by decide +kernel
theorem r_Picture_takeRow_9 : P_Picture_takeRow 9 = (none, .iload_n 2, []) := by decide +kernel
theorem r_Picture_takeRow_10 : P_Picture_takeRow 10 = (none, .iconst 3, []) := by decide +kernel
theorem r_Picture_takeRow_11 : P_Picture_takeRow 11 = (none, .iadd, []) := by decide +kernel
theorem r_Picture_takeRow_12 : P_Picture_takeRow 12 = (none, .invokevirtual 116, []) := by decide +kernel
theorem r_Picture_takeRow_15 : P_Picture_takeRow 15 = (none, .istore 4, []) := by decide +kernel
theorem r_Picture_takeRow_17 : P_Picture_takeRow 17 = (none, .aload_n 1, []) := by decide +kernel
theorem r_Picture_takeRow_18 : P_Picture_takeRow 18 = (none, .iload_n 2, []) := by decide +kernel
theorem r_Picture_takeRow_19 : P_Picture_takeRow 19 = (none, .iconst 4, []) := by decide +kernel
theorem r_Picture_takeRow_20 : P_Picture_takeRow 20 = (none, .iadd, []) := by decide +kernel
theorem r_Picture_takeRow_21 : P_Picture_takeRow 21 = (none, .invokevirtual 159, []) := by decide +kernel
theorem r_Picture_takeRow_24 : P_Picture_takeRow 24 = (none, .istore 5, []) := by decide +kernel
theorem r_Picture_takeRow_26 : P_Picture_takeRow 26 = (none, .iload 5, []) := by decide +kernel
theorem r_Picture_takeRow_28 : P_Picture_takeRow 28 = (none, .iload 4, []) := by decide +kernel
theorem r_Picture_takeRow_30 : P_Picture_takeRow 30 = (none, .invokestatic 186, []) := by decide +kernel
theorem r_Picture_takeRow_33 : P_Picture_takeRow 33 = (none, .imul, []) := by decide +kernel
theorem r_Picture_takeRow_34 : P_Picture_takeRow 34 = (none, .istore 6, []) := by decide +kernel
theorem r_Picture_takeRow_36 : P_Picture_takeRow 36 = (some [0, 1, 2, 3, 4, 5, 6], .iload 4, []) := by decide +kernel
theorem r_Picture_takeRow_38 : P_Picture_takeRow 38 = (none, .invokestatic 150, []) := by decide +kernel
theorem r_Picture_takeRow_41 : P_Picture_takeRow 41 = (none, .ifCond .eq 41, [82]) := by decide +kernel
theorem r_Picture_takeRow_44 : P_Picture_takeRow 44 = (none, .iload 5, []) := by decide +kernel
theorem r_Picture_takeRow_46 : P_Picture_takeRow 46 = (none, .ifCond .lt 36, [82]) := by decide +kernel
theorem r_Picture_takeRow_49 : P_Picture_takeRow 49 = (none, .iload 5, []) := by decide +kernel
theorem r_Picture_takeRow_51 : P_Picture_takeRow 51 = (none, .sipush 1000, []) := by decide +kernel
theorem r_Picture_takeRow_54 : P_Picture_takeRow 54 = (none, .if_icmp .gt 28, [82]) := by decide +kernel
theorem r_Picture_takeRow_57 : P_Picture_takeRow 57 = (none, .aload_n 0, []) := by decide +kernel
theorem r_Picture_takeRow_58 : P_Picture_takeRow 58 = (none, .getfield 21, []) := by decide +kernel
theorem r_Picture_takeRow_61 : P_Picture_takeRow 61 = (none, .iload_n 3, []) := by decide +kernel
theorem r_Picture_takeRow_62 : P_Picture_takeRow 62 = (none, .invokevirtual 168, []) := by decide +kernel
theorem r_Picture_takeRow_65 : P_Picture_takeRow 65 = (none, .ifCond .eq 17, [82]) := by decide +kernel
theorem r_Picture_takeRow_68 : P_Picture_takeRow 68 = (none, .aload_n 1, []) := by decide +kernel
theorem r_Picture_takeRow_69 : P_Picture_takeRow 69 = (none, .iload_n 2, []) := by decide +kernel
theorem r_Picture_takeRow_70 : P_Picture_takeRow 70 = (none, .bipush 6, []) := by decide +kernel
theorem r_Picture_takeRow_72 : P_Picture_takeRow 72 = (none, .iadd, []) := by decide +kernel
theorem r_Picture_takeRow_73 : P_Picture_takeRow 73 = (none, .iload 6, []) := by decide +kernel
theorem r_Picture_takeRow_75 : P_Picture_takeRow 75 = (none, .iadd, []) := by decide +kernel
theorem r_Picture_takeRow_76 : P_Picture_takeRow 76 = (none, .invokevirtual 146, []) := by decide +kernel
theorem r_Picture_takeRow_79 : P_Picture_takeRow 79 = (none, .ifCond .ne 5, [84]) := by decide +kernel
theorem r_Picture_takeRow_82 : P_Picture_takeRow 82 = (none, .iconst 0, []) := by decide +kernel
theorem r_Picture_takeRow_83 : P_Picture_takeRow 83 = (none, .ireturn, []) := by decide +kernel
theorem r_Picture_takeRow_84 : P_Picture_takeRow 84 = (some [0, 1, 2, 3, 4, 5, 6], .aload_n 0, []) := by decide +kernel
theorem r_Picture_takeRow_85 : P_Picture_takeRow 85 = (none, .getfield 21, []) := by decide +kernel
theorem r_Picture_takeRow_88 : P_Picture_takeRow 88 = (none, .invokevirtual 170, []) := by decide +kernel
theorem r_Picture_takeRow_91 : P_Picture_takeRow 91 = (none, .iconst 0, []) := by decide +kernel
theorem r_Picture_takeRow_92 : P_Picture_takeRow 92 = (none, .istore 7, []) := by decide +kernel
theorem r_Picture_takeRow_94 : P_Picture_takeRow 94 = (some [0, 1, 2, 3, 4, 5, 6, 7], .iload 7, []) := by decide +kernel
theorem r_Picture_takeRow_96 : P_Picture_takeRow 96 = (none, .iload 5, []) := by decide +kernel
theorem r_Picture_takeRow_98 : P_Picture_takeRow 98 = (none, .if_icmp .ge 37, [135]) := by decide +kernel
theorem r_Picture_takeRow_101 : P_Picture_takeRow 101 = (none, .aload_n 0, []) := by decide +kernel
theorem r_Picture_takeRow_102 : P_Picture_takeRow 102 = (none, .getfield 21, []) := by decide +kernel
theorem r_Picture_takeRow_105 : P_Picture_takeRow 105 = (none, .iload 4, []) := by decide +kernel
theorem r_Picture_takeRow_107 : P_Picture_takeRow 107 = (none, .aload_n 1, []) := by decide +kernel
theorem r_Picture_takeRow_108 : P_Picture_takeRow 108 = (none, .iload_n 2, []) := by decide +kernel
theorem r_Picture_takeRow_109 : P_Picture_takeRow 109 = (none, .bipush 6, []) := by decide +kernel
theorem r_Picture_takeRow_111 : P_Picture_takeRow 111 = (none, .iadd, []) := by decide +kernel
theorem r_Picture_takeRow_112 : P_Picture_takeRow 112 = (none, .iload 7, []) := by decide +kernel
theorem r_Picture_takeRow_114 : P_Picture_takeRow 114 = (none, .iload 4, []) := by decide +kernel
theorem r_Picture_takeRow_116 : P_Picture_takeRow 116 = (none, .invokestatic 186, []) := by decide +kernel
theorem r_Picture_takeRow_119 : P_Picture_takeRow 119 = (none, .imul, []) := by decide +kernel
theorem r_Picture_takeRow_120 : P_Picture_takeRow 120 = (none, .iadd, []) := by decide +kernel
theorem r_Picture_takeRow_121 : P_Picture_takeRow 121 = (none, .iload 4, []) := by decide +kernel
theorem r_Picture_takeRow_123 : P_Picture_takeRow 123 = (none, .invokevirtual 178, []) := by decide +kernel
theorem r_Picture_takeRow_126 : P_Picture_takeRow 126 = (none, .invokevirtual 182, []) := by decide +kernel
theorem r_Picture_takeRow_129 : P_Picture_takeRow 129 = (none, .iinc 7 1, []) := by decide +kernel
theorem r_Picture_takeRow_132 : P_Picture_takeRow 132 = (none, .goto (-38), [94]) := by decide +kernel
theorem r_Picture_takeRow_135 : P_Picture_takeRow 135 = (some [0, 1, 2, 3, 4, 5, 6], .aload_n 0, []) := by decide +kernel
theorem r_Picture_takeRow_136 : P_Picture_takeRow 136 = (none, .getfield 21, []) := by decide +kernel
theorem r_Picture_takeRow_139 : P_Picture_takeRow 139 = (none, .iload_n 3, []) := by decide +kernel
theorem r_Picture_takeRow_140 : P_Picture_takeRow 140 = (none, .iconst 1, []) := by decide +kernel
theorem r_Picture_takeRow_141 : P_Picture_takeRow 141 = (none, .iload 4, []) := by decide +kernel
theorem r_Picture_takeRow_143 : P_Picture_takeRow 143 = (none, .iload_n 2, []) := by decide +kernel
theorem r_Picture_takeRow_144 : P_Picture_takeRow 144 = (none, .bipush 12, []) := by decide +kernel
theorem r_Picture_takeRow_146 : P_Picture_takeRow 146 = (none, .iload 6, []) := by decide +kernel
theorem r_Picture_takeRow_148 : P_Picture_takeRow 148 = (none, .iadd, []) := by decide +kernel
theorem r_Picture_takeRow_149 : P_Picture_takeRow 149 = (none, .invokevirtual 189, []) := by decide +kernel
theorem r_Picture_takeRow_152 : P_Picture_takeRow 152 = (none, .istore 7, []) := by decide +kernel
theorem r_Picture_takeRow_154 : P_Picture_takeRow 154 = (none, .iload 7, []) := by decide +kernel
theorem r_Picture_takeRow_156 : P_Picture_takeRow 156 = (none, .ifCond .eq 11, [167]) := by decide +kernel
theorem r_Picture_takeRow_159 : P_Picture_takeRow 159 = (none, .bipush 6, []) := by decide +kernel
theorem r_Picture_takeRow_161 : P_Picture_takeRow 161 = (none, .iload 6, []) := by decide +kernel
theorem r_Picture_takeRow_163 : P_Picture_takeRow 163 = (none, .iadd, []) := by decide +kernel
theorem r_Picture_takeRow_164 : P_Picture_takeRow 164 = (none, .goto 4, [168]) := by decide +kernel
theorem r_Picture_takeRow_167 : P_Picture_takeRow 167 = (none, .iconst 0, []) := by decide +kernel
theorem r_Picture_takeRow_168 : P_Picture_takeRow 168 = (none, .ireturn, []) := by decide +kernel
def E_Picture_takeRow : List (Nat × Ent) := [(602, (1, 0, 0, 0, T_PR_isSort)), (746, (1, 0, 0, 0, T_PR_widthOf)), (464, (2, 0, 0, 0, T_Tape_at)), (584, (2, 1, 0, 0, T_Tape_closesAt)), (636, (2, 1, 0, 0, T_Tape_pairAt)), (672, (2, 3, 0, 0, T_Things_admits)), (680, (1, 0, 0, 0, T_Things_begin)), (712, (3, 2, 0, 0, T_Tape_valueAt)), (728, (3, 0, 0, 0, T_Things_addValue)), (756, (6, 3, 0, 0, T_Things_keep))]
def X_Picture_takeRow : Cx := (llk (0, 0, 9) ftX3, llk 99 ntX3, llk none kcX3, llk none klX3, llk dEnt E_Picture_takeRow, 4, 0, false)
theorem xok_Picture_takeRow : Xok RX3 X_Picture_takeRow := xok_of ftX3_ok ntX3_ok kcX3_ok klX3_ok (E := E_Picture_takeRow) (List.forall_mem_cons.mpr ⟨co_X3_602, List.forall_mem_cons.mpr ⟨co_X3_746, List.forall_mem_cons.mpr ⟨co_X3_464, List.forall_mem_cons.mpr ⟨co_X3_584, List.forall_mem_cons.mpr ⟨co_X3_636, List.forall_mem_cons.mpr ⟨co_X3_672, List.forall_mem_cons.mpr ⟨co_X3_680, List.forall_mem_cons.mpr ⟨co_X3_712, List.forall_mem_cons.mpr ⟨co_X3_728, List.forall_mem_cons.mpr ⟨co_X3_756, fun _ h => absurd h List.not_mem_nil⟩⟩⟩⟩⟩⟩⟩⟩⟩⟩)
theorem xf_Picture_takeRow_21 : xfl X_Picture_takeRow 21 = (3, 1, 1) := by decide +kernel
theorem xe_Picture_takeRow_602 : xE X_Picture_takeRow (4 * 150 + 2) = (1, 0, 0, 0, T_PR_isSort) := rfl
theorem xe_Picture_takeRow_746 : xE X_Picture_takeRow (4 * 186 + 2) = (1, 0, 0, 0, T_PR_widthOf) := rfl
theorem xe_Picture_takeRow_464 : xE X_Picture_takeRow (4 * 116 + 0) = (2, 0, 0, 0, T_Tape_at) := rfl
theorem xe_Picture_takeRow_584 : xE X_Picture_takeRow (4 * 146 + 0) = (2, 1, 0, 0, T_Tape_closesAt) := rfl
theorem xe_Picture_takeRow_636 : xE X_Picture_takeRow (4 * 159 + 0) = (2, 1, 0, 0, T_Tape_pairAt) := rfl
theorem xe_Picture_takeRow_672 : xE X_Picture_takeRow (4 * 168 + 0) = (2, 3, 0, 0, T_Things_admits) := rfl
theorem xe_Picture_takeRow_680 : xE X_Picture_takeRow (4 * 170 + 0) = (1, 0, 0, 0, T_Things_begin) := rfl
theorem xe_Picture_takeRow_712 : xE X_Picture_takeRow (4 * 178 + 0) = (3, 2, 0, 0, T_Tape_valueAt) := rfl
theorem xe_Picture_takeRow_728 : xE X_Picture_takeRow (4 * 182 + 0) = (3, 0, 0, 0, T_Things_addValue) := rfl
theorem xe_Picture_takeRow_756 : xE X_Picture_takeRow (4 * 189 + 0) = (6, 3, 0, 0, T_Things_keep) := rfl
theorem xd_Picture_takeRow : xd X_Picture_takeRow = 4 := rfl
theorem xrb_Picture_takeRow : xrb X_Picture_takeRow = 0 := rfl
theorem xin_Picture_takeRow : xin X_Picture_takeRow = false := rfl
set_option maxHeartbeats 4000000 in
set_option maxRecDepth 100000 in
theorem S_Picture_takeRow : Snd yX3_takeRow cX3_takeRow 8 (some .int) T_Picture_takeRow 4 0 0 := by
  refine snd_of (X := X_Picture_takeRow) (P := P_Picture_takeRow) (tb := tb_Picture_takeRow) (own := RX3) (by decide) rfl rfl (by decide +kernel) xok_Picture_takeRow rfl rk0 (fun h => by first | rfl | cases h) ?_
  intro as M k has hM hT0
  obtain ⟨sz, sl, lay, ρ, σ, τ⟩ := M
  obtain ⟨o, as1, e, hlo, hT1⟩ := mkT_r hT0
  clear hT0
  subst e
  obtain ⟨t, as2, e, hT2⟩ := pR_x hT1
  clear hT1
  subst e
  obtain ⟨p, as3, e, hT3⟩ := pI_x hT2
  clear hT2
  subst e
  obtain ⟨e, hT⟩ := hT3
  subst e
  replace hlo : lay o = (13, 0) := hlo
  have r_p : -2147483648 ≤ p ∧ p ≤ 2147483647 := has (vI p) (by simp)
  clear has
  replace hM : ∀ a i, -2147483648 ≤ σ a i ∧ σ a i ≤ 2147483647 := hM
  replace hT : TF_Picture_takeRow o t p sz sl lay ρ σ τ k := hT
  unfold TF_Picture_takeRow at hT
  obtain ⟨hP, hTp, hl, hto2, hW, hp, hb, kk, tt, A, T, n, refs, hkk, htt, hKd, hTh, hKW, hKR, hTR, hn, hrf, h0, h1⟩ := hT
  have hU : ∀ x, 0 ≤ tU σ t x ∧ tU σ t x < 256 := tU_R σ t
  have e12 : σ tt 12 = n := hTR.1.1
  obtain ⟨J, hJd⟩ : ∃ J : Nat → List AV → Mm → Prop, J = (fun c vs M1 => (c = 36 ∧ ∃ (nb s el w : Int), ((p + 5 < σ t 1 ∧ nb = two2 (tU σ t) (p + 1) ∧ s = tU σ t (p + 3) ∧ el = two2 (tU σ t) (p + 4) ∧ w = el * wd s) ∨ (¬ p + 5 < σ t 1 ∧ el = -1)) ∧ vs = [vR o, vR t, vI p, vI nb, vI s, vI el, vI w] ∧ M1 = (sz, sl, lay, ρ, σ, τ)) ∨ (c = 84 ∧ HdT (tU σ t) (σ t 1) A T n p ∧ vs = [vR o, vR t, vI p, vI (two2 (tU σ t) (p + 1)), vI (tU σ t (p + 3)), vI (two2 (tU σ t) (p + 4)), vI (two2 (tU σ t) (p + 4) * wd (tU σ t (p + 3)))] ∧ M1 = (sz, sl, lay, ρ, σ, τ)) ∨ (c = 94 ∧ ∃ (k : Nat) (σ1 : Nat → Int → Int) (τ1 : Nat → Int → Int64), k ≤ nV (tU σ t) A p ∧ HdT (tU σ t) (σ t 1) A T n p ∧ ADg σ σ1 τ τ1 tt (tU σ t) A p n k ∧ vs = [vR o, vR t, vI p, vI (two2 (tU σ t) (p + 1)), vI (tU σ t (p + 3)), vI (two2 (tU σ t) (p + 4)), vI (two2 (tU σ t) (p + 4) * wd (tU σ t (p + 3))), vI k] ∧ M1 = (sz, sl, lay, ρ, σ1, τ1)) ∨ (c = 135 ∧ ∃ (k : Nat) (σ1 : Nat → Int → Int) (τ1 : Nat → Int → Int64), k = nV (tU σ t) A p ∧ HdT (tU σ t) (σ t 1) A T n p ∧ ADg σ σ1 τ τ1 tt (tU σ t) A p n k ∧ vs = [vR o, vR t, vI p, vI (two2 (tU σ t) (p + 1)), vI (tU σ t (p + 3)), vI (two2 (tU σ t) (p + 4)), vI (two2 (tU σ t) (p + 4) * wd (tU σ t (p + 3)))] ∧ M1 = (sz, sl, lay, ρ, σ1, τ1))) := ⟨_, rfl⟩
  obtain ⟨μ, hμ⟩ : ∃ μ : Nat → List AV → Mm → Nat, μ = (fun c vs _ => if c = 36 then 4000 else if c = 84 then 3000 else if c = 94 then (2000 - gI (vs.getD 7 vN)).toNat else 0) := ⟨_, rfl⟩
  refine ⟨Nat.le_of_ble_eq_true rfl, J, μ, 98, ?_, ?_⟩
  · obtain ⟨ph, pp0, pp1, pp2, pp3, pp4, pp5, pp6, pp7, pq0, pq1, pq2, pq3, pq4, pq5, pq6, pq7⟩ := (show LPicture lay ρ _ from hP)
    obtain ⟨kh, kp0, kp1, kp2, kp3, kp4, kp5, kq0, kq1, kq2, kq3, kq4, kq5⟩ := (show LKinds lay ρ _ from hKd)
    obtain ⟨lh, lp0, lp1, lp2, lp3, lp4, lp5, lp6, lp7, lp8, lp9, lp10, lp11, lq0, lq1, lq2, lq3, lq4, lq5, lq6, lq7, lq8, lq9, lq10, lq11⟩ := (show LThings lay ρ _ from hTh)
    obtain ⟨qh, qp0, qq0⟩ := (show LTape lay ρ _ from hTp)
    unfold wps
    simp only [si_iload_n0, si_iload_n1, si_iload_n2, si_iload_n3, si_iload, si_lload_n0, si_lload_n1, si_lload_n2, si_lload_n3, si_lload, si_aload_n0, si_aload_n1, si_aload_n2, si_aload_n3, si_aload, si_istore_n0, si_istore_n1, si_istore_n2, si_istore_n3, si_istore, si_astore_n0, si_astore_n1, si_astore_n2, si_astore_n3, si_astore, si_lstore_n0, si_lstore_n1, si_lstore_n2, si_lstore_n3, si_lstore, si_iconst, si_bipush, si_sipush, si_ldc, si_ldc2_w, si_lconst0, si_lconst1, si_aconst_null, si_iinc, si_dup, si_dup2, si_iadd, si_isub, si_imul, si_idiv, si_irem, si_iand, si_ior, si_ishl, si_ishr, si_ladd, si_lmul, si_lor, si_lxor, si_lshl, si_lushr, si_lcmp, si_i2b, si_i2l, si_l2i, si_icmp_eq, si_icmp_ne, si_icmp_lt, si_icmp_ge, si_icmp_gt, si_icmp_le, si_if_eq, si_if_ne, si_if_lt, si_if_ge, si_if_gt, si_if_le, si_ifnull, si_ifnonnull, si_goto, si_tableswitch, si_lookupswitch, si_getfield, si_putfield, si_getstatic, si_iaload, si_baload, si_laload, si_aaload, si_iastore, si_bastore, si_lastore, si_aastore, si_arraylength, si_new, si_newarray, si_anewarray, si_invokevirtual, si_invokespecial, si_invokestatic, si_ireturn, si_lreturn, si_areturn, si_return_, pI_e, pL_e, pR_e, pA_r, pA_n, pN_n, pN_r, oI_e, oL_e, oA_r, oA_n, lget_e, lrm1_0, lrm2_0, lrm1_i, lrm1_r, lrm1_n, lrm1_l, lrm2_i, lrm2_r, lrm2_n, lrm2_l, popN_0, popN_s, acat_i, acat_l, acat_r, acat_n, stw_0, stw_s, psh_s, psh_n, wgf_r, wgf_i, wgf_b, wgf_n, wgf_m, wpf_i, wpf_r, wpf_b, wnew_e, callE_e, rbk_0, rbk_1, tsw_0, tsw_s, lsw_0, lsw_s, wp_s, wq_t, wq_f, oV_e, pick_0, pick_s, oZ_e, oY_e, r_Picture_takeRow_0, r_Picture_takeRow_1, r_Picture_takeRow_2, r_Picture_takeRow_3, r_Picture_takeRow_4, r_Picture_takeRow_7, r_Picture_takeRow_8, r_Picture_takeRow_9, r_Picture_takeRow_10, r_Picture_takeRow_11, r_Picture_takeRow_12, r_Picture_takeRow_15, r_Picture_takeRow_17, r_Picture_takeRow_18, r_Picture_takeRow_19, r_Picture_takeRow_20, r_Picture_takeRow_21, r_Picture_takeRow_24, r_Picture_takeRow_26, r_Picture_takeRow_28, r_Picture_takeRow_30, r_Picture_takeRow_33, r_Picture_takeRow_34, r_Picture_takeRow_36, r_Picture_takeRow_38, r_Picture_takeRow_41, r_Picture_takeRow_44, r_Picture_takeRow_46, r_Picture_takeRow_49, r_Picture_takeRow_51, r_Picture_takeRow_54, r_Picture_takeRow_57, r_Picture_takeRow_58, r_Picture_takeRow_61, r_Picture_takeRow_62, r_Picture_takeRow_65, r_Picture_takeRow_68, r_Picture_takeRow_69, r_Picture_takeRow_70, r_Picture_takeRow_72, r_Picture_takeRow_73, r_Picture_takeRow_75, r_Picture_takeRow_76, r_Picture_takeRow_79, r_Picture_takeRow_82, r_Picture_takeRow_83, r_Picture_takeRow_84, r_Picture_takeRow_85, r_Picture_takeRow_88, r_Picture_takeRow_91, r_Picture_takeRow_92, r_Picture_takeRow_94, r_Picture_takeRow_96, r_Picture_takeRow_98, r_Picture_takeRow_101, r_Picture_takeRow_102, r_Picture_takeRow_105, r_Picture_takeRow_107, r_Picture_takeRow_108, r_Picture_takeRow_109, r_Picture_takeRow_111, r_Picture_takeRow_112, r_Picture_takeRow_114, r_Picture_takeRow_116, r_Picture_takeRow_119, r_Picture_takeRow_120, r_Picture_takeRow_121, r_Picture_takeRow_123, r_Picture_takeRow_126, r_Picture_takeRow_129, r_Picture_takeRow_132, r_Picture_takeRow_135, r_Picture_takeRow_136, r_Picture_takeRow_139, r_Picture_takeRow_140, r_Picture_takeRow_141, r_Picture_takeRow_143, r_Picture_takeRow_144, r_Picture_takeRow_146, r_Picture_takeRow_148, r_Picture_takeRow_149, r_Picture_takeRow_152, r_Picture_takeRow_154, r_Picture_takeRow_156, r_Picture_takeRow_159, r_Picture_takeRow_161, r_Picture_takeRow_163, r_Picture_takeRow_164, r_Picture_takeRow_167, r_Picture_takeRow_168, xf_Picture_takeRow_21, xe_Picture_takeRow_602, xe_Picture_takeRow_746, xe_Picture_takeRow_464, xe_Picture_takeRow_584, xe_Picture_takeRow_636, xe_Picture_takeRow_672, xe_Picture_takeRow_680, xe_Picture_takeRow_712, xe_Picture_takeRow_728, xe_Picture_takeRow_756, xd_Picture_takeRow, xrb_Picture_takeRow, xin_Picture_takeRow, T_PR_isSort_e, TF_PR_isSort, T_PR_widthOf_e, TF_PR_widthOf, T_Tape_at_e, TF_Tape_at, T_Tape_closesAt_e, TF_Tape_closesAt, T_Tape_pairAt_e, TF_Tape_pairAt, T_Things_admits_e, TF_Things_admits, T_Things_begin_e, TF_Things_begin, T_Tape_valueAt_e, TF_Tape_valueAt, T_Things_addValue_e, TF_Things_addValue, T_Things_keep_e, TF_Things_keep, hkk, htt, ph, pp0, pp1, pp2, pp3, pp4, pp5, pp6, pp7, pq0, pq1, pq2, pq3, pq4, pq5, pq6, pq7, kh, kp0, kp1, kp2, kp3, kp4, kp5, kq0, kq1, kq2, kq3, kq4, kq5, lh, lp0, lp1, lp2, lp3, lp4, lp5, lp6, lp7, lp8, lp9, lp10, lp11, lq0, lq1, lq2, lq3, lq4, lq5, lq6, lq7, lq8, lq9, lq10, lq11, qh, qp0, qq0, Nat.reduceAdd, Nat.reduceMul, Nat.reduceEqDiff, reduceIte, Int.reduceNeg, Int.reduceLE, Int.reduceLT, Int.reduceAdd, Int.reduceSub, Int.reduceToNat, true_and, and_true, inR_e, Nat.reduceLT, Nat.reduceLeDiff, reduceCtorEq, Nat.add_zero, Nat.zero_add, or_false, false_or, or_true, true_or, not_true_eq_false, not_false_eq_true, Classical.not_not, Nat.add_eq_zero_iff, and_false, false_and, Int.reduceEq, List.mem_cons, List.not_mem_nil, forall_eq_or_imp, forall_eq, false_implies, implies_true, forall_const, aargs_0, aargs_i, aargs_r, aargs_l, aargs_n, nfT_e, eq_self, and_self, Nat.le_refl, fu_s, fu_fu, iu_iu, iu_s, fu_am, fu_a0, fu_0a, iu_l, Nat.reduceBEq, Int.reduceBEq, T_objInit_e]
    clear pp0 pp1 pp2 pp3 pp4 pp5 pp6 pp7 kp0 kp1 kp2 kp3 kp4 kp5 lp0 lp1 lp2 lp3 lp4 lp5 lp6 lp7 lp8 lp9 lp10 lp11 qp0
    have u3 := hU (p + 3)
    have hw := wd_R (tU σ t (p + 3))
    have hw1 := wd_R (σ (t + 1) (p + 3) % 256)
    have hw2 := wd_R (-1)
    by_cases h5 : p + 5 < σ t 1
    · rw [pair_e (x := p + 1) (by omega), pair_e (x := p + 4) (by omega), ← tU_i (show 0 ≤ p + 3 ∧ p + 3 < σ t 1 by omega)]
      have mw := mul_R8 (two2_R hU (p + 4)) hw
      refine ⟨by omega, hTp, hl, by omega, fun a => ⟨by omega, hTp, hl, fun b => ⟨by omega, hTp, hl, by omega, fun c => ⟨hW, by omega, ?_⟩, fun c => by omega⟩, fun b => by omega⟩, fun a => by omega⟩
      rw [hJd]
      exact Or.inl ⟨rfl, _, _, _, _, Or.inl ⟨h5, rfl, rfl, rfl, rfl⟩, rfl, rfl⟩
    · have jj : ∀ nb s w, J 36 [vR o, vR t, vI p, vI nb, vI s, vI (-1), vI w] (sz, sl, lay, ρ, σ, τ) := by
        intro nb s w
        rw [hJd]
        exact Or.inl ⟨rfl, _, _, _, _, Or.inr ⟨h5, rfl⟩, rfl, rfl⟩
      repeat' (first | assumption | (exact jj _ _ _) | intro _ | apply And.intro)
      all_goals omega
  · intro cp vs M1 hvs hM1 hlen hJ
    rw [hJd] at hJ
    have en : vP (tU σ t) A p (nV (tU σ t) A p) = p + 6 + two2 (tU σ t) (p + 4) * wd (tU σ t (p + 3)) := by rw [nV_82 hb, vP_82 hb]
    have u3 := hU (p + 3)
    have u2 := two2_R hU (p + 1)
    have u4 := two2_R hU (p + 4)
    have hw := wd_R (tU σ t (p + 3))
    have mw := mul_R8 u4 hw
    have nvE : nV (tU σ t) A p = two2 (tU σ t) (p + 4) := nV_82 hb
    have nacc : ¬ HdT (tU σ t) (σ t 1) A T n p → k (some (vI 0)) (sz, sl, lay, ρ, σ, τ) := fun z => h0 (fun w => z (AccT_e.mp w).1) σ τ Fr.rfl' (fun _ _ => rfl) hTR
    rcases hJ with ⟨rfl, nb, s, el, w, g1, rfl, rfl⟩ | ⟨rfl, g1, rfl, rfl⟩ | ⟨rfl, k, σ1, τ1, g0, g1, g2, rfl, rfl⟩ | ⟨rfl, k, σ1, τ1, g0, g1, g2, rfl, rfl⟩
    · have et : True := trivial
      have et1 : True := trivial
      have e1n : σ tt 12 = n := e12
      (obtain ⟨ph, pp0, pp1, pp2, pp3, pp4, pp5, pp6, pp7, pq0, pq1, pq2, pq3, pq4, pq5, pq6, pq7⟩ := (show LPicture lay ρ _ from hP); obtain ⟨kh, kp0, kp1, kp2, kp3, kp4, kp5, kq0, kq1, kq2, kq3, kq4, kq5⟩ := (show LKinds lay ρ _ from hKd); obtain ⟨lh, lp0, lp1, lp2, lp3, lp4, lp5, lp6, lp7, lp8, lp9, lp10, lp11, lq0, lq1, lq2, lq3, lq4, lq5, lq6, lq7, lq8, lq9, lq10, lq11⟩ := (show LThings lay ρ _ from hTh); obtain ⟨qh, qp0, qq0⟩ := (show LTape lay ρ _ from hTp); unfold wps; simp only [Option.getD_some, List.zip_cons_cons, List.zip_nil_left, List.zip_nil_right, List.zip_nil_right, et, et1, e1n, si_iload_n0, si_iload_n1, si_iload_n2, si_iload_n3, si_iload, si_lload_n0, si_lload_n1, si_lload_n2, si_lload_n3, si_lload, si_aload_n0, si_aload_n1, si_aload_n2, si_aload_n3, si_aload, si_istore_n0, si_istore_n1, si_istore_n2, si_istore_n3, si_istore, si_astore_n0, si_astore_n1, si_astore_n2, si_astore_n3, si_astore, si_lstore_n0, si_lstore_n1, si_lstore_n2, si_lstore_n3, si_lstore, si_iconst, si_bipush, si_sipush, si_ldc, si_ldc2_w, si_lconst0, si_lconst1, si_aconst_null, si_iinc, si_dup, si_dup2, si_iadd, si_isub, si_imul, si_idiv, si_irem, si_iand, si_ior, si_ishl, si_ishr, si_ladd, si_lmul, si_lor, si_lxor, si_lshl, si_lushr, si_lcmp, si_i2b, si_i2l, si_l2i, si_icmp_eq, si_icmp_ne, si_icmp_lt, si_icmp_ge, si_icmp_gt, si_icmp_le, si_if_eq, si_if_ne, si_if_lt, si_if_ge, si_if_gt, si_if_le, si_ifnull, si_ifnonnull, si_goto, si_tableswitch, si_lookupswitch, si_getfield, si_putfield, si_getstatic, si_iaload, si_baload, si_laload, si_aaload, si_iastore, si_bastore, si_lastore, si_aastore, si_arraylength, si_new, si_newarray, si_anewarray, si_invokevirtual, si_invokespecial, si_invokestatic, si_ireturn, si_lreturn, si_areturn, si_return_, pI_e, pL_e, pR_e, pA_r, pA_n, pN_n, pN_r, oI_e, oL_e, oA_r, oA_n, lget_e, lrm1_0, lrm2_0, lrm1_i, lrm1_r, lrm1_n, lrm1_l, lrm2_i, lrm2_r, lrm2_n, lrm2_l, popN_0, popN_s, acat_i, acat_l, acat_r, acat_n, stw_0, stw_s, psh_s, psh_n, wgf_r, wgf_i, wgf_b, wgf_n, wgf_m, wpf_i, wpf_r, wpf_b, wnew_e, callE_e, rbk_0, rbk_1, tsw_0, tsw_s, lsw_0, lsw_s, wp_s, wq_t, wq_f, oV_e, pick_0, pick_s, oZ_e, oY_e, r_Picture_takeRow_0, r_Picture_takeRow_1, r_Picture_takeRow_2, r_Picture_takeRow_3, r_Picture_takeRow_4, r_Picture_takeRow_7, r_Picture_takeRow_8, r_Picture_takeRow_9, r_Picture_takeRow_10, r_Picture_takeRow_11, r_Picture_takeRow_12, r_Picture_takeRow_15, r_Picture_takeRow_17, r_Picture_takeRow_18, r_Picture_takeRow_19, r_Picture_takeRow_20, r_Picture_takeRow_21, r_Picture_takeRow_24, r_Picture_takeRow_26, r_Picture_takeRow_28, r_Picture_takeRow_30, r_Picture_takeRow_33, r_Picture_takeRow_34, r_Picture_takeRow_36, r_Picture_takeRow_38, r_Picture_takeRow_41, r_Picture_takeRow_44, r_Picture_takeRow_46, r_Picture_takeRow_49, r_Picture_takeRow_51, r_Picture_takeRow_54, r_Picture_takeRow_57, r_Picture_takeRow_58, r_Picture_takeRow_61, r_Picture_takeRow_62, r_Picture_takeRow_65, r_Picture_takeRow_68, r_Picture_takeRow_69, r_Picture_takeRow_70, r_Picture_takeRow_72, r_Picture_takeRow_73, r_Picture_takeRow_75, r_Picture_takeRow_76, r_Picture_takeRow_79, r_Picture_takeRow_82, r_Picture_takeRow_83, r_Picture_takeRow_84, r_Picture_takeRow_85, r_Picture_takeRow_88, r_Picture_takeRow_91, r_Picture_takeRow_92, r_Picture_takeRow_94, r_Picture_takeRow_96, r_Picture_takeRow_98, r_Picture_takeRow_101, r_Picture_takeRow_102, r_Picture_takeRow_105, r_Picture_takeRow_107, r_Picture_takeRow_108, r_Picture_takeRow_109, r_Picture_takeRow_111, r_Picture_takeRow_112, r_Picture_takeRow_114, r_Picture_takeRow_116, r_Picture_takeRow_119, r_Picture_takeRow_120, r_Picture_takeRow_121, r_Picture_takeRow_123, r_Picture_takeRow_126, r_Picture_takeRow_129, r_Picture_takeRow_132, r_Picture_takeRow_135, r_Picture_takeRow_136, r_Picture_takeRow_139, r_Picture_takeRow_140, r_Picture_takeRow_141, r_Picture_takeRow_143, r_Picture_takeRow_144, r_Picture_takeRow_146, r_Picture_takeRow_148, r_Picture_takeRow_149, r_Picture_takeRow_152, r_Picture_takeRow_154, r_Picture_takeRow_156, r_Picture_takeRow_159, r_Picture_takeRow_161, r_Picture_takeRow_163, r_Picture_takeRow_164, r_Picture_takeRow_167, r_Picture_takeRow_168, xf_Picture_takeRow_21, xe_Picture_takeRow_602, xe_Picture_takeRow_746, xe_Picture_takeRow_464, xe_Picture_takeRow_584, xe_Picture_takeRow_636, xe_Picture_takeRow_672, xe_Picture_takeRow_680, xe_Picture_takeRow_712, xe_Picture_takeRow_728, xe_Picture_takeRow_756, xd_Picture_takeRow, xrb_Picture_takeRow, xin_Picture_takeRow, T_PR_isSort_e, TF_PR_isSort, T_PR_widthOf_e, TF_PR_widthOf, T_Tape_at_e, TF_Tape_at, T_Tape_closesAt_e, TF_Tape_closesAt, T_Tape_pairAt_e, TF_Tape_pairAt, T_Things_admits_e, TF_Things_admits, T_Things_begin_e, TF_Things_begin, T_Tape_valueAt_e, TF_Tape_valueAt, T_Things_addValue_e, TF_Things_addValue, T_Things_keep_e, TF_Things_keep, hkk, htt, ph, pp0, pp1, pp2, pp3, pp4, pp5, pp6, pp7, pq0, pq1, pq2, pq3, pq4, pq5, pq6, pq7, kh, kp0, kp1, kp2, kp3, kp4, kp5, kq0, kq1, kq2, kq3, kq4, kq5, lh, lp0, lp1, lp2, lp3, lp4, lp5, lp6, lp7, lp8, lp9, lp10, lp11, lq0, lq1, lq2, lq3, lq4, lq5, lq6, lq7, lq8, lq9, lq10, lq11, qh, qp0, qq0, Nat.reduceAdd, Nat.reduceMul, Nat.reduceEqDiff, reduceIte, Int.reduceNeg, Int.reduceLE, Int.reduceLT, Int.reduceAdd, Int.reduceSub, Int.reduceToNat, true_and, and_true, inR_e, Nat.reduceLT, Nat.reduceLeDiff, reduceCtorEq, Nat.add_zero, Nat.zero_add, or_false, false_or, or_true, true_or, not_true_eq_false, not_false_eq_true, Classical.not_not, Nat.add_eq_zero_iff, and_false, false_and, Int.reduceEq, List.mem_cons, List.not_mem_nil, forall_eq_or_imp, forall_eq, false_implies, implies_true, forall_const, aargs_0, aargs_i, aargs_r, aargs_l, aargs_n, nfT_e, eq_self, and_self, Nat.le_refl, fu_s, fu_fu, iu_iu, iu_s, fu_am, fu_a0, fu_0a, iu_l, Nat.reduceBEq, Int.reduceBEq, T_objInit_e]; clear pp0 pp1 pp2 pp3 pp4 pp5 pp6 pp7 kp0 kp1 kp2 kp3 kp4 kp5 lp0 lp1 lp2 lp3 lp4 lp5 lp6 lp7 lp8 lp9 lp10 lp11 qp0)
      have tok : HdT (tU σ t) (σ t 1) A T n p → tU σ t (p + 3) < 6 ∧ two2 (tU σ t) (p + 4) ≤ 1000 ∧ p + 5 < σ t 1 := by
        intro z
        have z2 := z.2.1 hb
        rcases z.2.2.1 with zt | zt | zt
        · omega
        · omega
        · omega
      refine ⟨hW, fun a => ⟨fun b => nacc (fun z => ?_), fun b => ⟨fun c => nacc (fun z => ?_), fun c => ⟨by omega, hTh, hn, hTR.2.1, fun d => ?_, fun d => nacc (fun z => ?_)⟩⟩⟩, fun a => nacc (fun z => ?_)⟩
      · have := tok z; omega
      · have := tok z; omega
      · rcases g1 with ⟨q1, q2, q3, q4, q5⟩ | q
        · have en2 : vP (tU σ t) A p (nV (tU σ t) A p) = p + 6 + w := by rw [en, q5, q3, q4]
          have w0 : 0 ≤ w ∧ w ≤ 524288 := by rw [q5, q4, q3]; exact mw
          rw [isE_t (show 0 ≤ p + 6 + w by omega)]
          refine ⟨by omega, by omega, hTp, hl, fun e => ⟨?_, (by rw [hμ]; simp only [gI_e, List.getD_cons_succ, List.getD_cons_zero, Nat.reduceEqDiff, reduceIte]; omega)⟩, fun e => nacc (fun z => e (by rw [← en2]; exact z.2.2.2.2.1))⟩
          rw [hJd]
          have fn := (hTR.adm hn.1 (x := nb)).mp (by rw [e12]; exact d.2.2)
          subst q2
          subst q3
          subst q4
          subst q5
          refine Or.inr (Or.inl ⟨rfl, ⟨by omega, fun z => by omega, Or.inr (Or.inl ⟨hb, by omega, by omega⟩), ?_, by rw [en2]; exact e, by omega, fn, d.2.1⟩, rfl, rfl⟩)
          rw [en2]; rcases e with e | e <;> omega
        · omega
      · rcases g1 with ⟨q1, q2, q3, q4, q5⟩ | q
        · have fn := (hTR.adm hn.1 (x := nb)).mpr (by rw [q2]; exact z.2.2.2.2.2.2.1)
          rw [e12] at fn
          have zz := z.2.2.2.2.2.1
          exact d ⟨by omega, z.2.2.2.2.2.2.2, fn⟩
        · omega
      · have := tok z; omega
    · have et : True := trivial
      have et1 : True := trivial
      have e1n : σ tt 12 = n := e12
      (obtain ⟨ph, pp0, pp1, pp2, pp3, pp4, pp5, pp6, pp7, pq0, pq1, pq2, pq3, pq4, pq5, pq6, pq7⟩ := (show LPicture lay ρ _ from hP); obtain ⟨kh, kp0, kp1, kp2, kp3, kp4, kp5, kq0, kq1, kq2, kq3, kq4, kq5⟩ := (show LKinds lay ρ _ from hKd); obtain ⟨lh, lp0, lp1, lp2, lp3, lp4, lp5, lp6, lp7, lp8, lp9, lp10, lp11, lq0, lq1, lq2, lq3, lq4, lq5, lq6, lq7, lq8, lq9, lq10, lq11⟩ := (show LThings lay ρ _ from hTh); obtain ⟨qh, qp0, qq0⟩ := (show LTape lay ρ _ from hTp); unfold wps; simp only [Option.getD_some, List.zip_cons_cons, List.zip_nil_left, List.zip_nil_right, List.zip_nil_right, et, et1, e1n, si_iload_n0, si_iload_n1, si_iload_n2, si_iload_n3, si_iload, si_lload_n0, si_lload_n1, si_lload_n2, si_lload_n3, si_lload, si_aload_n0, si_aload_n1, si_aload_n2, si_aload_n3, si_aload, si_istore_n0, si_istore_n1, si_istore_n2, si_istore_n3, si_istore, si_astore_n0, si_astore_n1, si_astore_n2, si_astore_n3, si_astore, si_lstore_n0, si_lstore_n1, si_lstore_n2, si_lstore_n3, si_lstore, si_iconst, si_bipush, si_sipush, si_ldc, si_ldc2_w, si_lconst0, si_lconst1, si_aconst_null, si_iinc, si_dup, si_dup2, si_iadd, si_isub, si_imul, si_idiv, si_irem, si_iand, si_ior, si_ishl, si_ishr, si_ladd, si_lmul, si_lor, si_lxor, si_lshl, si_lushr, si_lcmp, si_i2b, si_i2l, si_l2i, si_icmp_eq, si_icmp_ne, si_icmp_lt, si_icmp_ge, si_icmp_gt, si_icmp_le, si_if_eq, si_if_ne, si_if_lt, si_if_ge, si_if_gt, si_if_le, si_ifnull, si_ifnonnull, si_goto, si_tableswitch, si_lookupswitch, si_getfield, si_putfield, si_getstatic, si_iaload, si_baload, si_laload, si_aaload, si_iastore, si_bastore, si_lastore, si_aastore, si_arraylength, si_new, si_newarray, si_anewarray, si_invokevirtual, si_invokespecial, si_invokestatic, si_ireturn, si_lreturn, si_areturn, si_return_, pI_e, pL_e, pR_e, pA_r, pA_n, pN_n, pN_r, oI_e, oL_e, oA_r, oA_n, lget_e, lrm1_0, lrm2_0, lrm1_i, lrm1_r, lrm1_n, lrm1_l, lrm2_i, lrm2_r, lrm2_n, lrm2_l, popN_0, popN_s, acat_i, acat_l, acat_r, acat_n, stw_0, stw_s, psh_s, psh_n, wgf_r, wgf_i, wgf_b, wgf_n, wgf_m, wpf_i, wpf_r, wpf_b, wnew_e, callE_e, rbk_0, rbk_1, tsw_0, tsw_s, lsw_0, lsw_s, wp_s, wq_t, wq_f, oV_e, pick_0, pick_s, oZ_e, oY_e, r_Picture_takeRow_0, r_Picture_takeRow_1, r_Picture_takeRow_2, r_Picture_takeRow_3, r_Picture_takeRow_4, r_Picture_takeRow_7, r_Picture_takeRow_8, r_Picture_takeRow_9, r_Picture_takeRow_10, r_Picture_takeRow_11, r_Picture_takeRow_12, r_Picture_takeRow_15, r_Picture_takeRow_17, r_Picture_takeRow_18, r_Picture_takeRow_19, r_Picture_takeRow_20, r_Picture_takeRow_21, r_Picture_takeRow_24, r_Picture_takeRow_26, r_Picture_takeRow_28, r_Picture_takeRow_30, r_Picture_takeRow_33, r_Picture_takeRow_34, r_Picture_takeRow_36, r_Picture_takeRow_38, r_Picture_takeRow_41, r_Picture_takeRow_44, r_Picture_takeRow_46, r_Picture_takeRow_49, r_Picture_takeRow_51, r_Picture_takeRow_54, r_Picture_takeRow_57, r_Picture_takeRow_58, r_Picture_takeRow_61, r_Picture_takeRow_62, r_Picture_takeRow_65, r_Picture_takeRow_68, r_Picture_takeRow_69, r_Picture_takeRow_70, r_Picture_takeRow_72, r_Picture_takeRow_73, r_Picture_takeRow_75, r_Picture_takeRow_76, r_Picture_takeRow_79, r_Picture_takeRow_82, r_Picture_takeRow_83, r_Picture_takeRow_84, r_Picture_takeRow_85, r_Picture_takeRow_88, r_Picture_takeRow_91, r_Picture_takeRow_92, r_Picture_takeRow_94, r_Picture_takeRow_96, r_Picture_takeRow_98, r_Picture_takeRow_101, r_Picture_takeRow_102, r_Picture_takeRow_105, r_Picture_takeRow_107, r_Picture_takeRow_108, r_Picture_takeRow_109, r_Picture_takeRow_111, r_Picture_takeRow_112, r_Picture_takeRow_114, r_Picture_takeRow_116, r_Picture_takeRow_119, r_Picture_takeRow_120, r_Picture_takeRow_121, r_Picture_takeRow_123, r_Picture_takeRow_126, r_Picture_takeRow_129, r_Picture_takeRow_132, r_Picture_takeRow_135, r_Picture_takeRow_136, r_Picture_takeRow_139, r_Picture_takeRow_140, r_Picture_takeRow_141, r_Picture_takeRow_143, r_Picture_takeRow_144, r_Picture_takeRow_146, r_Picture_takeRow_148, r_Picture_takeRow_149, r_Picture_takeRow_152, r_Picture_takeRow_154, r_Picture_takeRow_156, r_Picture_takeRow_159, r_Picture_takeRow_161, r_Picture_takeRow_163, r_Picture_takeRow_164, r_Picture_takeRow_167, r_Picture_takeRow_168, xf_Picture_takeRow_21, xe_Picture_takeRow_602, xe_Picture_takeRow_746, xe_Picture_takeRow_464, xe_Picture_takeRow_584, xe_Picture_takeRow_636, xe_Picture_takeRow_672, xe_Picture_takeRow_680, xe_Picture_takeRow_712, xe_Picture_takeRow_728, xe_Picture_takeRow_756, xd_Picture_takeRow, xrb_Picture_takeRow, xin_Picture_takeRow, T_PR_isSort_e, TF_PR_isSort, T_PR_widthOf_e, TF_PR_widthOf, T_Tape_at_e, TF_Tape_at, T_Tape_closesAt_e, TF_Tape_closesAt, T_Tape_pairAt_e, TF_Tape_pairAt, T_Things_admits_e, TF_Things_admits, T_Things_begin_e, TF_Things_begin, T_Tape_valueAt_e, TF_Tape_valueAt, T_Things_addValue_e, TF_Things_addValue, T_Things_keep_e, TF_Things_keep, hkk, htt, ph, pp0, pp1, pp2, pp3, pp4, pp5, pp6, pp7, pq0, pq1, pq2, pq3, pq4, pq5, pq6, pq7, kh, kp0, kp1, kp2, kp3, kp4, kp5, kq0, kq1, kq2, kq3, kq4, kq5, lh, lp0, lp1, lp2, lp3, lp4, lp5, lp6, lp7, lp8, lp9, lp10, lp11, lq0, lq1, lq2, lq3, lq4, lq5, lq6, lq7, lq8, lq9, lq10, lq11, qh, qp0, qq0, Nat.reduceAdd, Nat.reduceMul, Nat.reduceEqDiff, reduceIte, Int.reduceNeg, Int.reduceLE, Int.reduceLT, Int.reduceAdd, Int.reduceSub, Int.reduceToNat, true_and, and_true, inR_e, Nat.reduceLT, Nat.reduceLeDiff, reduceCtorEq, Nat.add_zero, Nat.zero_add, or_false, false_or, or_true, true_or, not_true_eq_false, not_false_eq_true, Classical.not_not, Nat.add_eq_zero_iff, and_false, false_and, Int.reduceEq, List.mem_cons, List.not_mem_nil, forall_eq_or_imp, forall_eq, false_implies, implies_true, forall_const, aargs_0, aargs_i, aargs_r, aargs_l, aargs_n, nfT_e, eq_self, and_self, Nat.le_refl, fu_s, fu_fu, iu_iu, iu_s, fu_am, fu_a0, fu_0a, iu_l, Nat.reduceBEq, Int.reduceBEq, T_objInit_e]; clear pp0 pp1 pp2 pp3 pp4 pp5 pp6 pp7 kp0 kp1 kp2 kp3 kp4 kp5 lp0 lp1 lp2 lp3 lp4 lp5 lp6 lp7 lp8 lp9 lp10 lp11 qp0)
      refine ⟨by omega, hTh, hn, ?_, (by rw [hμ]; simp only [gI_e, List.getD_cons_succ, List.getD_cons_zero, Nat.reduceEqDiff, reduceIte]; omega)⟩
      rw [hJd]
      exact Or.inr (Or.inr (Or.inl ⟨rfl, 0, _, _, by omega, g1, ADg.begin, rfl, rfl⟩))
    · have et : σ1 t = σ t := g2.fr.lo (by omega)
      have et1 : σ1 (t + 1) = σ (t + 1) := g2.fr.lo (by omega)
      have e1n : σ1 tt 12 = n := (g2.1.2.1 12 (by omega)).trans e12
      have ek : ∀ i, i ≤ 6 → σ1 (kk + i) = σ (kk + i) := fun i hi => g2.fr.lo (by omega)
      have hW1 : Wd lay ρ σ1 := hW.th g2.fr hTh
      have nvb := g1.2.2.1.nv hKW
      (obtain ⟨ph, pp0, pp1, pp2, pp3, pp4, pp5, pp6, pp7, pq0, pq1, pq2, pq3, pq4, pq5, pq6, pq7⟩ := (show LPicture lay ρ _ from hP); obtain ⟨kh, kp0, kp1, kp2, kp3, kp4, kp5, kq0, kq1, kq2, kq3, kq4, kq5⟩ := (show LKinds lay ρ _ from hKd); obtain ⟨lh, lp0, lp1, lp2, lp3, lp4, lp5, lp6, lp7, lp8, lp9, lp10, lp11, lq0, lq1, lq2, lq3, lq4, lq5, lq6, lq7, lq8, lq9, lq10, lq11⟩ := (show LThings lay ρ _ from hTh); obtain ⟨qh, qp0, qq0⟩ := (show LTape lay ρ _ from hTp); unfold wps; simp only [Option.getD_some, List.zip_cons_cons, List.zip_nil_left, List.zip_nil_right, List.zip_nil_right, et, et1, e1n, si_iload_n0, si_iload_n1, si_iload_n2, si_iload_n3, si_iload, si_lload_n0, si_lload_n1, si_lload_n2, si_lload_n3, si_lload, si_aload_n0, si_aload_n1, si_aload_n2, si_aload_n3, si_aload, si_istore_n0, si_istore_n1, si_istore_n2, si_istore_n3, si_istore, si_astore_n0, si_astore_n1, si_astore_n2, si_astore_n3, si_astore, si_lstore_n0, si_lstore_n1, si_lstore_n2, si_lstore_n3, si_lstore, si_iconst, si_bipush, si_sipush, si_ldc, si_ldc2_w, si_lconst0, si_lconst1, si_aconst_null, si_iinc, si_dup, si_dup2, si_iadd, si_isub, si_imul, si_idiv, si_irem, si_iand, si_ior, si_ishl, si_ishr, si_ladd, si_lmul, si_lor, si_lxor, si_lshl, si_lushr, si_lcmp, si_i2b, si_i2l, si_l2i, si_icmp_eq, si_icmp_ne, si_icmp_lt, si_icmp_ge, si_icmp_gt, si_icmp_le, si_if_eq, si_if_ne, si_if_lt, si_if_ge, si_if_gt, si_if_le, si_ifnull, si_ifnonnull, si_goto, si_tableswitch, si_lookupswitch, si_getfield, si_putfield, si_getstatic, si_iaload, si_baload, si_laload, si_aaload, si_iastore, si_bastore, si_lastore, si_aastore, si_arraylength, si_new, si_newarray, si_anewarray, si_invokevirtual, si_invokespecial, si_invokestatic, si_ireturn, si_lreturn, si_areturn, si_return_, pI_e, pL_e, pR_e, pA_r, pA_n, pN_n, pN_r, oI_e, oL_e, oA_r, oA_n, lget_e, lrm1_0, lrm2_0, lrm1_i, lrm1_r, lrm1_n, lrm1_l, lrm2_i, lrm2_r, lrm2_n, lrm2_l, popN_0, popN_s, acat_i, acat_l, acat_r, acat_n, stw_0, stw_s, psh_s, psh_n, wgf_r, wgf_i, wgf_b, wgf_n, wgf_m, wpf_i, wpf_r, wpf_b, wnew_e, callE_e, rbk_0, rbk_1, tsw_0, tsw_s, lsw_0, lsw_s, wp_s, wq_t, wq_f, oV_e, pick_0, pick_s, oZ_e, oY_e, r_Picture_takeRow_0, r_Picture_takeRow_1, r_Picture_takeRow_2, r_Picture_takeRow_3, r_Picture_takeRow_4, r_Picture_takeRow_7, r_Picture_takeRow_8, r_Picture_takeRow_9, r_Picture_takeRow_10, r_Picture_takeRow_11, r_Picture_takeRow_12, r_Picture_takeRow_15, r_Picture_takeRow_17, r_Picture_takeRow_18, r_Picture_takeRow_19, r_Picture_takeRow_20, r_Picture_takeRow_21, r_Picture_takeRow_24, r_Picture_takeRow_26, r_Picture_takeRow_28, r_Picture_takeRow_30, r_Picture_takeRow_33, r_Picture_takeRow_34, r_Picture_takeRow_36, r_Picture_takeRow_38, r_Picture_takeRow_41, r_Picture_takeRow_44, r_Picture_takeRow_46, r_Picture_takeRow_49, r_Picture_takeRow_51, r_Picture_takeRow_54, r_Picture_takeRow_57, r_Picture_takeRow_58, r_Picture_takeRow_61, r_Picture_takeRow_62, r_Picture_takeRow_65, r_Picture_takeRow_68, r_Picture_takeRow_69, r_Picture_takeRow_70, r_Picture_takeRow_72, r_Picture_takeRow_73, r_Picture_takeRow_75, r_Picture_takeRow_76, r_Picture_takeRow_79, r_Picture_takeRow_82, r_Picture_takeRow_83, r_Picture_takeRow_84, r_Picture_takeRow_85, r_Picture_takeRow_88, r_Picture_takeRow_91, r_Picture_takeRow_92, r_Picture_takeRow_94, r_Picture_takeRow_96, r_Picture_takeRow_98, r_Picture_takeRow_101, r_Picture_takeRow_102, r_Picture_takeRow_105, r_Picture_takeRow_107, r_Picture_takeRow_108, r_Picture_takeRow_109, r_Picture_takeRow_111, r_Picture_takeRow_112, r_Picture_takeRow_114, r_Picture_takeRow_116, r_Picture_takeRow_119, r_Picture_takeRow_120, r_Picture_takeRow_121, r_Picture_takeRow_123, r_Picture_takeRow_126, r_Picture_takeRow_129, r_Picture_takeRow_132, r_Picture_takeRow_135, r_Picture_takeRow_136, r_Picture_takeRow_139, r_Picture_takeRow_140, r_Picture_takeRow_141, r_Picture_takeRow_143, r_Picture_takeRow_144, r_Picture_takeRow_146, r_Picture_takeRow_148, r_Picture_takeRow_149, r_Picture_takeRow_152, r_Picture_takeRow_154, r_Picture_takeRow_156, r_Picture_takeRow_159, r_Picture_takeRow_161, r_Picture_takeRow_163, r_Picture_takeRow_164, r_Picture_takeRow_167, r_Picture_takeRow_168, xf_Picture_takeRow_21, xe_Picture_takeRow_602, xe_Picture_takeRow_746, xe_Picture_takeRow_464, xe_Picture_takeRow_584, xe_Picture_takeRow_636, xe_Picture_takeRow_672, xe_Picture_takeRow_680, xe_Picture_takeRow_712, xe_Picture_takeRow_728, xe_Picture_takeRow_756, xd_Picture_takeRow, xrb_Picture_takeRow, xin_Picture_takeRow, T_PR_isSort_e, TF_PR_isSort, T_PR_widthOf_e, TF_PR_widthOf, T_Tape_at_e, TF_Tape_at, T_Tape_closesAt_e, TF_Tape_closesAt, T_Tape_pairAt_e, TF_Tape_pairAt, T_Things_admits_e, TF_Things_admits, T_Things_begin_e, TF_Things_begin, T_Tape_valueAt_e, TF_Tape_valueAt, T_Things_addValue_e, TF_Things_addValue, T_Things_keep_e, TF_Things_keep, hkk, htt, ph, pp0, pp1, pp2, pp3, pp4, pp5, pp6, pp7, pq0, pq1, pq2, pq3, pq4, pq5, pq6, pq7, kh, kp0, kp1, kp2, kp3, kp4, kp5, kq0, kq1, kq2, kq3, kq4, kq5, lh, lp0, lp1, lp2, lp3, lp4, lp5, lp6, lp7, lp8, lp9, lp10, lp11, lq0, lq1, lq2, lq3, lq4, lq5, lq6, lq7, lq8, lq9, lq10, lq11, qh, qp0, qq0, Nat.reduceAdd, Nat.reduceMul, Nat.reduceEqDiff, reduceIte, Int.reduceNeg, Int.reduceLE, Int.reduceLT, Int.reduceAdd, Int.reduceSub, Int.reduceToNat, true_and, and_true, inR_e, Nat.reduceLT, Nat.reduceLeDiff, reduceCtorEq, Nat.add_zero, Nat.zero_add, or_false, false_or, or_true, true_or, not_true_eq_false, not_false_eq_true, Classical.not_not, Nat.add_eq_zero_iff, and_false, false_and, Int.reduceEq, List.mem_cons, List.not_mem_nil, forall_eq_or_imp, forall_eq, false_implies, implies_true, forall_const, aargs_0, aargs_i, aargs_r, aargs_l, aargs_n, nfT_e, eq_self, and_self, Nat.le_refl, fu_s, fu_fu, iu_iu, iu_s, fu_am, fu_a0, fu_0a, iu_l, Nat.reduceBEq, Int.reduceBEq, T_objInit_e]; clear pp0 pp1 pp2 pp3 pp4 pp5 pp6 pp7 kp0 kp1 kp2 kp3 kp4 kp5 lp0 lp1 lp2 lp3 lp4 lp5 lp6 lp7 lp8 lp9 lp10 lp11 qp0)
      refine ⟨fun h => ⟨?_, (by rw [hμ]; simp only [gI_e, List.getD_cons_succ, List.getD_cons_zero, Nat.reduceEqDiff, reduceIte]; omega)⟩, fun h => ?_⟩
      · rw [hJd]
        exact Or.inr (Or.inr (Or.inr ⟨rfl, k, σ1, τ1, by omega, g1, g2, rfl, rfl⟩))
      obtain ⟨d1, d2, d3, d4⟩ := hTR.bd hKW (q := p) (by omega) hl.2 hn.1 g1 g2 (by omega)
      have sE : sA (tU σ t) A p k = tU σ t (p + 3) := sA_82 hb
      have vE : vP (tU σ t) A p k = p + 6 + k * wd (tU σ t (p + 3)) := vP_82 hb
      have vsl : ∀ (σ3 : Nat → Int → Int) (τ3 : Nat → Int → Int64), ADg σ σ3 τ τ3 tt (tU σ t) A p n (k + 1) → J 94 [vR o, vR t, vI p, vI (two2 (tU σ t) (p + 1)), vI (tU σ t (p + 3)), vI (two2 (tU σ t) (p + 4)), vI (two2 (tU σ t) (p + 4) * wd (tU σ t (p + 3))), vI (k + 1)] (sz, sl, lay, ρ, σ3, τ3) := by
        intro σ3 τ3 w
        rw [hJd]
        exact Or.inr (Or.inr (Or.inl ⟨rfl, k + 1, σ3, τ3, by omega, g1, w, rfl, rfl⟩))
      have bE := bad_e (A := A) (q := p) (k := k) hU
      rw [sE] at bE d3 d4
      have d5 := wd_1le d4
      rw [← vE]
      refine ⟨by omega, by omega, hW1, by omega, by omega, hTp, hl, hW1, d3.1, d4, d3.2, fun h5 => ?_, fun h5 => ?_⟩
      · have s5 := sE.trans h5
        have hw5 : wd (tU σ t (p + 3)) = 2 := by rw [h5, wd_5]
        have nb : ¬ (sA (tU σ t) A p k = 4 ∧ ¬ (vZ (tU σ t) A p k = 0 ∨ vZ (tU σ t) A p k = 1)) := fun z => by omega
        have gE := good_e hU nb
        rw [sE] at gE nb
        rw [cv5 h5 (by omega), bE, gE]
        refine ⟨hTh, d1, ⟨d2.1, fun _ => d2.2⟩, fun z => absurd z nb, fun z => absurd h5 z.2, fun z => ?_⟩
        have ha := g2.ref s5
        rw [vZ_5 s5, l2i_two hU, ← vZ_5 s5]
        exact ⟨by omega, vsl _ _ ha, (by rw [hμ]; simp only [gI_e, List.getD_cons_succ, List.getD_cons_zero, Nat.reduceEqDiff, reduceIte]; omega)⟩
      · have s5 : ¬ sA (tU σ t) A p k = 5 := by rw [sE]; exact h5
        rw [cvn h5 d4 (by omega), bE]
        refine ⟨hTh, d1, ⟨d2.1, fun z => absurd z h5⟩, fun z => ?_, fun z => ?_, fun z => absurd z.2 h5⟩
        · have ha := g2.bad (by rw [sE]; exact z)
          exact ⟨by omega, vsl _ _ ha, (by rw [hμ]; simp only [gI_e, List.getD_cons_succ, List.getD_cons_zero, Nat.reduceEqDiff, reduceIte]; omega)⟩
        · have z1 : ¬ (sA (tU σ t) A p k = 4 ∧ ¬ (vZ (tU σ t) A p k = 0 ∨ vZ (tU σ t) A p k = 1)) := by rw [sE]; exact z.1
          have ha := g2.val z1 s5
          have gE := good_e hU z1
          rw [sE] at gE
          rw [gE]
          exact ⟨by omega, vsl _ _ ha, (by rw [hμ]; simp only [gI_e, List.getD_cons_succ, List.getD_cons_zero, Nat.reduceEqDiff, reduceIte]; omega)⟩
    · have et : σ1 t = σ t := g2.fr.lo (by omega)
      have et1 : σ1 (t + 1) = σ (t + 1) := g2.fr.lo (by omega)
      have e1n : σ1 tt 12 = n := (g2.1.2.1 12 (by omega)).trans e12
      have ek : ∀ i, i ≤ 6 → σ1 (kk + i) = σ (kk + i) := fun i hi => g2.fr.lo (by omega)
      have hW1 : Wd lay ρ σ1 := hW.th g2.fr hTh
      obtain ⟨f1, f2, f3, f4⟩ := hTR.fin hKW (q := p) (by omega) hl.2 hn.1 hrf g1 g2 g0
      rw [e1n] at f2 f4
      have hle := g1.2.2.2.1
      (obtain ⟨ph, pp0, pp1, pp2, pp3, pp4, pp5, pp6, pp7, pq0, pq1, pq2, pq3, pq4, pq5, pq6, pq7⟩ := (show LPicture lay ρ _ from hP); obtain ⟨kh, kp0, kp1, kp2, kp3, kp4, kp5, kq0, kq1, kq2, kq3, kq4, kq5⟩ := (show LKinds lay ρ _ from hKd); obtain ⟨lh, lp0, lp1, lp2, lp3, lp4, lp5, lp6, lp7, lp8, lp9, lp10, lp11, lq0, lq1, lq2, lq3, lq4, lq5, lq6, lq7, lq8, lq9, lq10, lq11⟩ := (show LThings lay ρ _ from hTh); obtain ⟨qh, qp0, qq0⟩ := (show LTape lay ρ _ from hTp); unfold wps; simp only [Option.getD_some, List.zip_cons_cons, List.zip_nil_left, List.zip_nil_right, List.zip_nil_right, et, et1, e1n, si_iload_n0, si_iload_n1, si_iload_n2, si_iload_n3, si_iload, si_lload_n0, si_lload_n1, si_lload_n2, si_lload_n3, si_lload, si_aload_n0, si_aload_n1, si_aload_n2, si_aload_n3, si_aload, si_istore_n0, si_istore_n1, si_istore_n2, si_istore_n3, si_istore, si_astore_n0, si_astore_n1, si_astore_n2, si_astore_n3, si_astore, si_lstore_n0, si_lstore_n1, si_lstore_n2, si_lstore_n3, si_lstore, si_iconst, si_bipush, si_sipush, si_ldc, si_ldc2_w, si_lconst0, si_lconst1, si_aconst_null, si_iinc, si_dup, si_dup2, si_iadd, si_isub, si_imul, si_idiv, si_irem, si_iand, si_ior, si_ishl, si_ishr, si_ladd, si_lmul, si_lor, si_lxor, si_lshl, si_lushr, si_lcmp, si_i2b, si_i2l, si_l2i, si_icmp_eq, si_icmp_ne, si_icmp_lt, si_icmp_ge, si_icmp_gt, si_icmp_le, si_if_eq, si_if_ne, si_if_lt, si_if_ge, si_if_gt, si_if_le, si_ifnull, si_ifnonnull, si_goto, si_tableswitch, si_lookupswitch, si_getfield, si_putfield, si_getstatic, si_iaload, si_baload, si_laload, si_aaload, si_iastore, si_bastore, si_lastore, si_aastore, si_arraylength, si_new, si_newarray, si_anewarray, si_invokevirtual, si_invokespecial, si_invokestatic, si_ireturn, si_lreturn, si_areturn, si_return_, pI_e, pL_e, pR_e, pA_r, pA_n, pN_n, pN_r, oI_e, oL_e, oA_r, oA_n, lget_e, lrm1_0, lrm2_0, lrm1_i, lrm1_r, lrm1_n, lrm1_l, lrm2_i, lrm2_r, lrm2_n, lrm2_l, popN_0, popN_s, acat_i, acat_l, acat_r, acat_n, stw_0, stw_s, psh_s, psh_n, wgf_r, wgf_i, wgf_b, wgf_n, wgf_m, wpf_i, wpf_r, wpf_b, wnew_e, callE_e, rbk_0, rbk_1, tsw_0, tsw_s, lsw_0, lsw_s, wp_s, wq_t, wq_f, oV_e, pick_0, pick_s, oZ_e, oY_e, r_Picture_takeRow_0, r_Picture_takeRow_1, r_Picture_takeRow_2, r_Picture_takeRow_3, r_Picture_takeRow_4, r_Picture_takeRow_7, r_Picture_takeRow_8, r_Picture_takeRow_9, r_Picture_takeRow_10, r_Picture_takeRow_11, r_Picture_takeRow_12, r_Picture_takeRow_15, r_Picture_takeRow_17, r_Picture_takeRow_18, r_Picture_takeRow_19, r_Picture_takeRow_20, r_Picture_takeRow_21, r_Picture_takeRow_24, r_Picture_takeRow_26, r_Picture_takeRow_28, r_Picture_takeRow_30, r_Picture_takeRow_33, r_Picture_takeRow_34, r_Picture_takeRow_36, r_Picture_takeRow_38, r_Picture_takeRow_41, r_Picture_takeRow_44, r_Picture_takeRow_46, r_Picture_takeRow_49, r_Picture_takeRow_51, r_Picture_takeRow_54, r_Picture_takeRow_57, r_Picture_takeRow_58, r_Picture_takeRow_61, r_Picture_takeRow_62, r_Picture_takeRow_65, r_Picture_takeRow_68, r_Picture_takeRow_69, r_Picture_takeRow_70, r_Picture_takeRow_72, r_Picture_takeRow_73, r_Picture_takeRow_75, r_Picture_takeRow_76, r_Picture_takeRow_79, r_Picture_takeRow_82, r_Picture_takeRow_83, r_Picture_takeRow_84, r_Picture_takeRow_85, r_Picture_takeRow_88, r_Picture_takeRow_91, r_Picture_takeRow_92, r_Picture_takeRow_94, r_Picture_takeRow_96, r_Picture_takeRow_98, r_Picture_takeRow_101, r_Picture_takeRow_102, r_Picture_takeRow_105, r_Picture_takeRow_107, r_Picture_takeRow_108, r_Picture_takeRow_109, r_Picture_takeRow_111, r_Picture_takeRow_112, r_Picture_takeRow_114, r_Picture_takeRow_116, r_Picture_takeRow_119, r_Picture_takeRow_120, r_Picture_takeRow_121, r_Picture_takeRow_123, r_Picture_takeRow_126, r_Picture_takeRow_129, r_Picture_takeRow_132, r_Picture_takeRow_135, r_Picture_takeRow_136, r_Picture_takeRow_139, r_Picture_takeRow_140, r_Picture_takeRow_141, r_Picture_takeRow_143, r_Picture_takeRow_144, r_Picture_takeRow_146, r_Picture_takeRow_148, r_Picture_takeRow_149, r_Picture_takeRow_152, r_Picture_takeRow_154, r_Picture_takeRow_156, r_Picture_takeRow_159, r_Picture_takeRow_161, r_Picture_takeRow_163, r_Picture_takeRow_164, r_Picture_takeRow_167, r_Picture_takeRow_168, xf_Picture_takeRow_21, xe_Picture_takeRow_602, xe_Picture_takeRow_746, xe_Picture_takeRow_464, xe_Picture_takeRow_584, xe_Picture_takeRow_636, xe_Picture_takeRow_672, xe_Picture_takeRow_680, xe_Picture_takeRow_712, xe_Picture_takeRow_728, xe_Picture_takeRow_756, xd_Picture_takeRow, xrb_Picture_takeRow, xin_Picture_takeRow, T_PR_isSort_e, TF_PR_isSort, T_PR_widthOf_e, TF_PR_widthOf, T_Tape_at_e, TF_Tape_at, T_Tape_closesAt_e, TF_Tape_closesAt, T_Tape_pairAt_e, TF_Tape_pairAt, T_Things_admits_e, TF_Things_admits, T_Things_begin_e, TF_Things_begin, T_Tape_valueAt_e, TF_Tape_valueAt, T_Things_addValue_e, TF_Things_addValue, T_Things_keep_e, TF_Things_keep, hkk, htt, ph, pp0, pp1, pp2, pp3, pp4, pp5, pp6, pp7, pq0, pq1, pq2, pq3, pq4, pq5, pq6, pq7, kh, kp0, kp1, kp2, kp3, kp4, kp5, kq0, kq1, kq2, kq3, kq4, kq5, lh, lp0, lp1, lp2, lp3, lp4, lp5, lp6, lp7, lp8, lp9, lp10, lp11, lq0, lq1, lq2, lq3, lq4, lq5, lq6, lq7, lq8, lq9, lq10, lq11, qh, qp0, qq0, Nat.reduceAdd, Nat.reduceMul, Nat.reduceEqDiff, reduceIte, Int.reduceNeg, Int.reduceLE, Int.reduceLT, Int.reduceAdd, Int.reduceSub, Int.reduceToNat, true_and, and_true, inR_e, Nat.reduceLT, Nat.reduceLeDiff, reduceCtorEq, Nat.add_zero, Nat.zero_add, or_false, false_or, or_true, true_or, not_true_eq_false, not_false_eq_true, Classical.not_not, Nat.add_eq_zero_iff, and_false, false_and, Int.reduceEq, List.mem_cons, List.not_mem_nil, forall_eq_or_imp, forall_eq, false_implies, implies_true, forall_const, aargs_0, aargs_i, aargs_r, aargs_l, aargs_n, nfT_e, eq_self, and_self, Nat.le_refl, fu_s, fu_fu, iu_iu, iu_s, fu_am, fu_a0, fu_0a, iu_l, Nat.reduceBEq, Int.reduceBEq, T_objInit_e]; clear pp0 pp1 pp2 pp3 pp4 pp5 pp6 pp7 kp0 kp1 kp2 kp3 kp4 kp5 lp0 lp1 lp2 lp3 lp4 lp5 lp6 lp7 lp8 lp9 lp10 lp11 qp0)
      obtain ⟨w1, w2⟩ := f4 _ rfl
      refine ⟨by omega, by omega, hTh, hn, f1.2.1, f2, f3, by omega, fun z => h0 (w1 z) σ1 τ1 g2.fr g2.1.2.2.2.1 f1, fun z r r0 r1 r2 => ⟨by omega, ?_⟩⟩
      obtain ⟨y1, y2⟩ := w2 z
      have y3 := y2 (12 + two2 (tU σ t) (p + 4) * wd (tU σ t (p + 3))) r (by rw [szv_82 hb, en]; congr 2; omega) r0 r1 r2
      rw [(srt_82 hb).1, (srt_82 hb).2] at y3
      have y4 := h1 y1 _ τ1 (keepS_fr g2.fr) g2.1.2.2.2.1 y3
      rw [show vP (tU σ t) A p (nV (tU σ t) A p) - p = 6 + two2 (tU σ t) (p + 4) * wd (tU σ t (p + 3)) by omega] at y4
      exact y4

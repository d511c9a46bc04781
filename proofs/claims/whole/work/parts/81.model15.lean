/-- how many values of a thing may lead on -/
def mny (U : Int → Int) (st : Nat → Int → Int) (s w : Int) : Int := if srt U (st 2 w) = 2 ∧ s = 0 then 0 else nV U (st 1) (st 2 w)
theorem co_X11_700 : CallOK RX11 (.invokevirtual 175) (4, 6, 0, 0, T_Model_target) := call_V S_Model_target (by decide) (ci := 11) rfl (by decide +kernel) (by decide +kernel) (by decide +kernel) (by decide +kernel) (by decide +kernel) (by decide +kernel) T_Model_target_r
def TF_Model_live (o : Nat) (p : Int) (y : Int) (a : Nat) (s : Int) (sz sl : Nat) (lay : Nat → Nat × Int) (ρ : Nat → Int → Nat) (σ : Nat → Int → Int) (τ : Nat → Int → Int64) (k : Option AV → Mm → Prop) : Prop := LModel lay ρ o ∧ ∃ (U : Int → Int) (len : Int) (st : Nat → Int → Int), SW U len st ∧ MR σ o p U len st ∧ (a = o + 18 ∨ a = o + 19) ∧ (s = 0 ∨ s = 1) ∧ (-1 ≤ y) ∧ (∀ σ2 : Nat → Int → Int, LF σ σ2 o a → (∀ x, 0 ≤ x ∧ x < st 0 7 → (σ2 a x = 0 ∨ σ2 a x = 1) ∧ (σ2 a x = 1 ↔ RA (edg U st s) y x)) → k none (sz, sl, lay, ρ, σ2, τ))
def T_Model_live : Tr := mkT 11 fun o as M k => pI as fun p as => pI as fun y as => pR as fun a as => pI as fun s as => as = [] ∧ TF_Model_live o p y a s M.1 M.2.1 M.2.2.1 M.2.2.2.1 M.2.2.2.2.1 M.2.2.2.2.2 k
theorem T_Model_live_e {o : Nat} {p : Int} {y : Int} {a : Nat} {s : Int} {sz sl : Nat} {lay : Nat → Nat × Int} {ρ : Nat → Int → Nat} {σ : Nat → Int → Int} {τ : Nat → Int → Int64} {k : Option AV → Mm → Prop} : T_Model_live [vR o, vI p, vI y, vR a, vI s] (sz, sl, lay, ρ, σ, τ) k = (lay o = (21, 0) ∧ TF_Model_live o p y a s sz sl lay ρ σ τ k) := by simp [T_Model_live, mkT_e, pI_e, pR_e, pL_e]
theorem T_Model_live_r (as : List AV) (M : Mm) (k : Option AV → Mm → Prop) (h : T_Model_live as M k) : ∃ b As, as = vR b :: As ∧ M.2.2.1 b = (10 + 11, 0) := by
  obtain ⟨b, As, h1, h2, -⟩ := mkT_r h
  exact ⟨b, As, h1, h2⟩
def tb_Model_live : List (Nat × Option (List Nat) × Instr × List Nat) := [(0, none, .iconst 0, []), (1, none, .istore 5, []), (3, some [0, 1, 2, 3, 4, 5], .iload 5, []), (5, none, .aload_n 0, []), (6, none, .getfield 50, []), (9, none, .iload_n 1, []), (10, none, .iaload, []), (11, none, .if_icmp .ge 14, [25]), (14, none, .aload_n 3, []), (15, none, .iload 5, []), (17, none, .iconst 0, []), (18, none, .bastore, []), (19, none, .iinc 5 1, []), (22, none, .goto (-19), [3]), (25, none, .iconst 0, []), (26, none, .istore 5, []), (28, none, .iconst 0, []), (29, none, .istore 6, []), (31, some [0, 1, 2, 3, 4, 5, 6], .iload 6, []), (33, none, .aload_n 0, []), (34, none, .getfield 59, []), (37, none, .iload_n 1, []), (38, none, .iaload, []), (39, none, .if_icmp .ge 63, [102]), (42, none, .aload_n 0, []), (43, none, .iload_n 1, []), (44, none, .aload_n 0, []), (45, none, .getfield 56, []), (48, none, .bipush 100, []), (50, none, .iload_n 1, []), (51, none, .imul, []), (52, none, .iload 6, []), (54, none, .iadd, []), (55, none, .iaload, []), (56, none, .invokevirtual 152, []), (59, none, .istore 7, []), (61, none, .iload 7, []), (63, none, .ifCond .lt 33, [96]), (66, none, .iload 7, []), (68, none, .iload_n 2, []), (69, none, .if_icmp .eq 27, [96]), (72, none, .aload_n 3, []), (73, none, .iload 7, []), (75, none, .baload, []), (76, none, .ifCond .ne 20, [96]), (79, none, .aload_n 3, []), (80, none, .iload 7, []), (82, none, .iconst 1, []), (83, none, .bastore, []), (84, none, .aload_n 0, []), (85, none, .getfield 69, []), (88, none, .iload 5, []), (90, none, .iload 7, []), (92, none, .iastore, []), (93, none, .iinc 5 1, []), (96, none, .iinc 6 1, []), (99, none, .goto (-68), [31]), (102, some [0, 1, 2, 3, 4, 5], .iload 5, []), (104, none, .ifCond .le 120, [224]), (107, none, .iinc 5 (-1), []), (110, none, .aload_n 0, []), (111, none, .getfield 69, []), (114, none, .iload 5, []), (116, none, .iaload, []), (117, none, .istore 6, []), (119, none, .aload_n 0, []), (120, none, .iload_n 1, []), (121, none, .iload 6, []), (123, none, .invokevirtual 134, []), (126, none, .iconst 2, []), (127, none, .if_icmp .ne 12, [139]), (130, none, .iload 4, []), (132, none, .ifCond .ne 7, [139]), (135, none, .iconst 0, []), (136, none, .goto 21, [157]), (139, none, .aload_n 0, []), (140, none, .iload_n 1, []), (141, none, .aload_n 0, []), (142, none, .getfield 47, []), (145, none, .sipush 600, []), (148, none, .iload_n 1, []), (149, none, .imul, []), (150, none, .iload 6, []), (152, none, .iadd, []), (153, none, .iaload, []), (154, none, .invokevirtual 131, []), (157, none, .istore 7, []), (159, none, .iconst 0, []), (160, none, .istore 8, []), (162, some [0, 1, 2, 3, 4, 5, 6, 7, 8], .iload 8, []), (164, none, .iload 7, []), (166, none, .if_icmp .ge 55, [221]), (169, none, .aload_n 0, []), (170, none, .iload_n 1, []), (171, none, .iload 6, []), (173, none, .iload 8, []), (175, none, .invokevirtual 175, []), (178, none, .istore 9, []), (180, none, .iload 9, []), (182, none, .ifCond .lt 33, [215]), (185, none, .iload 9, []), (187, none, .iload_n 2, []), (188, none, .if_icmp .eq 27, [215]), (191, none, .aload_n 3, []), (192, none, .iload 9, []), (194, none, .baload, []), (195, none, .ifCond .ne 20, [215]), (198, none, .aload_n 3, []), (199, none, .iload 9, []), (201, none, .iconst 1, []), (202, none, .bastore, []), (203, none, .aload_n 0, []), (204, none, .getfield 69, []), (207, none, .iload 5, []), (209, none, .iload 9, []), (211, none, .iastore, []), (212, none, .iinc 5 1, []), (215, none, .iinc 8 1, []), (218, none, .goto (-56), [162]), (221, none, .goto (-119), [102]), (224, none, .return_, [])]
def P_Model_live : Nat → Option (List Nat) × Instr × List Nat := plk tb_Model_live
theorem r_Model_live_0 : P_Model_live 0 = (none, .iconst 0, []) := by decide +kernel
theorem r_Model_live_1 : P_Model_live 1 = (none, .istore 5, []) := by decide +kernel
theorem r_Model_live_3 : P_Model_live 3 = (some [0, 1, 2, 3, 4, 5], .iload 5, []) := by decide +kernel
theorem r_Model_live_5 : P_Model_live 5 = (none, .aload_n 0, []) := by decide +kernel
theorem r_Model_live_6 : P_Model_live 6 = (none, .getfield 50, []) := by decide +kernel
theorem r_Model_live_9 : P_Model_live 9 = (none, .iload_n 1, []) := by decide +kernel
theorem r_Model_live_10 : P_Model_live 10 = (none, .iaload, []) := by decide +kernel
theorem r_Model_live_11 : P_Model_live 11 = (none, .if_icmp .ge 14, [25]) := by decide +kernel
theorem r_Model_live_14 : P_Model_live 14 = (none, .aload_n 3, []) := by decide +kernel
theorem r_Model_live_15 : P_Model_live 15 = (none, .iload 5, []) := by decide +kernel
theorem r_Model_live_17 : P_Model_live 17 = (none, .iconst 0, []) := by decide +kernel
theorem r_Model_live_18 : P_Model_live 18 = (none, .bastore, []) := by decide +kernel
theorem r_Model_live_19 : P_Model_live 19 = (none, .iinc 5 1, []) := by decide +kernel
theorem r_Model_live_22 : P_Model_live 22 = (none, .goto (-19), [3]) := by decide +kernel
theorem r_Model_live_25 : P_Model_live 25 = (none, .iconst 0, []) := by decide +kernel
theorem r_Model_live_26 : P_Model_live 26 = (none, .istore 5, []) := by decide +kernel
theorem r_Model_live_28 : P_Model_live 28 = (none, .iconst 0, []) := by decide +kernel
theorem r_Model_live_29 : P_Model_live 29 = (none, .istore 6, []) := by decide +kernel
theorem r_Model_live_31 : P_Model_live 31 = (some [0, 1, 2, 3, 4, 5, 6], .iload 6, []) := by decide +kernel
theorem r_Model_live_33 : P_Model_live 33 = (none, .aload_n 0, []) := by decide +kernel
theorem r_Model_live_34 : P_Model_live 34 = (none, .getfield 59, []) := by decide +kernel
theorem r_Model_live_37 : P_Model_live 37 = (none, .iload_n 1, []) := by decide +kernel
theorem r_Model_live_38 : P_Model_live 38 = (none, .iaload, []) := by decide +kernel
theorem r_Model_live_39 : P_Model_live 39 = (none, .if_icmp .ge 63, [102]) := by decide +kernel
theorem r_Model_live_42 : P_Model_live 42 = (none, .aload_n 0, []) := by decide +kernel
theorem r_Model_live_43 : P_Model_live 43 = (none, .iload_n 1, []) := by decide +kernel
theorem r_Model_live_44 : P_Model_live 44 = (none, .aload_n 0, []) := by decide +kernel
theorem r_Model_live_45 : P_Model_live 45 = (none, .getfield 56, []) := by decide +kernel
theorem r_Model_live_48 : P_Model_live 48 = (none, .bipush 100, []) := by decide +kernel
theorem r_Model_live_50 : P_Model_live 50 = (none, .iload_n 1, []) := by decide +kernel
theorem r_Model_live_51 : P_Model_live 51 = (none, .imul, []) := by decide +kernel
theorem r_Model_live_52 : P_Model_live 52 = (none, .iload 6, []) := by decide +kernel
theorem r_Model_live_54 : P_Model_live 54 = (none, .iadd, []) := by decide +kernel
theorem r_Model_live_55 : P_Model_live 55 = (none, .iaload, []) := by decide +kernel
theorem r_Model_live_56 : P_Model_live 56 = (none, .invokevirtual 152, []) := by decide +kernel
theorem r_Model_live_59 : P_Model_live 59 = (none, .istore 7, []) := by decide +kernel
theorem r_Model_live_61 : P_Model_live 61 = (none, .iload 7, []) := by decide +kernel
theorem r_Model_live_63 : P_Model_live 63 = (none, .ifCond .lt 33, [96]) := by decide +kernel
theorem r_Model_live_66 : P_Model_live 66 = (none, .iload 7, []) := by decide +kernel
theorem r_Model_live_68 : P_Model_live 68 = (none, .iload_n 2, []) := by decide +kernel
theorem r_Model_live_69 : P_Model_live 69 = (none, .if_icmp .eq 27, [96]) := by decide +kernel
theorem r_Model_live_72 : P_Model_live 72 = (none, .aload_n 3, []) := by decide +kernel
theorem r_Model_live_73 : P_Model_live 73 = (none, .iload 7, []) := by decide +kernel
theorem r_Model_live_75 : P_Model_live 75 = (none, .baload, []) := by decide +kernel
theorem r_Model_live_76 : P_Model_live 76 = (none, .ifCond .ne 20, [96]) := by decide +kernel
theorem r_Model_live_79 : P_Model_live 79 = (none, .aload_n 3, []) := by decide +kernel
theorem r_Model_live_80 : P_Model_live 80 = (none, .iload 7, []) := by decide +kernel
theorem r_Model_live_82 : P_Model_live 82 = (none, .iconst 1, []) := by decide +kernel
theorem r_Model_live_83 : P_Model_live 83 = (none, .bastore, []) := by decide +kernel
theorem r_Model_live_84 : P_Model_live 84 = (none, .aload_n 0, []) := by decide +kernel
theorem r_Model_live_85 : P_Model_live 85 = (none, .getfield 69, []) := by decide +kernel
theorem r_Model_live_88 : P_Model_live 88 = (none, .iload 5, []) := by decide +kernel
theorem r_Model_live_90 : P_Model_live 90 = (none, .iload 7, []) := by decide +kernel
theorem r_Model_live_92 : P_Model_live 92 = (none, .iastore, []) := by decide +kernel
theorem r_Model_live_93 : P_Model_live 93 = (none, .iinc 5 1, []) := by decide +kernel
theorem r_Model_live_96 : P_Model_live 96 = (none, .iinc 6 1, []) := by decide +kernel
theorem r_Model_live_99 : P_Model_live 99 = (none, .goto (-68), [31]) := by decide +kernel
theorem r_Model_live_102 : P_Model_live 102 = (some [0, 1, 2, 3, 4, 5], .iload 5, []) := by decide +kernel
theorem r_Model_live_104 : P_Model_live 104 = (none, .ifCond .le 120, [224]) := by decide +kernel
theorem r_Model_live_107 : P_Model_live 107 = (none, .iinc 5 (-1), []) := by decide +kernel
theorem r_Model_live_110 : P_Model_live 110 = (none, .aload_n 0, []) := by decide +kernel
theorem r_Model_live_111 : P_Model_live 111 = (none, .getfield 69, []) := by decide +kernel
theorem r_Model_live_114 : P_Model_live 114 = (none, .iload 5, []) := by decide +kernel
theorem r_Model_live_116 : P_Model_live 116 = (none, .iaload, []) := by decide +kernel
theorem r_Model_live_117 : P_Model_live 117 = (none, .istore 6, []) := by decide +kernel
theorem r_Model_live_119 : P_Model_live 119 = (none, .aload_n 0, []) := by decide +kernel
theorem r_Model_live_120 : P_Model_live 120 = (none, .iload_n 1, []) := by decide +kernel
theorem r_Model_live_121 : P_Model_live 121 = (none, .iload 6, []) := by decide +kernel
theorem r_Model_live_123 : P_Model_live 123 = (none, .invokevirtual 134, []) := by decide +kernel
theorem r_Model_live_126 : P_Model_live 126 = (none, .iconst 2, []) := by decide +kernel
theorem r_Model_live_127 : P_Model_live 127 = (none, .if_icmp .ne 12, [139]) := by decide +kernel
theorem r_Model_live_130 : P_Model_live 130 = (none, .iload 4, []) := by decide +kernel
theorem r_Model_live_132 : P_Model_live 132 = (none, .ifCond .ne 7, [139]) := by decide +kernel
theorem r_Model_live_135 : P_Model_live 135 = (none, .iconst 0, []) := by decide +kernel
theorem r_Model_live_136 : P_Model_live 136 = (none, .goto 21, [157]) := by decide +kernel
theorem r_Model_live_139 : P_Model_live 139 = (none, .aload_n 0, []) := by decide +kernel
theorem r_Model_live_140 : P_Model_live 140 = (none, .iload_n 1, []) := by decide +kernel
theorem r_Model_live_141 : P_Model_live 141 = (none, .aload_n 0, []) := by decide +kernel
theorem r_Model_live_142 : P_Model_live 142 = (none, .getfield 47, []) := by decide +kernel
theorem r_Model_live_145 : P_Model_live 145 = (none, .sipush 600, []) := by decide +kernel
theorem r_Model_live_148 : P_Model_live 148 = (none, .iload_n 1, []) := by decide +kernel
theorem r_Model_live_149 : P_Model_live 149 = (none, .imul, []) := by decide +kernel
theorem r_Model_live_150 : P_Model_live 150 = (none, .iload 6, []) := by decide +kernel
theorem r_Model_live_152 : P_Model_live 152 = (none, .iadd, []) := by decide +kernel
theorem r_Model_live_153 : P_Model_live 153 = (none, .iaload, []) := by decide +kernel
theorem r_Model_live_154 : P_Model_live 154 = (none, .invokevirtual 131, []) := by decide +kernel
theorem r_Model_live_157 : P_Model_live 157 = (none, .istore 7, []) := by decide +kernel
theorem r_Model_live_159 : P_Model_live 159 = (none, .iconst 0, []) := by decide +kernel
theorem r_Model_live_160 : P_Model_live 160 = (none, .istore 8, []) := by decide +kernel
theorem r_Model_live_162 : P_Model_live 162 = (some [0, 1, 2, 3, 4, 5, 6, 7, 8], .iload 8, []) := by decide +kernel
theorem r_Model_live_164 : P_Model_live 164 = (none, .iload 7, []) := by decide +kernel
theorem r_Model_live_166 : P_Model_live 166 = (none, .if_icmp .ge 55, [221]) := by decide +kernel
theorem r_Model_live_169 : P_Model_live 169 = (none, .aload_n 0, []) := by decide +kernel
theorem r_Model_live_170 : P_Model_live 170 = (none, .iload_n 1, []) := by decide +kernel
theorem r_Model_live_171 : P_Model_live 171 = (none, .iload 6, []) := by decide +kernel
theorem r_Model_live_173 : P_Model_live 173 = (none, .iload 8, []) := by decide +kernel
theorem r_Model_live_175 : P_Model_live 175 = (none, .invokevirtual 175, []) := by decide +kernel
theorem r_Model_live_178 : P_Model_live 178 = (none, .istore 9, []) := by decide +kernel
theorem r_Model_live_180 : P_Model_live 180 = (none, .iload 9, []) := by decide +kernel
theorem r_Model_live_182 : P_Model_live 182 = (none, .ifCond .lt 33, [215]) := by decide +kernel
theorem r_Model_live_185 : P_Model_live 185 = (none, .iload 9, []) := by decide +kernel
theorem r_Model_live_187 : P_Model_live 187 = (none, .iload_n 2, []) := by decide +kernel
theorem r_Model_live_188 : P_Model_live 188 = (none, .if_icmp .eq 27, [215]) := by decide +kernel
theorem r_Model_live_191 : P_Model_live 191 = (none, .aload_n 3, []) := by decide +kernel
theorem r_Model_live_192 : P_Model_live 192 = (none, .iload 9, []) := by decide +kernel
theorem r_Model_live_194 : P_Model_live 194 = (none, .baload, []) := by decide +kernel
theorem r_Model_live_195 : P_Model_live 195 = (none, .ifCond .ne 20, [215]) := by decide +kernel
theorem r_Model_live_198 : P_Model_live 198 = (none, .aload_n 3, []) := by decide +kernel
theorem r_Model_live_199 : P_Model_live 199 = (none, .iload 9, []) := by decide +kernel
theorem r_Model_live_201 : P_Model_live 201 = (none, .iconst 1, []) := by decide +kernel
theorem r_Model_live_202 : P_Model_live 202 = (none, .bastore, []) := by decide +kernel
theorem r_Model_live_203 : P_Model_live 203 = (none, .aload_n 0, []) := by decide +kernel
theorem r_Model_live_204 : P_Model_live 204 = (none, .getfield 69, []) := by decide +kernel
theorem r_Model_live_207 : P_Model_live 207 = (none, .iload 5, []) := by decide +kernel
theorem r_Model_live_209 : P_Model_live 209 = (none, .iload 9, []) := by decide +kernel
theorem r_Model_live_211 : P_Model_live 211 = (none, .iastore, []) := by decide +kernel
theorem r_Model_live_212 : P_Model_live 212 = (none, .iinc 5 1, []) := by decide +kernel
theorem r_Model_live_215 : P_Model_live 215 = (none, .iinc 8 1, []) := by decide +kernel
theorem r_Model_live_218 : P_Model_live 218 = (none, .goto (-56), [162]) := by decide +kernel
theorem r_Model_live_221 : P_Model_live 221 = (none, .goto (-119), [102]) := by decide +kernel
theorem r_Model_live_224 : P_Model_live 224 = (none, .return_, []) := by decide +kernel
def E_Model_live : List (Nat × Ent) := [(524, (3, 3, 0, 0, T_Model_valuesAt)), (536, (3, 1, 0, 0, T_Model_sort)), (608, (3, 0, 0, 0, T_Model_find)), (700, (4, 6, 0, 0, T_Model_target))]
def X_Model_live : Cx := (llk (0, 0, 9) ftX11, llk 99 ntX11, llk none kcX11, llk none klX11, llk dEnt E_Model_live, 7, 3, false)
theorem xok_Model_live : Xok RX11 X_Model_live := xok_of ftX11_ok ntX11_ok kcX11_ok klX11_ok (E := E_Model_live) (List.forall_mem_cons.mpr ⟨co_X11_524, List.forall_mem_cons.mpr ⟨co_X11_536, List.forall_mem_cons.mpr ⟨co_X11_608, List.forall_mem_cons.mpr ⟨co_X11_700, fun _ h => absurd h List.not_mem_nil⟩⟩⟩⟩)
theorem xf_Model_live_47 : xfl X_Model_live 47 = (11, 13, 1) := by decide +kernel
theorem xf_Model_live_50 : xfl X_Model_live 50 = (11, 14, 1) := by decide +kernel
theorem xf_Model_live_56 : xfl X_Model_live 56 = (11, 16, 1) := by decide +kernel
theorem xf_Model_live_59 : xfl X_Model_live 59 = (11, 17, 1) := by decide +kernel
theorem xf_Model_live_69 : xfl X_Model_live 69 = (11, 20, 1) := by decide +kernel
theorem xe_Model_live_524 : xE X_Model_live (4 * 131 + 0) = (3, 3, 0, 0, T_Model_valuesAt) := rfl
theorem xe_Model_live_536 : xE X_Model_live (4 * 134 + 0) = (3, 1, 0, 0, T_Model_sort) := rfl
theorem xe_Model_live_608 : xE X_Model_live (4 * 152 + 0) = (3, 0, 0, 0, T_Model_find) := rfl
theorem xe_Model_live_700 : xE X_Model_live (4 * 175 + 0) = (4, 6, 0, 0, T_Model_target) := rfl
theorem xd_Model_live : xd X_Model_live = 7 := rfl
theorem xrb_Model_live : xrb X_Model_live = 3 := rfl
theorem xin_Model_live : xin X_Model_live = false := rfl
set_option maxHeartbeats 4000000 in
set_option maxRecDepth 100000 in
theorem S_Model_live : Snd yX11_live cX11_live 10 none T_Model_live 7 0 0 := by
  refine snd_of (X := X_Model_live) (P := P_Model_live) (tb := tb_Model_live) (own := RX11) (by decide) rfl rfl (by decide +kernel) xok_Model_live rfl rk3 (fun h => by first | rfl | cases h) ?_
  intro as M k has hM hT0
  obtain ⟨sz, sl, lay, ρ, σ, τ⟩ := M
  obtain ⟨o, as1, e, hlo, hT1⟩ := mkT_r hT0
  clear hT0
  subst e
  obtain ⟨p, as2, e, hT2⟩ := pI_x hT1
  clear hT1
  subst e
  obtain ⟨y, as3, e, hT3⟩ := pI_x hT2
  clear hT2
  subst e
  obtain ⟨a, as4, e, hT4⟩ := pR_x hT3
  clear hT3
  subst e
  obtain ⟨s, as5, e, hT5⟩ := pI_x hT4
  clear hT4
  subst e
  obtain ⟨e, hT⟩ := hT5
  subst e
  replace hlo : lay o = (21, 0) := hlo
  have r_p : -2147483648 ≤ p ∧ p ≤ 2147483647 := has (vI p) (by simp)
  have r_y : -2147483648 ≤ y ∧ y ≤ 2147483647 := has (vI y) (by simp)
  have r_s : -2147483648 ≤ s ∧ s ≤ 2147483647 := has (vI s) (by simp)
  clear has
  replace hM : ∀ a i, -2147483648 ≤ σ a i ∧ σ a i ≤ 2147483647 := hM
  replace hT : TF_Model_live o p y a s sz sl lay ρ σ τ k := hT
  unfold TF_Model_live at hT
  obtain ⟨hL, U, len, st, hS, hR, ha, hs, hy, hT⟩ := hT
  obtain ⟨w0, w1, w2, w3, w4, w5, w6, w7, w8, w9, w10, w11, w12, w13, w14⟩ := (show SW U len st from hS)
  have la : lay a = (3, 600) := by
    rcases ha with e | e
    · rw [e]; exact hL.2.2.2.2.2.2.2.2.2.2.2.2.2.2.2.2.2.2.2.2.2.2.2.2.2.2.2.2.2.2.2.2.2.2.2.2.2.2.2.2.2.2.2.2.1
    · rw [e]; exact hL.2.2.2.2.2.2.2.2.2.2.2.2.2.2.2.2.2.2.2.2.2.2.2.2.2.2.2.2.2.2.2.2.2.2.2.2.2.2.2.2.2.2.2.2.2.1
  have eca : ∀ (s : Nat → Int → Int) (f : Int → Int), fu s (o + 23) f a = s a := fun s f => fu_n (by omega)
  have ec20 : ∀ (s : Nat → Int → Int) (f : Int → Int), fu s (o + 20) f a = s a := fun s f => fu_n (by omega)
  have ea20 : ∀ (s : Nat → Int → Int) (f : Int → Int), fu s a f (o + 20) = s (o + 20) := fun s f => fu_n (by omega)
  obtain ⟨J, hJd⟩ : ∃ J : Nat → List AV → Mm → Prop, J = (fun c vs M1 => (c = 3 ∧ ∃ (i : Int) (σ1 : Nat → Int → Int), LF σ σ1 o a ∧ (0 ≤ i ∧ i ≤ st 0 7) ∧ (∀ x, 0 ≤ x ∧ x < i → σ1 a x = 0) ∧ vs = [vR o, vI p, vI y, vR a, vI s, vI i] ∧ M1 = (sz, sl, lay, ρ, σ1, τ)) ∨ (c = 31 ∧ ∃ (n r : Int) (σ1 : Nat → Int → Int), LF σ σ1 o a ∧ LvI (edg U st s) y (st 0 7) (σ1 a) (σ1 (o + 20)) n ∧ (0 ≤ r ∧ r ≤ st 0 9) ∧ (∀ x, 0 ≤ x ∧ x < st 0 7 → σ1 a x = 1 → (∃ j, (0 ≤ j ∧ j < n) ∧ σ1 (o + 20) j = x)) ∧ (∀ i, 0 ≤ i ∧ i < r → 0 ≤ fn U st (st 3 i) → ¬ fn U st (st 3 i) = y → σ1 a (fn U st (st 3 i)) = 1) ∧ vs = [vR o, vI p, vI y, vR a, vI s, vI n, vI r] ∧ M1 = (sz, sl, lay, ρ, σ1, τ)) ∨ (c = 102 ∧ ∃ (n : Int) (σ1 : Nat → Int → Int), LF σ σ1 o a ∧ LvI (edg U st s) y (st 0 7) (σ1 a) (σ1 (o + 20)) n ∧ (∀ x, 0 ≤ x ∧ x < st 0 7 → σ1 a x = 1 → (∃ j, (0 ≤ j ∧ j < n) ∧ σ1 (o + 20) j = x) ∨ (∀ v, edg U st s x v → ¬ v = y → σ1 a v = 1)) ∧ (∀ v, edg U st s (-1) v → ¬ v = y → σ1 a v = 1) ∧ vs = [vR o, vI p, vI y, vR a, vI s, vI n] ∧ M1 = (sz, sl, lay, ρ, σ1, τ)) ∨ (c = 162 ∧ ∃ (n w i : Int) (σ1 : Nat → Int → Int), LF σ σ1 o a ∧ LvI (edg U st s) y (st 0 7) (σ1 a) (σ1 (o + 20)) n ∧ (∀ x, 0 ≤ x ∧ x < st 0 7 → σ1 a x = 1 → ¬ x = w → (∃ j, (0 ≤ j ∧ j < n) ∧ σ1 (o + 20) j = x) ∨ (∀ v, edg U st s x v → ¬ v = y → σ1 a v = 1)) ∧ (∀ v, edg U st s (-1) v → ¬ v = y → σ1 a v = 1) ∧ ((0 ≤ w ∧ w < st 0 7) ∧ σ1 a w = 1) ∧ (0 ≤ i ∧ i ≤ mny U st s w) ∧ (∀ j, 0 ≤ j ∧ j < i → 0 ≤ tgt U st w j → ¬ tgt U st w j = y → σ1 a (tgt U st w j) = 1) ∧ vs = [vR o, vI p, vI y, vR a, vI s, vI n, vI w, vI (mny U st s w), vI i] ∧ M1 = (sz, sl, lay, ρ, σ1, τ))) := ⟨_, rfl⟩
  obtain ⟨μ, hμ⟩ : ∃ μ : Nat → List AV → Mm → Nat, μ = (fun c vs M => if c = 3 then (900000000 - gI (vs.getD 5 vN)).toNat else if c = 31 then (800000000 - gI (vs.getD 6 vN)).toNat else if c = 102 then (2000 * (2 * cntP (fun x => M.2.2.2.2.1 a x = 0) (st 0 7).toNat + gI (vs.getD 5 vN))).toNat else (2000 * (2 * cntP (fun x => M.2.2.2.2.1 a x = 0) (st 0 7).toNat + gI (vs.getD 5 vN)) + 1 + (gI (vs.getD 7 vN) - gI (vs.getD 8 vN))).toNat) := ⟨_, rfl⟩
  refine ⟨Nat.le_of_ble_eq_true rfl, J, μ, 129, ?_, ?_⟩
  · obtain ⟨mh, mp0, mp2, mp3, mp4, mp5, mp6, mp7, mp8, mp9, mp10, mp11, mp12, mp13, mp14, mp15, mp16, mp17, mp18, mp19, mp20, mp21, mp22, mp24, mp25, mp26, mp27, mq0, mq2, mq3, mq4, mq5, mq6, mq7, mq8, mq9, mq10, mq11, mq12, mq13, mq14, mq15, mq16, mq17, mq18, mq19, mq20, mq21, mq22, mq24, mq25, mq26, mq27⟩ := (show LModel lay ρ _ from hL)
    unfold wps
    simp only [si_iload_n0, si_iload_n1, si_iload_n2, si_iload_n3, si_iload, si_lload_n0, si_lload_n1, si_lload_n2, si_lload_n3, si_lload, si_aload_n0, si_aload_n1, si_aload_n2, si_aload_n3, si_aload, si_istore_n0, si_istore_n1, si_istore_n2, si_istore_n3, si_istore, si_astore_n0, si_astore_n1, si_astore_n2, si_astore_n3, si_astore, si_lstore_n0, si_lstore_n1, si_lstore_n2, si_lstore_n3, si_lstore, si_iconst, si_bipush, si_sipush, si_ldc, si_ldc2_w, si_lconst0, si_lconst1, si_aconst_null, si_iinc, si_dup, si_dup2, si_iadd, si_isub, si_imul, si_idiv, si_irem, si_iand, si_ior, si_ishl, si_ishr, si_ladd, si_lmul, si_lor, si_lxor, si_lshl, si_lushr, si_lcmp, si_i2b, si_i2l, si_l2i, si_icmp_eq, si_icmp_ne, si_icmp_lt, si_icmp_ge, si_icmp_gt, si_icmp_le, si_if_eq, si_if_ne, si_if_lt, si_if_ge, si_if_gt, si_if_le, si_ifnull, si_ifnonnull, si_goto, si_tableswitch, si_lookupswitch, si_getfield, si_putfield, si_getstatic, si_iaload, si_baload, si_laload, si_aaload, si_iastore, si_bastore, si_lastore, si_aastore, si_arraylength, si_new, si_newarray, si_anewarray, si_invokevirtual, si_invokespecial, si_invokestatic, si_ireturn, si_lreturn, si_areturn, si_return_, pI_e, pL_e, pR_e, pA_r, pA_n, pN_n, pN_r, oI_e, oL_e, oA_r, oA_n, lget_e, lrm1_0, lrm2_0, lrm1_i, lrm1_r, lrm1_n, lrm1_l, lrm2_i, lrm2_r, lrm2_n, lrm2_l, popN_0, popN_s, acat_i, acat_l, acat_r, acat_n, stw_0, stw_s, psh_s, psh_n, wgf_r, wgf_i, wgf_b, wgf_n, wgf_m, wpf_i, wpf_r, wpf_b, wnew_e, callE_e, rbk_0, rbk_1, tsw_0, tsw_s, lsw_0, lsw_s, wp_s, wq_t, wq_f, oV_e, pick_0, pick_s, oZ_e, oY_e, r_Model_live_0, r_Model_live_1, r_Model_live_3, r_Model_live_5, r_Model_live_6, r_Model_live_9, r_Model_live_10, r_Model_live_11, r_Model_live_14, r_Model_live_15, r_Model_live_17, r_Model_live_18, r_Model_live_19, r_Model_live_22, r_Model_live_25, r_Model_live_26, r_Model_live_28, r_Model_live_29, r_Model_live_31, r_Model_live_33, r_Model_live_34, r_Model_live_37, r_Model_live_38, r_Model_live_39, r_Model_live_42, r_Model_live_43, r_Model_live_44, r_Model_live_45, r_Model_live_48, r_Model_live_50, r_Model_live_51, r_Model_live_52, r_Model_live_54, r_Model_live_55, r_Model_live_56, r_Model_live_59, r_Model_live_61, r_Model_live_63, r_Model_live_66, r_Model_live_68, r_Model_live_69, r_Model_live_72, r_Model_live_73, r_Model_live_75, r_Model_live_76, r_Model_live_79, r_Model_live_80, r_Model_live_82, r_Model_live_83, r_Model_live_84, r_Model_live_85, r_Model_live_88, r_Model_live_90, r_Model_live_92, r_Model_live_93, r_Model_live_96, r_Model_live_99, r_Model_live_102, r_Model_live_104, r_Model_live_107, r_Model_live_110, r_Model_live_111, r_Model_live_114, r_Model_live_116, r_Model_live_117, r_Model_live_119, r_Model_live_120, r_Model_live_121, r_Model_live_123, r_Model_live_126, r_Model_live_127, r_Model_live_130, r_Model_live_132, r_Model_live_135, r_Model_live_136, r_Model_live_139, r_Model_live_140, r_Model_live_141, r_Model_live_142, r_Model_live_145, r_Model_live_148, r_Model_live_149, r_Model_live_150, r_Model_live_152, r_Model_live_153, r_Model_live_154, r_Model_live_157, r_Model_live_159, r_Model_live_160, r_Model_live_162, r_Model_live_164, r_Model_live_166, r_Model_live_169, r_Model_live_170, r_Model_live_171, r_Model_live_173, r_Model_live_175, r_Model_live_178, r_Model_live_180, r_Model_live_182, r_Model_live_185, r_Model_live_187, r_Model_live_188, r_Model_live_191, r_Model_live_192, r_Model_live_194, r_Model_live_195, r_Model_live_198, r_Model_live_199, r_Model_live_201, r_Model_live_202, r_Model_live_203, r_Model_live_204, r_Model_live_207, r_Model_live_209, r_Model_live_211, r_Model_live_212, r_Model_live_215, r_Model_live_218, r_Model_live_221, r_Model_live_224, xf_Model_live_47, xf_Model_live_50, xf_Model_live_56, xf_Model_live_59, xf_Model_live_69, xe_Model_live_524, xe_Model_live_536, xe_Model_live_608, xe_Model_live_700, xd_Model_live, xrb_Model_live, xin_Model_live, T_Model_valuesAt_e, TF_Model_valuesAt, T_Model_sort_e, TF_Model_sort, T_Model_find_e, TF_Model_find, T_Model_target_e, TF_Model_target, la, eca, ec20, ea20, mh, mp0, mp2, mp3, mp4, mp5, mp6, mp7, mp8, mp9, mp10, mp11, mp12, mp13, mp14, mp15, mp16, mp17, mp18, mp19, mp20, mp21, mp22, mp24, mp25, mp26, mp27, mq0, mq2, mq3, mq4, mq5, mq6, mq7, mq8, mq9, mq10, mq11, mq12, mq13, mq14, mq15, mq16, mq17, mq18, mq19, mq20, mq21, mq22, mq24, mq25, mq26, mq27, Nat.reduceAdd, Nat.reduceMul, Nat.reduceEqDiff, reduceIte, Int.reduceNeg, Int.reduceLE, Int.reduceLT, Int.reduceAdd, Int.reduceSub, Int.reduceToNat, true_and, and_true, inR_e, Nat.reduceLT, Nat.reduceLeDiff, reduceCtorEq, Nat.add_zero, Nat.zero_add, or_false, false_or, or_true, true_or, not_true_eq_false, not_false_eq_true, Classical.not_not, Nat.add_eq_zero_iff, and_false, false_and, Int.reduceEq, List.mem_cons, List.not_mem_nil, forall_eq_or_imp, forall_eq, false_implies, implies_true, forall_const, aargs_0, aargs_i, aargs_r, aargs_l, aargs_n, nfT_e, eq_self, and_self, Nat.le_refl, fu_s, fu_fu, iu_iu, iu_s, fu_am, fu_a0, fu_0a, iu_l, Nat.reduceBEq, Int.reduceBEq, T_objInit_e]
    clear mp0 mp2 mp3 mp4 mp5 mp6 mp7 mp8 mp9 mp10 mp11 mp12 mp13 mp14 mp15 mp16 mp17 mp18 mp19 mp20 mp21 mp22 mp24 mp25 mp26 mp27
    rw [hJd]
    exact Or.inl ⟨rfl, 0, σ, LF.rf, by omega, fun x hx => by omega, rfl, rfl⟩
  · intro cp vs M1 hvs hM1 hlen hJ
    rw [hJd] at hJ
    rcases hJ with ⟨rfl, i, σ1, g1, g2, g3, rfl, rfl⟩ | ⟨rfl, n, r, σ1, g1, g2, g3, g4, g5, rfl, rfl⟩ | ⟨rfl, n, σ1, g1, g2, g3, g4, rfl, rfl⟩ | ⟨rfl, n, w, i, σ1, g1, g2, g3, g4, g5, g6, g7, rfl, rfl⟩
    · have hR1 := g1.mr ha hR
      obtain ⟨hB, hl3, ⟨m4, m5, m6⟩, ⟨m7, m8, m9⟩, m12, ⟨m14, m13⟩, m15, ⟨m17, m16⟩, m26⟩ := (show MR σ1 o p U len st from hR1)
      obtain ⟨b1, b2, b3, b4, b5, b6, b7⟩ := (show MB σ1 o p U len (st 1) from hB)
      (obtain ⟨mh, mp0, mp2, mp3, mp4, mp5, mp6, mp7, mp8, mp9, mp10, mp11, mp12, mp13, mp14, mp15, mp16, mp17, mp18, mp19, mp20, mp21, mp22, mp24, mp25, mp26, mp27, mq0, mq2, mq3, mq4, mq5, mq6, mq7, mq8, mq9, mq10, mq11, mq12, mq13, mq14, mq15, mq16, mq17, mq18, mq19, mq20, mq21, mq22, mq24, mq25, mq26, mq27⟩ := (show LModel lay ρ _ from hL); unfold wps; simp only [Option.getD_some, List.zip_cons_cons, List.zip_nil_left, List.zip_nil_right, List.zip_nil_right, MB_fu, MR_fu, si_iload_n0, si_iload_n1, si_iload_n2, si_iload_n3, si_iload, si_lload_n0, si_lload_n1, si_lload_n2, si_lload_n3, si_lload, si_aload_n0, si_aload_n1, si_aload_n2, si_aload_n3, si_aload, si_istore_n0, si_istore_n1, si_istore_n2, si_istore_n3, si_istore, si_astore_n0, si_astore_n1, si_astore_n2, si_astore_n3, si_astore, si_lstore_n0, si_lstore_n1, si_lstore_n2, si_lstore_n3, si_lstore, si_iconst, si_bipush, si_sipush, si_ldc, si_ldc2_w, si_lconst0, si_lconst1, si_aconst_null, si_iinc, si_dup, si_dup2, si_iadd, si_isub, si_imul, si_idiv, si_irem, si_iand, si_ior, si_ishl, si_ishr, si_ladd, si_lmul, si_lor, si_lxor, si_lshl, si_lushr, si_lcmp, si_i2b, si_i2l, si_l2i, si_icmp_eq, si_icmp_ne, si_icmp_lt, si_icmp_ge, si_icmp_gt, si_icmp_le, si_if_eq, si_if_ne, si_if_lt, si_if_ge, si_if_gt, si_if_le, si_ifnull, si_ifnonnull, si_goto, si_tableswitch, si_lookupswitch, si_getfield, si_putfield, si_getstatic, si_iaload, si_baload, si_laload, si_aaload, si_iastore, si_bastore, si_lastore, si_aastore, si_arraylength, si_new, si_newarray, si_anewarray, si_invokevirtual, si_invokespecial, si_invokestatic, si_ireturn, si_lreturn, si_areturn, si_return_, pI_e, pL_e, pR_e, pA_r, pA_n, pN_n, pN_r, oI_e, oL_e, oA_r, oA_n, lget_e, lrm1_0, lrm2_0, lrm1_i, lrm1_r, lrm1_n, lrm1_l, lrm2_i, lrm2_r, lrm2_n, lrm2_l, popN_0, popN_s, acat_i, acat_l, acat_r, acat_n, stw_0, stw_s, psh_s, psh_n, wgf_r, wgf_i, wgf_b, wgf_n, wgf_m, wpf_i, wpf_r, wpf_b, wnew_e, callE_e, rbk_0, rbk_1, tsw_0, tsw_s, lsw_0, lsw_s, wp_s, wq_t, wq_f, oV_e, pick_0, pick_s, oZ_e, oY_e, r_Model_live_0, r_Model_live_1, r_Model_live_3, r_Model_live_5, r_Model_live_6, r_Model_live_9, r_Model_live_10, r_Model_live_11, r_Model_live_14, r_Model_live_15, r_Model_live_17, r_Model_live_18, r_Model_live_19, r_Model_live_22, r_Model_live_25, r_Model_live_26, r_Model_live_28, r_Model_live_29, r_Model_live_31, r_Model_live_33, r_Model_live_34, r_Model_live_37, r_Model_live_38, r_Model_live_39, r_Model_live_42, r_Model_live_43, r_Model_live_44, r_Model_live_45, r_Model_live_48, r_Model_live_50, r_Model_live_51, r_Model_live_52, r_Model_live_54, r_Model_live_55, r_Model_live_56, r_Model_live_59, r_Model_live_61, r_Model_live_63, r_Model_live_66, r_Model_live_68, r_Model_live_69, r_Model_live_72, r_Model_live_73, r_Model_live_75, r_Model_live_76, r_Model_live_79, r_Model_live_80, r_Model_live_82, r_Model_live_83, r_Model_live_84, r_Model_live_85, r_Model_live_88, r_Model_live_90, r_Model_live_92, r_Model_live_93, r_Model_live_96, r_Model_live_99, r_Model_live_102, r_Model_live_104, r_Model_live_107, r_Model_live_110, r_Model_live_111, r_Model_live_114, r_Model_live_116, r_Model_live_117, r_Model_live_119, r_Model_live_120, r_Model_live_121, r_Model_live_123, r_Model_live_126, r_Model_live_127, r_Model_live_130, r_Model_live_132, r_Model_live_135, r_Model_live_136, r_Model_live_139, r_Model_live_140, r_Model_live_141, r_Model_live_142, r_Model_live_145, r_Model_live_148, r_Model_live_149, r_Model_live_150, r_Model_live_152, r_Model_live_153, r_Model_live_154, r_Model_live_157, r_Model_live_159, r_Model_live_160, r_Model_live_162, r_Model_live_164, r_Model_live_166, r_Model_live_169, r_Model_live_170, r_Model_live_171, r_Model_live_173, r_Model_live_175, r_Model_live_178, r_Model_live_180, r_Model_live_182, r_Model_live_185, r_Model_live_187, r_Model_live_188, r_Model_live_191, r_Model_live_192, r_Model_live_194, r_Model_live_195, r_Model_live_198, r_Model_live_199, r_Model_live_201, r_Model_live_202, r_Model_live_203, r_Model_live_204, r_Model_live_207, r_Model_live_209, r_Model_live_211, r_Model_live_212, r_Model_live_215, r_Model_live_218, r_Model_live_221, r_Model_live_224, xf_Model_live_47, xf_Model_live_50, xf_Model_live_56, xf_Model_live_59, xf_Model_live_69, xe_Model_live_524, xe_Model_live_536, xe_Model_live_608, xe_Model_live_700, xd_Model_live, xrb_Model_live, xin_Model_live, T_Model_valuesAt_e, TF_Model_valuesAt, T_Model_sort_e, TF_Model_sort, T_Model_find_e, TF_Model_find, T_Model_target_e, TF_Model_target, la, eca, ec20, ea20, mh, mp0, mp2, mp3, mp4, mp5, mp6, mp7, mp8, mp9, mp10, mp11, mp12, mp13, mp14, mp15, mp16, mp17, mp18, mp19, mp20, mp21, mp22, mp24, mp25, mp26, mp27, mq0, mq2, mq3, mq4, mq5, mq6, mq7, mq8, mq9, mq10, mq11, mq12, mq13, mq14, mq15, mq16, mq17, mq18, mq19, mq20, mq21, mq22, mq24, mq25, mq26, mq27, Nat.reduceAdd, Nat.reduceMul, Nat.reduceEqDiff, reduceIte, Int.reduceNeg, Int.reduceLE, Int.reduceLT, Int.reduceAdd, Int.reduceSub, Int.reduceToNat, true_and, and_true, inR_e, Nat.reduceLT, Nat.reduceLeDiff, reduceCtorEq, Nat.add_zero, Nat.zero_add, or_false, false_or, or_true, true_or, not_true_eq_false, not_false_eq_true, Classical.not_not, Nat.add_eq_zero_iff, and_false, false_and, Int.reduceEq, List.mem_cons, List.not_mem_nil, forall_eq_or_imp, forall_eq, false_implies, implies_true, forall_const, aargs_0, aargs_i, aargs_r, aargs_l, aargs_n, nfT_e, eq_self, and_self, Nat.le_refl, fu_s, fu_fu, iu_iu, iu_s, fu_am, fu_a0, fu_0a, iu_l, Nat.reduceBEq, Int.reduceBEq, T_objInit_e]; clear mp0 mp2 mp3 mp4 mp5 mp6 mp7 mp8 mp9 mp10 mp11 mp12 mp13 mp14 mp15 mp16 mp17 mp18 mp19 mp20 mp21 mp22 mp24 mp25 mp26 mp27)
      rw [m14]
      refine ⟨by omega, by omega, fun z => ⟨?_, (by rw [hμ]; simp only [gI_e, List.getD_cons_succ, List.getD_cons_zero, Nat.reduceEqDiff, reduceIte, fu_s, eca, ec20]; omega)⟩, fun z => ⟨by omega, by omega, by omega, ?_, (by rw [hμ]; simp only [gI_e, List.getD_cons_succ, List.getD_cons_zero, Nat.reduceEqDiff, reduceIte, fu_s, eca, ec20]; omega)⟩⟩
      · rw [hJd]
        refine Or.inr (Or.inl ⟨rfl, 0, 0, σ1, g1, ⟨fun x hx => Or.inl (g3 x (by omega)), fun x hx h => ?_, by omega, fun j hj => by omega, fun i j hj => by omega⟩, by omega, fun x hx h => ?_, fun i hi => by omega, rfl, rfl⟩)
        · rw [g3 x (by omega)] at h; omega
        · rw [g3 x (by omega)] at h; omega
      · rw [hJd]
        refine Or.inl ⟨rfl, i + 1, _, g1.fu (Or.inl rfl), by omega, fun x hx => ?_, rfl, rfl⟩
        rw [fu_s]
        by_cases e : x = i
        · rw [e, iu_s]
        · rw [iu_n e]; exact g3 x (by omega)
    · have hR1 := g1.mr ha hR
      obtain ⟨hB, hl3, ⟨m4, m5, m6⟩, ⟨m7, m8, m9⟩, m12, ⟨m14, m13⟩, m15, ⟨m17, m16⟩, m26⟩ := (show MR σ1 o p U len st from hR1)
      obtain ⟨b1, b2, b3, b4, b5, b6, b7⟩ := (show MB σ1 o p U len (st 1) from hB)
      have nl := g2.nle w9.1
      have n0 := g2.2.2.1
      have cR := cntP_R (P := fun x => σ1 a x = 0) (N := (st 0 7).toNat)
      (obtain ⟨mh, mp0, mp2, mp3, mp4, mp5, mp6, mp7, mp8, mp9, mp10, mp11, mp12, mp13, mp14, mp15, mp16, mp17, mp18, mp19, mp20, mp21, mp22, mp24, mp25, mp26, mp27, mq0, mq2, mq3, mq4, mq5, mq6, mq7, mq8, mq9, mq10, mq11, mq12, mq13, mq14, mq15, mq16, mq17, mq18, mq19, mq20, mq21, mq22, mq24, mq25, mq26, mq27⟩ := (show LModel lay ρ _ from hL); unfold wps; simp only [Option.getD_some, List.zip_cons_cons, List.zip_nil_left, List.zip_nil_right, List.zip_nil_right, MB_fu, MR_fu, si_iload_n0, si_iload_n1, si_iload_n2, si_iload_n3, si_iload, si_lload_n0, si_lload_n1, si_lload_n2, si_lload_n3, si_lload, si_aload_n0, si_aload_n1, si_aload_n2, si_aload_n3, si_aload, si_istore_n0, si_istore_n1, si_istore_n2, si_istore_n3, si_istore, si_astore_n0, si_astore_n1, si_astore_n2, si_astore_n3, si_astore, si_lstore_n0, si_lstore_n1, si_lstore_n2, si_lstore_n3, si_lstore, si_iconst, si_bipush, si_sipush, si_ldc, si_ldc2_w, si_lconst0, si_lconst1, si_aconst_null, si_iinc, si_dup, si_dup2, si_iadd, si_isub, si_imul, si_idiv, si_irem, si_iand, si_ior, si_ishl, si_ishr, si_ladd, si_lmul, si_lor, si_lxor, si_lshl, si_lushr, si_lcmp, si_i2b, si_i2l, si_l2i, si_icmp_eq, si_icmp_ne, si_icmp_lt, si_icmp_ge, si_icmp_gt, si_icmp_le, si_if_eq, si_if_ne, si_if_lt, si_if_ge, si_if_gt, si_if_le, si_ifnull, si_ifnonnull, si_goto, si_tableswitch, si_lookupswitch, si_getfield, si_putfield, si_getstatic, si_iaload, si_baload, si_laload, si_aaload, si_iastore, si_bastore, si_lastore, si_aastore, si_arraylength, si_new, si_newarray, si_anewarray, si_invokevirtual, si_invokespecial, si_invokestatic, si_ireturn, si_lreturn, si_areturn, si_return_, pI_e, pL_e, pR_e, pA_r, pA_n, pN_n, pN_r, oI_e, oL_e, oA_r, oA_n, lget_e, lrm1_0, lrm2_0, lrm1_i, lrm1_r, lrm1_n, lrm1_l, lrm2_i, lrm2_r, lrm2_n, lrm2_l, popN_0, popN_s, acat_i, acat_l, acat_r, acat_n, stw_0, stw_s, psh_s, psh_n, wgf_r, wgf_i, wgf_b, wgf_n, wgf_m, wpf_i, wpf_r, wpf_b, wnew_e, callE_e, rbk_0, rbk_1, tsw_0, tsw_s, lsw_0, lsw_s, wp_s, wq_t, wq_f, oV_e, pick_0, pick_s, oZ_e, oY_e, r_Model_live_0, r_Model_live_1, r_Model_live_3, r_Model_live_5, r_Model_live_6, r_Model_live_9, r_Model_live_10, r_Model_live_11, r_Model_live_14, r_Model_live_15, r_Model_live_17, r_Model_live_18, r_Model_live_19, r_Model_live_22, r_Model_live_25, r_Model_live_26, r_Model_live_28, r_Model_live_29, r_Model_live_31, r_Model_live_33, r_Model_live_34, r_Model_live_37, r_Model_live_38, r_Model_live_39, r_Model_live_42, r_Model_live_43, r_Model_live_44, r_Model_live_45, r_Model_live_48, r_Model_live_50, r_Model_live_51, r_Model_live_52, r_Model_live_54, r_Model_live_55, r_Model_live_56, r_Model_live_59, r_Model_live_61, r_Model_live_63, r_Model_live_66, r_Model_live_68, r_Model_live_69, r_Model_live_72, r_Model_live_73, r_Model_live_75, r_Model_live_76, r_Model_live_79, r_Model_live_80, r_Model_live_82, r_Model_live_83, r_Model_live_84, r_Model_live_85, r_Model_live_88, r_Model_live_90, r_Model_live_92, r_Model_live_93, r_Model_live_96, r_Model_live_99, r_Model_live_102, r_Model_live_104, r_Model_live_107, r_Model_live_110, r_Model_live_111, r_Model_live_114, r_Model_live_116, r_Model_live_117, r_Model_live_119, r_Model_live_120, r_Model_live_121, r_Model_live_123, r_Model_live_126, r_Model_live_127, r_Model_live_130, r_Model_live_132, r_Model_live_135, r_Model_live_136, r_Model_live_139, r_Model_live_140, r_Model_live_141, r_Model_live_142, r_Model_live_145, r_Model_live_148, r_Model_live_149, r_Model_live_150, r_Model_live_152, r_Model_live_153, r_Model_live_154, r_Model_live_157, r_Model_live_159, r_Model_live_160, r_Model_live_162, r_Model_live_164, r_Model_live_166, r_Model_live_169, r_Model_live_170, r_Model_live_171, r_Model_live_173, r_Model_live_175, r_Model_live_178, r_Model_live_180, r_Model_live_182, r_Model_live_185, r_Model_live_187, r_Model_live_188, r_Model_live_191, r_Model_live_192, r_Model_live_194, r_Model_live_195, r_Model_live_198, r_Model_live_199, r_Model_live_201, r_Model_live_202, r_Model_live_203, r_Model_live_204, r_Model_live_207, r_Model_live_209, r_Model_live_211, r_Model_live_212, r_Model_live_215, r_Model_live_218, r_Model_live_221, r_Model_live_224, xf_Model_live_47, xf_Model_live_50, xf_Model_live_56, xf_Model_live_59, xf_Model_live_69, xe_Model_live_524, xe_Model_live_536, xe_Model_live_608, xe_Model_live_700, xd_Model_live, xrb_Model_live, xin_Model_live, T_Model_valuesAt_e, TF_Model_valuesAt, T_Model_sort_e, TF_Model_sort, T_Model_find_e, TF_Model_find, T_Model_target_e, TF_Model_target, la, eca, ec20, ea20, mh, mp0, mp2, mp3, mp4, mp5, mp6, mp7, mp8, mp9, mp10, mp11, mp12, mp13, mp14, mp15, mp16, mp17, mp18, mp19, mp20, mp21, mp22, mp24, mp25, mp26, mp27, mq0, mq2, mq3, mq4, mq5, mq6, mq7, mq8, mq9, mq10, mq11, mq12, mq13, mq14, mq15, mq16, mq17, mq18, mq19, mq20, mq21, mq22, mq24, mq25, mq26, mq27, Nat.reduceAdd, Nat.reduceMul, Nat.reduceEqDiff, reduceIte, Int.reduceNeg, Int.reduceLE, Int.reduceLT, Int.reduceAdd, Int.reduceSub, Int.reduceToNat, true_and, and_true, inR_e, Nat.reduceLT, Nat.reduceLeDiff, reduceCtorEq, Nat.add_zero, Nat.zero_add, or_false, false_or, or_true, true_or, not_true_eq_false, not_false_eq_true, Classical.not_not, Nat.add_eq_zero_iff, and_false, false_and, Int.reduceEq, List.mem_cons, List.not_mem_nil, forall_eq_or_imp, forall_eq, false_implies, implies_true, forall_const, aargs_0, aargs_i, aargs_r, aargs_l, aargs_n, nfT_e, eq_self, and_self, Nat.le_refl, fu_s, fu_fu, iu_iu, iu_s, fu_am, fu_a0, fu_0a, iu_l, Nat.reduceBEq, Int.reduceBEq, T_objInit_e]; clear mp0 mp2 mp3 mp4 mp5 mp6 mp7 mp8 mp9 mp10 mp11 mp12 mp13 mp14 mp15 mp16 mp17 mp18 mp19 mp20 mp21 mp22 mp24 mp25 mp26 mp27)
      rw [m17]
      refine ⟨by omega, by omega, fun z => ⟨?_, (by rw [hμ]; simp only [gI_e, List.getD_cons_succ, List.getD_cons_zero, Nat.reduceEqDiff, reduceIte, fu_s, eca, ec20]; omega)⟩, fun z => ?_⟩
      · rw [hJd]
        refine Or.inr (Or.inr (Or.inl ⟨rfl, n, σ1, g1, g2, fun x hx h => Or.inl (g4 x hx h), fun v hv ny => ?_, rfl, rfl⟩))
        rcases hv with ⟨_, h0, r2, hr2, e⟩ | ⟨h, _⟩
        · rw [← e]
          exact g5 r2 (by omega) (by omega) (by rw [e]; exact ny)
        · omega
      · rw [m16 r (by omega)]
        have skip : (0 ≤ fn U st (st 3 r) → ¬ fn U st (st 3 r) = y → σ1 a (fn U st (st 3 r)) = 1) → J 31 [vR o, vI p, vI y, vR a, vI s, vI n, vI (r + 1)] (sz, sl, lay, ρ, σ1, τ) := by
          intro h
          rw [hJd]
          refine Or.inr (Or.inl ⟨rfl, n, r + 1, σ1, g1, g2, by omega, g4, fun i hi => ?_, rfl, rfl⟩)
          by_cases e : i = r
          · rw [e]; exact h
          · exact g5 i (by omega)
        have fR := hS.fnR (st 3 r)
        refine ⟨by omega, by omega, by omega, by omega, hL, b1, fun hx => by rw [m26 _ hx]; omega, fun hx => ?_, fun hx => ?_⟩
        · rw [m26 _ hx, Int.add_sub_cancel]
          refine ⟨fun h => ⟨by omega, skip (fun z => by omega), (by rw [hμ]; simp only [gI_e, List.getD_cons_succ, List.getD_cons_zero, Nat.reduceEqDiff, reduceIte, fu_s, eca, ec20]; omega)⟩, fun h => ⟨fun h2 => ⟨by omega, skip (fun _ z => absurd h2 z), (by rw [hμ]; simp only [gI_e, List.getD_cons_succ, List.getD_cons_zero, Nat.reduceEqDiff, reduceIte, fu_s, eca, ec20]; omega)⟩, fun h2 => ⟨by omega, by omega, fun h3 => ⟨by omega, skip (fun _ _ => ?_), (by rw [hμ]; simp only [gI_e, List.getD_cons_succ, List.getD_cons_zero, Nat.reduceEqDiff, reduceIte, fu_s, eca, ec20]; omega)⟩, fun h3 => ?_⟩⟩⟩
          · rcases g2.1 (fn U st (st 3 r)) (by omega) with q | q
            · exact absurd q h3
            · exact q
          · have hra : RA (edg U st s) y (fn U st (st 3 r)) := RA.go RA.st (Or.inl ⟨rfl, by omega, r, by omega, rfl⟩) h2
            obtain ⟨p1, p2, p3⟩ := g2.push (v := fn U st (st 3 r)) (by omega) h3 hra
            refine ⟨by omega, by omega, by omega, by omega, by omega, by omega, ?_, (by rw [hμ]; simp only [gI_e, List.getD_cons_succ, List.getD_cons_zero, Nat.reduceEqDiff, reduceIte, fu_s, eca, ec20]; omega)⟩
            rw [hJd]
            refine Or.inr (Or.inl ⟨rfl, n + 1, r + 1, _, (g1.fu (Or.inl rfl)).fu (Or.inr (Or.inl rfl)), ?_, by omega, ?_, ?_, rfl, rfl⟩)
            · simp only [fu_s, eca, ec20, ea20]
              exact p1
            · simp only [fu_s, eca, ec20, ea20]
              intro x hx h
              by_cases e : x = fn U st (st 3 r)
              · exact ⟨n, by omega, by rw [iu_s, e]⟩
              · rw [iu_n e] at h
                obtain ⟨j, hj, ej⟩ := g4 x hx h
                exact ⟨j, by omega, by rw [iu_n (by omega)]; exact ej⟩
            · simp only [fu_s, eca, ec20, ea20]
              intro i hi h0 hny
              by_cases e : fn U st (st 3 i) = fn U st (st 3 r)
              · rw [e, iu_s]
              · rw [iu_n e]
                by_cases e2 : i = r
                · exact absurd (by rw [e2]) e
                · exact g5 i (by omega) h0 hny
        · exact ⟨by omega, skip (fun z => by rw [hS.fn0 hx] at z; omega), (by rw [hμ]; simp only [gI_e, List.getD_cons_succ, List.getD_cons_zero, Nat.reduceEqDiff, reduceIte, fu_s, eca, ec20]; omega)⟩
    · have hR1 := g1.mr ha hR
      obtain ⟨hB, hl3, ⟨m4, m5, m6⟩, ⟨m7, m8, m9⟩, m12, ⟨m14, m13⟩, m15, ⟨m17, m16⟩, m26⟩ := (show MR σ1 o p U len st from hR1)
      obtain ⟨b1, b2, b3, b4, b5, b6, b7⟩ := (show MB σ1 o p U len (st 1) from hB)
      have nl := g2.nle w9.1
      have n0 := g2.2.2.1
      have cR := cntP_R (P := fun x => σ1 a x = 0) (N := (st 0 7).toNat)
      (obtain ⟨mh, mp0, mp2, mp3, mp4, mp5, mp6, mp7, mp8, mp9, mp10, mp11, mp12, mp13, mp14, mp15, mp16, mp17, mp18, mp19, mp20, mp21, mp22, mp24, mp25, mp26, mp27, mq0, mq2, mq3, mq4, mq5, mq6, mq7, mq8, mq9, mq10, mq11, mq12, mq13, mq14, mq15, mq16, mq17, mq18, mq19, mq20, mq21, mq22, mq24, mq25, mq26, mq27⟩ := (show LModel lay ρ _ from hL); unfold wps; simp only [Option.getD_some, List.zip_cons_cons, List.zip_nil_left, List.zip_nil_right, List.zip_nil_right, MB_fu, MR_fu, si_iload_n0, si_iload_n1, si_iload_n2, si_iload_n3, si_iload, si_lload_n0, si_lload_n1, si_lload_n2, si_lload_n3, si_lload, si_aload_n0, si_aload_n1, si_aload_n2, si_aload_n3, si_aload, si_istore_n0, si_istore_n1, si_istore_n2, si_istore_n3, si_istore, si_astore_n0, si_astore_n1, si_astore_n2, si_astore_n3, si_astore, si_lstore_n0, si_lstore_n1, si_lstore_n2, si_lstore_n3, si_lstore, si_iconst, si_bipush, si_sipush, si_ldc, si_ldc2_w, si_lconst0, si_lconst1, si_aconst_null, si_iinc, si_dup, si_dup2, si_iadd, si_isub, si_imul, si_idiv, si_irem, si_iand, si_ior, si_ishl, si_ishr, si_ladd, si_lmul, si_lor, si_lxor, si_lshl, si_lushr, si_lcmp, si_i2b, si_i2l, si_l2i, si_icmp_eq, si_icmp_ne, si_icmp_lt, si_icmp_ge, si_icmp_gt, si_icmp_le, si_if_eq, si_if_ne, si_if_lt, si_if_ge, si_if_gt, si_if_le, si_ifnull, si_ifnonnull, si_goto, si_tableswitch, si_lookupswitch, si_getfield, si_putfield, si_getstatic, si_iaload, si_baload, si_laload, si_aaload, si_iastore, si_bastore, si_lastore, si_aastore, si_arraylength, si_new, si_newarray, si_anewarray, si_invokevirtual, si_invokespecial, si_invokestatic, si_ireturn, si_lreturn, si_areturn, si_return_, pI_e, pL_e, pR_e, pA_r, pA_n, pN_n, pN_r, oI_e, oL_e, oA_r, oA_n, lget_e, lrm1_0, lrm2_0, lrm1_i, lrm1_r, lrm1_n, lrm1_l, lrm2_i, lrm2_r, lrm2_n, lrm2_l, popN_0, popN_s, acat_i, acat_l, acat_r, acat_n, stw_0, stw_s, psh_s, psh_n, wgf_r, wgf_i, wgf_b, wgf_n, wgf_m, wpf_i, wpf_r, wpf_b, wnew_e, callE_e, rbk_0, rbk_1, tsw_0, tsw_s, lsw_0, lsw_s, wp_s, wq_t, wq_f, oV_e, pick_0, pick_s, oZ_e, oY_e, r_Model_live_0, r_Model_live_1, r_Model_live_3, r_Model_live_5, r_Model_live_6, r_Model_live_9, r_Model_live_10, r_Model_live_11, r_Model_live_14, r_Model_live_15, r_Model_live_17, r_Model_live_18, r_Model_live_19, r_Model_live_22, r_Model_live_25, r_Model_live_26, r_Model_live_28, r_Model_live_29, r_Model_live_31, r_Model_live_33, r_Model_live_34, r_Model_live_37, r_Model_live_38, r_Model_live_39, r_Model_live_42, r_Model_live_43, r_Model_live_44, r_Model_live_45, r_Model_live_48, r_Model_live_50, r_Model_live_51, r_Model_live_52, r_Model_live_54, r_Model_live_55, r_Model_live_56, r_Model_live_59, r_Model_live_61, r_Model_live_63, r_Model_live_66, r_Model_live_68, r_Model_live_69, r_Model_live_72, r_Model_live_73, r_Model_live_75, r_Model_live_76, r_Model_live_79, r_Model_live_80, r_Model_live_82, r_Model_live_83, r_Model_live_84, r_Model_live_85, r_Model_live_88, r_Model_live_90, r_Model_live_92, r_Model_live_93, r_Model_live_96, r_Model_live_99, r_Model_live_102, r_Model_live_104, r_Model_live_107, r_Model_live_110, r_Model_live_111, r_Model_live_114, r_Model_live_116, r_Model_live_117, r_Model_live_119, r_Model_live_120, r_Model_live_121, r_Model_live_123, r_Model_live_126, r_Model_live_127, r_Model_live_130, r_Model_live_132, r_Model_live_135, r_Model_live_136, r_Model_live_139, r_Model_live_140, r_Model_live_141, r_Model_live_142, r_Model_live_145, r_Model_live_148, r_Model_live_149, r_Model_live_150, r_Model_live_152, r_Model_live_153, r_Model_live_154, r_Model_live_157, r_Model_live_159, r_Model_live_160, r_Model_live_162, r_Model_live_164, r_Model_live_166, r_Model_live_169, r_Model_live_170, r_Model_live_171, r_Model_live_173, r_Model_live_175, r_Model_live_178, r_Model_live_180, r_Model_live_182, r_Model_live_185, r_Model_live_187, r_Model_live_188, r_Model_live_191, r_Model_live_192, r_Model_live_194, r_Model_live_195, r_Model_live_198, r_Model_live_199, r_Model_live_201, r_Model_live_202, r_Model_live_203, r_Model_live_204, r_Model_live_207, r_Model_live_209, r_Model_live_211, r_Model_live_212, r_Model_live_215, r_Model_live_218, r_Model_live_221, r_Model_live_224, xf_Model_live_47, xf_Model_live_50, xf_Model_live_56, xf_Model_live_59, xf_Model_live_69, xe_Model_live_524, xe_Model_live_536, xe_Model_live_608, xe_Model_live_700, xd_Model_live, xrb_Model_live, xin_Model_live, T_Model_valuesAt_e, TF_Model_valuesAt, T_Model_sort_e, TF_Model_sort, T_Model_find_e, TF_Model_find, T_Model_target_e, TF_Model_target, la, eca, ec20, ea20, mh, mp0, mp2, mp3, mp4, mp5, mp6, mp7, mp8, mp9, mp10, mp11, mp12, mp13, mp14, mp15, mp16, mp17, mp18, mp19, mp20, mp21, mp22, mp24, mp25, mp26, mp27, mq0, mq2, mq3, mq4, mq5, mq6, mq7, mq8, mq9, mq10, mq11, mq12, mq13, mq14, mq15, mq16, mq17, mq18, mq19, mq20, mq21, mq22, mq24, mq25, mq26, mq27, Nat.reduceAdd, Nat.reduceMul, Nat.reduceEqDiff, reduceIte, Int.reduceNeg, Int.reduceLE, Int.reduceLT, Int.reduceAdd, Int.reduceSub, Int.reduceToNat, true_and, and_true, inR_e, Nat.reduceLT, Nat.reduceLeDiff, reduceCtorEq, Nat.add_zero, Nat.zero_add, or_false, false_or, or_true, true_or, not_true_eq_false, not_false_eq_true, Classical.not_not, Nat.add_eq_zero_iff, and_false, false_and, Int.reduceEq, List.mem_cons, List.not_mem_nil, forall_eq_or_imp, forall_eq, false_implies, implies_true, forall_const, aargs_0, aargs_i, aargs_r, aargs_l, aargs_n, nfT_e, eq_self, and_self, Nat.le_refl, fu_s, fu_fu, iu_iu, iu_s, fu_am, fu_a0, fu_0a, iu_l, Nat.reduceBEq, Int.reduceBEq, T_objInit_e]; clear mp0 mp2 mp3 mp4 mp5 mp6 mp7 mp8 mp9 mp10 mp11 mp12 mp13 mp14 mp15 mp16 mp17 mp18 mp19 mp20 mp21 mp22 mp24 mp25 mp26 mp27)
      refine ⟨fun z => hT σ1 g1 (fun x hx => ⟨g2.1 x hx, g2.2.1 x hx, fun h => ?_⟩), fun z => ?_⟩
      · have key : x = -1 ∨ σ1 a x = 1 := RA.ind (P := fun x => x = -1 ∨ σ1 a x = 1) (Or.inl rfl) (fun u v hu ih he hny => Or.inr (by
          rcases ih with e | e
          · rw [e] at he; exact g4 v he hny
          · rcases he with ⟨q, _⟩ | he
            · exact g4 v (Or.inl ⟨rfl, ‹_›⟩) hny
            · rcases g3 u he.1 e with ⟨j, hj, _⟩ | q
              · omega
              · exact q v (Or.inr he) hny)) h
        rcases key with e | e
        · omega
        · exact e
      · have hw := g2.2.2.2.1 (n + -1) (by omega)
        generalize hwe : σ1 (o + 20) (n + -1) = w at *
        have tv := hS.tv hw.1
        have t0 := tv.1.2.1
        have t4 := tv.1.2.2.1
        have nv := tv.1.1.nv b5
        have jn : ∀ c : Int → Int, J 162 [vR o, vI p, vI y, vR a, vI s, vI (n + -1), vI w, vI (mny U st s w), vI 0] (sz, sl, lay, ρ, fu σ1 (o + 23) c, τ) := by
          intro c
          rw [hJd]
          refine Or.inr (Or.inr (Or.inr ⟨rfl, n + -1, w, 0, _, g1.fu (Or.inr (Or.inr rfl)), ?_, ?_, ?_, ⟨hw.1, ?_⟩, ⟨by omega, by unfold mny; split <;> omega⟩, fun j hj => by omega, rfl, rfl⟩))
          · simp only [eca, fu_am, Nat.reduceBEq]
            have := g2.pop (by omega)
            rw [show n - 1 = n + -1 by omega] at this
            exact this
          · simp only [eca, fu_am, Nat.reduceBEq]
            intro x hx h hxw
            rcases g3 x hx h with ⟨j, hj, ej⟩ | q
            · exact Or.inl ⟨j, ⟨hj.1, by
                by_cases e : j = n + -1
                · rw [e, hwe] at ej; exact absurd ej.symm hxw
                · omega⟩, ej⟩
            · exact Or.inr q
          · simp only [eca]; exact g4
          · simp only [eca]; exact hw.2
        have mq := m13 w hw.1
        rw [mq]
        have e1 : ¬ (srt U (st 2 w) = 2 ∧ s = 0) → mny U st s w = nV U (st 1) (st 2 w) := fun h => by unfold mny; rw [if_neg h]
        refine ⟨by omega, by omega, by omega, hL, U, len, st 1, hB, by omega, by omega, fun e => ⟨by omega, by omega, by omega, by omega, hL, U, len, st 1, hB, tv.1, fun c => ⟨?_, (by rw [hμ]; simp only [gI_e, List.getD_cons_succ, List.getD_cons_zero, Nat.reduceEqDiff, reduceIte, fu_s, eca, ec20]; omega)⟩⟩, fun e => ⟨fun e0 => ⟨by omega, by omega, by omega, by omega, hL, U, len, st 1, hB, tv.1, fun c => ⟨?_, (by rw [hμ]; simp only [gI_e, List.getD_cons_succ, List.getD_cons_zero, Nat.reduceEqDiff, reduceIte, fu_s, eca, ec20]; omega)⟩⟩, fun e0 => ⟨?_, (by rw [hμ]; simp only [gI_e, List.getD_cons_succ, List.getD_cons_zero, Nat.reduceEqDiff, reduceIte, fu_s, eca, ec20]; omega)⟩⟩⟩
        · rw [← e1 (fun h => e h.1)]; exact jn c
        · rw [← e1 (fun h => e0 h.2)]; exact jn c
        · have := jn (σ1 (o + 23))
          rw [fu_self] at this
          unfold mny at this
          rw [if_pos ⟨e, e0⟩] at this
          exact this
    · have hR1 := g1.mr ha hR
      obtain ⟨hB, hl3, ⟨m4, m5, m6⟩, ⟨m7, m8, m9⟩, m12, ⟨m14, m13⟩, m15, ⟨m17, m16⟩, m26⟩ := (show MR σ1 o p U len st from hR1)
      obtain ⟨b1, b2, b3, b4, b5, b6, b7⟩ := (show MB σ1 o p U len (st 1) from hB)
      have nl := g2.nle w9.1
      have n0 := g2.2.2.1
      have cR := cntP_R (P := fun x => σ1 a x = 0) (N := (st 0 7).toNat)
      have nv := (hS.tv g5.1).1.1.nv b5
      have hm : (mny U st s w = 0 ∧ (srt U (st 2 w) = 2 ∧ s = 0)) ∨ (mny U st s w = nV U (st 1) (st 2 w) ∧ ¬ (srt U (st 2 w) = 2 ∧ s = 0)) := by
        unfold mny
        by_cases h : srt U (st 2 w) = 2 ∧ s = 0
        · rw [if_pos h]; exact Or.inl ⟨rfl, h⟩
        · rw [if_neg h]; exact Or.inr ⟨rfl, h⟩
      (obtain ⟨mh, mp0, mp2, mp3, mp4, mp5, mp6, mp7, mp8, mp9, mp10, mp11, mp12, mp13, mp14, mp15, mp16, mp17, mp18, mp19, mp20, mp21, mp22, mp24, mp25, mp26, mp27, mq0, mq2, mq3, mq4, mq5, mq6, mq7, mq8, mq9, mq10, mq11, mq12, mq13, mq14, mq15, mq16, mq17, mq18, mq19, mq20, mq21, mq22, mq24, mq25, mq26, mq27⟩ := (show LModel lay ρ _ from hL); unfold wps; simp only [Option.getD_some, List.zip_cons_cons, List.zip_nil_left, List.zip_nil_right, List.zip_nil_right, MB_fu, MR_fu, si_iload_n0, si_iload_n1, si_iload_n2, si_iload_n3, si_iload, si_lload_n0, si_lload_n1, si_lload_n2, si_lload_n3, si_lload, si_aload_n0, si_aload_n1, si_aload_n2, si_aload_n3, si_aload, si_istore_n0, si_istore_n1, si_istore_n2, si_istore_n3, si_istore, si_astore_n0, si_astore_n1, si_astore_n2, si_astore_n3, si_astore, si_lstore_n0, si_lstore_n1, si_lstore_n2, si_lstore_n3, si_lstore, si_iconst, si_bipush, si_sipush, si_ldc, si_ldc2_w, si_lconst0, si_lconst1, si_aconst_null, si_iinc, si_dup, si_dup2, si_iadd, si_isub, si_imul, si_idiv, si_irem, si_iand, si_ior, si_ishl, si_ishr, si_ladd, si_lmul, si_lor, si_lxor, si_lshl, si_lushr, si_lcmp, si_i2b, si_i2l, si_l2i, si_icmp_eq, si_icmp_ne, si_icmp_lt, si_icmp_ge, si_icmp_gt, si_icmp_le, si_if_eq, si_if_ne, si_if_lt, si_if_ge, si_if_gt, si_if_le, si_ifnull, si_ifnonnull, si_goto, si_tableswitch, si_lookupswitch, si_getfield, si_putfield, si_getstatic, si_iaload, si_baload, si_laload, si_aaload, si_iastore, si_bastore, si_lastore, si_aastore, si_arraylength, si_new, si_newarray, si_anewarray, si_invokevirtual, si_invokespecial, si_invokestatic, si_ireturn, si_lreturn, si_areturn, si_return_, pI_e, pL_e, pR_e, pA_r, pA_n, pN_n, pN_r, oI_e, oL_e, oA_r, oA_n, lget_e, lrm1_0, lrm2_0, lrm1_i, lrm1_r, lrm1_n, lrm1_l, lrm2_i, lrm2_r, lrm2_n, lrm2_l, popN_0, popN_s, acat_i, acat_l, acat_r, acat_n, stw_0, stw_s, psh_s, psh_n, wgf_r, wgf_i, wgf_b, wgf_n, wgf_m, wpf_i, wpf_r, wpf_b, wnew_e, callE_e, rbk_0, rbk_1, tsw_0, tsw_s, lsw_0, lsw_s, wp_s, wq_t, wq_f, oV_e, pick_0, pick_s, oZ_e, oY_e, r_Model_live_0, r_Model_live_1, r_Model_live_3, r_Model_live_5, r_Model_live_6, r_Model_live_9, r_Model_live_10, r_Model_live_11, r_Model_live_14, r_Model_live_15, r_Model_live_17, r_Model_live_18, r_Model_live_19, r_Model_live_22, r_Model_live_25, r_Model_live_26, r_Model_live_28, r_Model_live_29, r_Model_live_31, r_Model_live_33, r_Model_live_34, r_Model_live_37, r_Model_live_38, r_Model_live_39, r_Model_live_42, r_Model_live_43, r_Model_live_44, r_Model_live_45, r_Model_live_48, r_Model_live_50, r_Model_live_51, r_Model_live_52, r_Model_live_54, r_Model_live_55, r_Model_live_56, r_Model_live_59, r_Model_live_61, r_Model_live_63, r_Model_live_66, r_Model_live_68, r_Model_live_69, r_Model_live_72, r_Model_live_73, r_Model_live_75, r_Model_live_76, r_Model_live_79, r_Model_live_80, r_Model_live_82, r_Model_live_83, r_Model_live_84, r_Model_live_85, r_Model_live_88, r_Model_live_90, r_Model_live_92, r_Model_live_93, r_Model_live_96, r_Model_live_99, r_Model_live_102, r_Model_live_104, r_Model_live_107, r_Model_live_110, r_Model_live_111, r_Model_live_114, r_Model_live_116, r_Model_live_117, r_Model_live_119, r_Model_live_120, r_Model_live_121, r_Model_live_123, r_Model_live_126, r_Model_live_127, r_Model_live_130, r_Model_live_132, r_Model_live_135, r_Model_live_136, r_Model_live_139, r_Model_live_140, r_Model_live_141, r_Model_live_142, r_Model_live_145, r_Model_live_148, r_Model_live_149, r_Model_live_150, r_Model_live_152, r_Model_live_153, r_Model_live_154, r_Model_live_157, r_Model_live_159, r_Model_live_160, r_Model_live_162, r_Model_live_164, r_Model_live_166, r_Model_live_169, r_Model_live_170, r_Model_live_171, r_Model_live_173, r_Model_live_175, r_Model_live_178, r_Model_live_180, r_Model_live_182, r_Model_live_185, r_Model_live_187, r_Model_live_188, r_Model_live_191, r_Model_live_192, r_Model_live_194, r_Model_live_195, r_Model_live_198, r_Model_live_199, r_Model_live_201, r_Model_live_202, r_Model_live_203, r_Model_live_204, r_Model_live_207, r_Model_live_209, r_Model_live_211, r_Model_live_212, r_Model_live_215, r_Model_live_218, r_Model_live_221, r_Model_live_224, xf_Model_live_47, xf_Model_live_50, xf_Model_live_56, xf_Model_live_59, xf_Model_live_69, xe_Model_live_524, xe_Model_live_536, xe_Model_live_608, xe_Model_live_700, xd_Model_live, xrb_Model_live, xin_Model_live, T_Model_valuesAt_e, TF_Model_valuesAt, T_Model_sort_e, TF_Model_sort, T_Model_find_e, TF_Model_find, T_Model_target_e, TF_Model_target, la, eca, ec20, ea20, mh, mp0, mp2, mp3, mp4, mp5, mp6, mp7, mp8, mp9, mp10, mp11, mp12, mp13, mp14, mp15, mp16, mp17, mp18, mp19, mp20, mp21, mp22, mp24, mp25, mp26, mp27, mq0, mq2, mq3, mq4, mq5, mq6, mq7, mq8, mq9, mq10, mq11, mq12, mq13, mq14, mq15, mq16, mq17, mq18, mq19, mq20, mq21, mq22, mq24, mq25, mq26, mq27, Nat.reduceAdd, Nat.reduceMul, Nat.reduceEqDiff, reduceIte, Int.reduceNeg, Int.reduceLE, Int.reduceLT, Int.reduceAdd, Int.reduceSub, Int.reduceToNat, true_and, and_true, inR_e, Nat.reduceLT, Nat.reduceLeDiff, reduceCtorEq, Nat.add_zero, Nat.zero_add, or_false, false_or, or_true, true_or, not_true_eq_false, not_false_eq_true, Classical.not_not, Nat.add_eq_zero_iff, and_false, false_and, Int.reduceEq, List.mem_cons, List.not_mem_nil, forall_eq_or_imp, forall_eq, false_implies, implies_true, forall_const, aargs_0, aargs_i, aargs_r, aargs_l, aargs_n, nfT_e, eq_self, and_self, Nat.le_refl, fu_s, fu_fu, iu_iu, iu_s, fu_am, fu_a0, fu_0a, iu_l, Nat.reduceBEq, Int.reduceBEq, T_objInit_e]; clear mp0 mp2 mp3 mp4 mp5 mp6 mp7 mp8 mp9 mp10 mp11 mp12 mp13 mp14 mp15 mp16 mp17 mp18 mp19 mp20 mp21 mp22 mp24 mp25 mp26 mp27)
      refine ⟨fun z => ⟨?_, (by rw [hμ]; simp only [gI_e, List.getD_cons_succ, List.getD_cons_zero, Nat.reduceEqDiff, reduceIte, fu_s, eca, ec20]; omega)⟩, fun z => ⟨hL, U, len, st, hS, hR1, g5.1, ⟨g6.1, by omega⟩, fun c => ?_⟩⟩
      · rw [hJd]
        refine Or.inr (Or.inr (Or.inl ⟨rfl, n, σ1, g1, g2, fun x hx h => ?_, g4, rfl, rfl⟩))
        by_cases e : x = w
        · right
          intro v hv hny
          rw [e] at hv
          rcases hv with ⟨q, _⟩ | ⟨_, h0, hs2, j, hj, ej⟩
          · omega
          · rw [← ej]
            refine g7 j ⟨hj.1, ?_⟩ (by omega) (by rw [ej]; exact hny)
            rcases hm with ⟨_, q1, q2⟩ | ⟨q, _⟩
            · rcases hs2 with y1 | y1
              · exact absurd q2 y1
              · exact absurd q1 y1
            · omega
        · exact g3 x hx h e
      · have skip : (0 ≤ tgt U st w i → ¬ tgt U st w i = y → σ1 a (tgt U st w i) = 1) → J 162 [vR o, vI p, vI y, vR a, vI s, vI n, vI w, vI (mny U st s w), vI (i + 1)] (sz, sl, lay, ρ, fu σ1 (o + 23) c, τ) := by
          intro h
          rw [hJd]
          refine Or.inr (Or.inr (Or.inr ⟨rfl, n, w, i + 1, _, g1.fu (Or.inr (Or.inr rfl)), ?_, ?_, ?_, ⟨g5.1, ?_⟩, by omega, ?_, rfl, rfl⟩))
          · simp only [eca, fu_am, Nat.reduceBEq]; exact g2
          · simp only [eca, fu_am, Nat.reduceBEq]; exact g3
          · simp only [eca]; exact g4
          · simp only [eca]; exact g5.2
          · simp only [eca]
            intro j hj
            by_cases e : j = i
            · rw [e]; exact h
            · exact g7 j (by omega)
        have tR := tgt_R (U := U) (st := st) w9.1 w i
        refine ⟨fun h => ⟨by omega, skip (fun z => by omega), (by rw [hμ]; simp only [gI_e, List.getD_cons_succ, List.getD_cons_zero, Nat.reduceEqDiff, reduceIte, fu_s, eca, ec20]; omega)⟩, fun h => ⟨fun h2 => ⟨by omega, skip (fun _ z => absurd h2 z), (by rw [hμ]; simp only [gI_e, List.getD_cons_succ, List.getD_cons_zero, Nat.reduceEqDiff, reduceIte, fu_s, eca, ec20]; omega)⟩, fun h2 => ⟨by omega, by omega, fun h3 => ⟨by omega, skip (fun _ _ => ?_), (by rw [hμ]; simp only [gI_e, List.getD_cons_succ, List.getD_cons_zero, Nat.reduceEqDiff, reduceIte, fu_s, eca, ec20]; omega)⟩, fun h3 => ?_⟩⟩⟩
        · rcases g2.1 (tgt U st w i) (by omega) with q | q
          · exact absurd q h3
          · exact q
        · have hra : RA (edg U st s) y (tgt U st w i) := by
            refine RA.go (g2.2.1 w g5.1 g5.2) (Or.inr ⟨g5.1, by omega, ?_, i, by omega, rfl⟩) h2
            rcases hm with q | q
            · omega
            · by_cases e : s = 0
              · exact Or.inr (fun y1 => q.2 ⟨y1, e⟩)
              · exact Or.inl e
          obtain ⟨p1, p2, p3⟩ := g2.push (v := tgt U st w i) (by omega) h3 hra
          refine ⟨by omega, by omega, by omega, by omega, by omega, by omega, ?_, (by rw [hμ]; simp only [gI_e, List.getD_cons_succ, List.getD_cons_zero, Nat.reduceEqDiff, reduceIte, fu_s, eca, ec20]; omega)⟩
          rw [hJd]
          refine Or.inr (Or.inr (Or.inr ⟨rfl, n + 1, w, i + 1, _, ((g1.fu (Or.inr (Or.inr rfl))).fu (Or.inl rfl)).fu (Or.inr (Or.inl rfl)), ?_, ?_, ?_, ⟨g5.1, ?_⟩, by omega, ?_, rfl, rfl⟩))
          · simp only [fu_s, eca, ec20, ea20, fu_am, Nat.reduceBEq]
            exact p1
          · simp only [fu_s, eca, ec20, ea20, fu_am, Nat.reduceBEq]
            intro x hx h hxw
            by_cases e : x = tgt U st w i
            · exact Or.inl ⟨n, by omega, by rw [iu_s, e]⟩
            · rw [iu_n e] at h
              rcases g3 x hx h hxw with ⟨j, hj, ej⟩ | q
              · exact Or.inl ⟨j, by omega, by rw [iu_n (by omega)]; exact ej⟩
              · right
                intro v hv hny
                by_cases e2 : v = tgt U st w i
                · rw [e2, iu_s]
                · rw [iu_n e2]; exact q v hv hny
          · simp only [fu_s, eca, ec20, ea20]
            intro v hv hny
            by_cases e2 : v = tgt U st w i
            · rw [e2, iu_s]
            · rw [iu_n e2]; exact g4 v hv hny
          · simp only [fu_s, eca, ec20, ea20]
            by_cases e2 : w = tgt U st w i
            · rw [← e2, iu_s]
            · rw [iu_n e2]; exact g5.2
          · simp only [fu_s, eca, ec20, ea20]
            intro j hj h0 hny
            by_cases e : tgt U st w j = tgt U st w i
            · rw [e, iu_s]
            · rw [iu_n e]
              by_cases e2 : j = i
              · exact absurd (by rw [e2]) e
              · exact g7 j (by omega) h0 hny

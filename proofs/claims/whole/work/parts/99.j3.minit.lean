theorem co_X11_5 : CallOK RX11 (.invokespecial 1) (1, 0, 0, 0, T_objInit) := call_objInit (by decide +kernel) (by decide +kernel) (by decide +kernel)
def TF_Model_init (o : Nat) (sz sl : Nat) (lay : Nat → Nat × Int) (ρ : Nat → Int → Nat) (σ : Nat → Int → Int) (τ : Nat → Int → Int64) (k : Option AV → Mm → Prop) : Prop := (sz = o + 1 ∧ 1 ≤ o ∧ ∀ i, σ o i = 0) ∧ (∀ (lay2 : Nat → Nat × Int) (ρ2 : Nat → Int → Nat) (σ2 : Nat → Int → Int) (τ2 : Nat → Int → Int64), NF lay lay2 ρ ρ2 σ σ2 τ τ2 o → LModel lay2 ρ2 o → (∀ a, o ≤ a ∧ a ≤ o + 26 → ¬ a = o + 11 → ∀ i, σ2 a i = 0) → (∀ x, 0 ≤ x ∧ x < 120 → σ2 (o + 11) x = -1) → k none (o + 27, sl + 283098, lay2, ρ2, σ2, τ2))
def T_Model_init : Tr := mkT 11 fun o as M k => as = [] ∧ TF_Model_init o M.1 M.2.1 M.2.2.1 M.2.2.2.1 M.2.2.2.2.1 M.2.2.2.2.2 k
theorem T_Model_init_e {o : Nat} {sz sl : Nat} {lay : Nat → Nat × Int} {ρ : Nat → Int → Nat} {σ : Nat → Int → Int} {τ : Nat → Int → Int64} {k : Option AV → Mm → Prop} : T_Model_init [vR o] (sz, sl, lay, ρ, σ, τ) k = (lay o = (21, 0) ∧ TF_Model_init o sz sl lay ρ σ τ k) := by simp [T_Model_init, mkT_e, pI_e, pR_e, pL_e]
theorem T_Model_init_r (as : List AV) (M : Mm) (k : Option AV → Mm → Prop) (h : T_Model_init as M k) : ∃ b As, as = vR b :: As ∧ M.2.2.1 b = (10 + 11, 0) := by
  obtain ⟨b, As, h1, h2, -⟩ := mkT_r h
  exact ⟨b, As, h1, h2⟩
def tb_Model_init : List (Nat × Option (List Nat) × Instr × List Nat) := [(0, none, .aload_n 0, []), (1, none, .invokespecial 1, []), (4, none, .aload_n 0, []), (5, none, .sipush 8000, []), (8, none, .newarray .byte, []), (10, none, .putfield 9, []), (13, none, .aload_n 0, []), (14, none, .sipush 24000, []), (17, none, .newarray .byte, []), (19, none, .putfield 13, []), (22, none, .aload_n 0, []), (23, none, .iconst 3, []), (24, none, .newarray .int, []), (26, none, .putfield 16, []), (29, none, .aload_n 0, []), (30, none, .iconst 3, []), (31, none, .newarray .int, []), (33, none, .putfield 20, []), (36, none, .aload_n 0, []), (37, none, .iconst 3, []), (38, none, .newarray .int, []), (40, none, .putfield 23, []), (43, none, .aload_n 0, []), (44, none, .iconst 3, []), (45, none, .newarray .int, []), (47, none, .putfield 26, []), (50, none, .aload_n 0, []), (51, none, .iconst 3, []), (52, none, .newarray .int, []), (54, none, .putfield 29, []), (57, none, .aload_n 0, []), (58, none, .iconst 3, []), (59, none, .newarray .int, []), (61, none, .putfield 32, []), (64, none, .aload_n 0, []), (65, none, .sipush 24000, []), (68, none, .newarray .int, []), (70, none, .putfield 35, []), (73, none, .aload_n 0, []), (74, none, .sipush 24000, []), (77, none, .newarray .int, []), (79, none, .putfield 38, []), (82, none, .aload_n 0, []), (83, none, .bipush 120, []), (85, none, .newarray .int, []), (87, none, .putfield 41, []), (90, none, .aload_n 0, []), (91, none, .iconst 3, []), (92, none, .newarray .int, []), (94, none, .putfield 44, []), (97, none, .aload_n 0, []), (98, none, .sipush 1800, []), (101, none, .newarray .int, []), (103, none, .putfield 47, []), (106, none, .aload_n 0, []), (107, none, .iconst 3, []), (108, none, .newarray .int, []), (110, none, .putfield 50, []), (113, none, .aload_n 0, []), (114, none, .iconst 3, []), (115, none, .newarray .int, []), (117, none, .putfield 53, []), (120, none, .aload_n 0, []), (121, none, .sipush 300, []), (124, none, .newarray .int, []), (126, none, .putfield 56, []), (129, none, .aload_n 0, []), (130, none, .iconst 3, []), (131, none, .newarray .int, []), (133, none, .putfield 59, []), (136, none, .aload_n 0, []), (137, none, .sipush 600, []), (140, none, .newarray .boolean, []), (142, none, .putfield 62, []), (145, none, .aload_n 0, []), (146, none, .sipush 600, []), (149, none, .newarray .boolean, []), (151, none, .putfield 66, []), (154, none, .aload_n 0, []), (155, none, .sipush 600, []), (158, none, .newarray .int, []), (160, none, .putfield 69, []), (163, none, .aload_n 0, []), (164, none, .sipush 600, []), (167, none, .newarray .int, []), (169, none, .putfield 72, []), (172, none, .aload_n 0, []), (173, none, .sipush 600, []), (176, none, .newarray .int, []), (178, none, .putfield 75, []), (181, none, .aload_n 0, []), (182, none, .bipush 40, []), (184, none, .newarray .int, []), (186, none, .putfield 78, []), (189, none, .aload_n 0, []), (190, none, .sipush 600, []), (193, none, .newarray .int, []), (195, none, .putfield 81, []), (198, none, .aload_n 0, []), (199, none, .sipush 600, []), (202, none, .newarray .int, []), (204, none, .putfield 84, []), (207, none, .aload_n 0, []), (208, none, .ldc 87, []), (210, none, .newarray .int, []), (212, none, .putfield 88, []), (215, none, .iconst 0, []), (216, none, .istore_n 1, []), (217, some [0, 1], .iload_n 1, []), (218, none, .bipush 120, []), (220, none, .if_icmp .ge 16, [236]), (223, none, .aload_n 0, []), (224, none, .getfield 41, []), (227, none, .iload_n 1, []), (228, none, .iconst (-1), []), (229, none, .iastore, []), (230, none, .iinc 1 1, []), (233, none, .goto (-16), [217]), (236, none, .return_, [])]
def P_Model_init : Nat → Option (List Nat) × Instr × List Nat := plk tb_Model_init
theorem r_Model_init_0 : P_Model_init 0 = (none, .aload_n 0, []) := by decide +kernel
theorem r_Model_init_1 : P_Model_init 1 = (none, .invokespecial 1, []) := by decide +kernel
theorem r_Model_init_4 : P_Model_init 4 = (none, .aload_n 0, []) := by decide +kernel
theorem r_Model_init_5 : P_Model_init 5 = (none, .sipush 8000, []) := by decide +kernel
theorem r_Model_init_8 : P_Model_init 8 = (none, .newarray .byte, []) := by decide +kernel
theorem r_Model_init_10 : P_Model_init 10 = (none, .putfield 9, []) := by decide +kernel
theorem r_Model_init_13 : P_Model_init 13 = (none, .aload_n 0, []) := by decide +kernel
theorem r_Model_init_14 : P_Model_init 14 = (none, .sipush 24000, []) := by decide +kernel
theorem r_Model_init_17 : P_Model_init 17 = (none, .newarray .byte, []) := by decide +kernel
theorem r_Model_init_19 : P_Model_init 19 = (none, .putfield 13, []) := by decide +kernel
theorem r_Model_init_22 : P_Model_init 22 = (none, .aload_n 0, []) := by decide +kernel
theorem r_Model_init_23 : P_Model_init 23 = (none, .iconst 3, []) := by decide +kernel
theorem r_Model_init_24 : P_Model_init 24 = (none, .newarray .int, []) := by decide +kernel
theorem r_Model_init_26 : P_Model_init 26 = (none, .putfield 16, []) := by decide +kernel
theorem r_Model_init_29 : P_Model_init 29 = (none, .aload_n 0, []) := by decide +kernel
theorem r_Model_init_30 : P_Model_init 30 = (none, .iconst 3, []) := by decide +kernel
theorem r_Model_init_31 : P_Model_init 31 = (none, .newarray .int, []) := by decide +kernel
theorem r_Model_init_33 : P_Model_init 33 = (none, .putfield 20, []) := by decide +kernel
theorem r_Model_init_36 : P_Model_init 36 = (none, .aload_n 0, []) := by decide +kernel
theorem r_Model_init_37 : P_Model_init 37 = (none, .iconst 3, []) := by decide +kernel
theorem r_Model_init_38 : P_Model_init 38 = (none, .newarray .int, []) := by decide +kernel
theorem r_Model_init_40 : P_Model_init 40 = (none, .putfield 23, []) := by decide +kernel
theorem r_Model_init_43 : P_Model_init 43 = (none, .aload_n 0, []) := by decide +kernel
theorem r_Model_init_44 : P_Model_init 44 = (none, .iconst 3, []) := by decide +kernel
theorem r_Model_init_45 : P_Model_init 45 = (none, .newarray .int, []) := by decide +kernel
theorem r_Model_init_47 : P_Model_init 47 = (none, .putfield 26, []) := by decide +kernel
theorem r_Model_init_50 : P_Model_init 50 = (none, .aload_n 0, []) := by decide +kernel
theorem r_Model_init_51 : P_Model_init 51 = (none, .iconst 3, []) := by decide +kernel
theorem r_Model_init_52 : P_Model_init 52 = (none, .newarray .int, []) := by decide +kernel
theorem r_Model_init_54 : P_Model_init 54 = (none, .putfield 29, []) := by decide +kernel
theorem r_Model_init_57 : P_Model_init 57 = (none, .aload_n 0, []) := by decide +kernel
theorem r_Model_init_58 : P_Model_init 58 = (none, .iconst 3, []) := by decide +kernel
theorem r_Model_init_59 : P_Model_init 59 = (none, .newarray .int, []) := by decide +kernel
theorem r_Model_init_61 : P_Model_init 61 = (none, .putfield 32, []) := by decide +kernel
theorem r_Model_init_64 : P_Model_init 64 = (none, .aload_n 0, []) := by decide +kernel
theorem r_Model_init_65 : P_Model_init 65 = (none, .sipush 24000, []) := by decide +kernel
theorem r_Model_init_68 : P_Model_init 68 = (none, .newarray .int, []) := by decide +kernel
theorem r_Model_init_70 : P_Model_init 70 = (none, .putfield 35, []) := by decide +kernel
theorem r_Model_init_73 : P_Model_init 73 = (none, .aload_n 0, []) := by decide +kernel
theorem r_Model_init_74 : P_Model_init 74 = (none, .sipush 24000, []) := by decide +kernel
theorem r_Model_init_77 : P_Model_init 77 = (none, .newarray .int, []) := by decide +kernel
theorem r_Model_init_79 : P_Model_init 79 = (none, .putfield 38, []) := by decide +kernel
theorem r_Model_init_82 : P_Model_init 82 = (none, .aload_n 0, []) := by decide +kernel
theorem r_Model_init_83 : P_Model_init 83 = (none, .bipush 120, []) := by decide +kernel
theorem r_Model_init_85 : P_Model_init 85 = (none, .newarray .int, []) := by decide +kernel
theorem r_Model_init_87 : P_Model_init 87 = (none, .putfield 41, []) := by decide +kernel
theorem r_Model_init_90 : P_Model_init 90 = (none, .aload_n 0, []) := by decide +kernel
theorem r_Model_init_91 : P_Model_init 91 = (none, .iconst 3, []) := by decide +kernel
theorem r_Model_init_92 : P_Model_init 92 = (none, .newarray .int, []) := by decide +kernel
theorem r_Model_init_94 : P_Model_init 94 = (none, .putfield 44, []) := by decide +kernel
theorem r_Model_init_97 : P_Model_init 97 = (none, .aload_n 0, []) := by decide +kernel
theorem r_Model_init_98 : P_Model_init 98 = (none, .sipush 1800, []) := by decide +kernel
theorem r_Model_init_101 : P_Model_init 101 = (none, .newarray .int, []) := by decide +kernel
theorem r_Model_init_103 : P_Model_init 103 = (none, .putfield 47, []) := by decide +kernel
theorem r_Model_init_106 : P_Model_init 106 = (none, .aload_n 0, []) := by decide +kernel
theorem r_Model_init_107 : P_Model_init 107 = (none, .iconst 3, []) := by decide +kernel
theorem r_Model_init_108 : P_Model_init 108 = (none, .newarray .int, []) := by decide +kernel
theorem r_Model_init_110 : P_Model_init 110 = (none, .putfield 50, []) := by decide +kernel
theorem r_Model_init_113 : P_Model_init 113 = (none, .aload_n 0, []) := by decide +kernel
theorem r_Model_init_114 : P_Model_init 114 = (none, .iconst 3, []) := by decide +kernel
theorem r_Model_init_115 : P_Model_init 115 = (none, .newarray .int, []) := by decide +kernel
theorem r_Model_init_117 : P_Model_init 117 = (none, .putfield 53, []) := by decide +kernel
theorem r_Model_init_120 : P_Model_init 120 = (none, .aload_n 0, []) := by decide +kernel
theorem r_Model_init_121 : P_Model_init 121 = (none, .sipush 300, []) := by decide +kernel
theorem r_Model_init_124 : P_Model_init 124 = (none, .newarray .int, []) := by decide +kernel
theorem r_Model_init_126 : P_Model_init 126 = (none, .putfield 56, []) := by decide +kernel
theorem r_Model_init_129 : P_Model_init 129 = (none, .aload_n 0, []) := by decide +kernel
theorem r_Model_init_130 : P_Model_init 130 = (none, .iconst 3, []) := by decide +kernel
theorem r_Model_init_131 : P_Model_init 131 = (none, .newarray .int, []) := by decide +kernel
theorem r_Model_init_133 : P_Model_init 133 = (none, .putfield 59, []) := by decide +kernel
theorem r_Model_init_136 : P_Model_init 136 = (none, .aload_n 0, []) := by decide +kernel
theorem r_Model_init_137 : P_Model_init 137 = (none, .sipush 600, []) := by decide +kernel
theorem r_Model_init_140 : P_Model_init 140 = (none, .newarray .boolean, []) := by decide +kernel
theorem r_Model_init_142 : P_Model_init 142 = (none, .putfield 62, []) := by decide +kernel
theorem r_Model_init_145 : P_Model_init 145 = (none, .aload_n 0, []) := by decide +kernel
theorem r_Model_init_146 : P_Model_init 146 = (none, .sipush 600, []) := by decide +kernel
theorem r_Model_init_149 : P_Model_init 149 = (none, .newarray .boolean, []) := by decide +kernel
theorem r_Model_init_151 : P_Model_init 151 = (none, .putfield 66, []) := by decide +kernel
theorem r_Model_init_154 : P_Model_init 154 = (none, .aload_n 0, []) := by decide +kernel
theorem r_Model_init_155 : P_Model_init 155 = (none, .sipush 600, []) := by decide +kernel
theorem r_Model_init_158 : P_Model_init 158 = (none, .newarray .int, []) := by decide +kernel
theorem r_Model_init_160 : P_Model_init 160 = (none, .putfield 69, []) := by decide +kernel
theorem r_Model_init_163 : P_Model_init 163 = (none, .aload_n 0, []) := by decide +kernel
theorem r_Model_init_164 : P_Model_init 164 = (none, .sipush 600, []) := by decide +kernel
theorem r_Model_init_167 : P_Model_init 167 = (none, .newarray .int, []) := by decide +kernel
theorem r_Model_init_169 : P_Model_init 169 = (none, .putfield 72, []) := by decide +kernel
theorem r_Model_init_172 : P_Model_init 172 = (none, .aload_n 0, []) := by decide +kernel
theorem r_Model_init_173 : P_Model_init 173 = (none, .sipush 600, []) := by decide +kernel
theorem r_Model_init_176 : P_Model_init 176 = (none, .newarray .int, []) := by decide +kernel
theorem r_Model_init_178 : P_Model_init 178 = (none, .putfield 75, []) := by decide +kernel
theorem r_Model_init_181 : P_Model_init 181 = (none, .aload_n 0, []) := by decide +kernel
theorem r_Model_init_182 : P_Model_init 182 = (none, .bipush 40, []) := by decide +kernel
theorem r_Model_init_184 : P_Model_init 184 = (none, .newarray .int, []) := by decide +kernel
theorem r_Model_init_186 : P_Model_init 186 = (none, .putfield 78, []) := by decide +kernel
theorem r_Model_init_189 : P_Model_init 189 = (none, .aload_n 0, []) := by decide +kernel
theorem r_Model_init_190 : P_Model_init 190 = (none, .sipush 600, []) := by decide +kernel
theorem r_Model_init_193 : P_Model_init 193 = (none, .newarray .int, []) := by decide +kernel
theorem r_Model_init_195 : P_Model_init 195 = (none, .putfield 81, []) := by decide +kernel
theorem r_Model_init_198 : P_Model_init 198 = (none, .aload_n 0, []) := by decide +kernel
theorem r_Model_init_199 : P_Model_init 199 = (none, .sipush 600, []) := by decide +kernel
theorem r_Model_init_202 : P_Model_init 202 = (none, .newarray .int, []) := by decide +kernel
theorem r_Model_init_204 : P_Model_init 204 = (none, .putfield 84, []) := by decide +kernel
theorem r_Model_init_207 : P_Model_init 207 = (none, .aload_n 0, []) := by decide +kernel
theorem r_Model_init_208 : P_Model_init 208 = (none, .ldc 87, []) := by decide +kernel
theorem r_Model_init_210 : P_Model_init 210 = (none, .newarray .int, []) := by decide +kernel
theorem r_Model_init_212 : P_Model_init 212 = (none, .putfield 88, []) := by decide +kernel
theorem r_Model_init_215 : P_Model_init 215 = (none, .iconst 0, []) := by decide +kernel
theorem r_Model_init_216 : P_Model_init 216 = (none, .istore_n 1, []) := by decide +kernel
theorem r_Model_init_217 : P_Model_init 217 = (some [0, 1], .iload_n 1, []) := by decide +kernel
theorem r_Model_init_218 : P_Model_init 218 = (none, .bipush 120, []) := by decide +kernel
theorem r_Model_init_220 : P_Model_init 220 = (none, .if_icmp .ge 16, [236]) := by decide +kernel
theorem r_Model_init_223 : P_Model_init 223 = (none, .aload_n 0, []) := by decide +kernel
theorem r_Model_init_224 : P_Model_init 224 = (none, .getfield 41, []) := by decide +kernel
theorem r_Model_init_227 : P_Model_init 227 = (none, .iload_n 1, []) := by decide +kernel
theorem r_Model_init_228 : P_Model_init 228 = (none, .iconst (-1), []) := by decide +kernel
theorem r_Model_init_229 : P_Model_init 229 = (none, .iastore, []) := by decide +kernel
theorem r_Model_init_230 : P_Model_init 230 = (none, .iinc 1 1, []) := by decide +kernel
theorem r_Model_init_233 : P_Model_init 233 = (none, .goto (-16), [217]) := by decide +kernel
theorem r_Model_init_236 : P_Model_init 236 = (none, .return_, []) := by decide +kernel
def E_Model_init : List (Nat × Ent) := [(5, (1, 0, 0, 0, T_objInit))]
def X_Model_init : Cx := (llk (0, 0, 9) ftX11, llk 99 ntX11, llk none kcX11, llk none klX11, llk dEnt E_Model_init, 1, 3, true)
theorem xok_Model_init : Xok RX11 X_Model_init := xok_of ftX11_ok ntX11_ok kcX11_ok klX11_ok (E := E_Model_init) (List.forall_mem_cons.mpr ⟨co_X11_5, fun _ h => absurd h List.not_mem_nil⟩)
theorem xf_Model_init_9 : xfl X_Model_init 9 = (11, 0, 1) := by decide +kernel
theorem xf_Model_init_13 : xfl X_Model_init 13 = (11, 2, 1) := by decide +kernel
theorem xf_Model_init_16 : xfl X_Model_init 16 = (11, 3, 1) := by decide +kernel
theorem xf_Model_init_20 : xfl X_Model_init 20 = (11, 4, 1) := by decide +kernel
theorem xf_Model_init_23 : xfl X_Model_init 23 = (11, 5, 1) := by decide +kernel
theorem xf_Model_init_26 : xfl X_Model_init 26 = (11, 6, 1) := by decide +kernel
theorem xf_Model_init_29 : xfl X_Model_init 29 = (11, 7, 1) := by decide +kernel
theorem xf_Model_init_32 : xfl X_Model_init 32 = (11, 8, 1) := by decide +kernel
theorem xf_Model_init_35 : xfl X_Model_init 35 = (11, 9, 1) := by decide +kernel
theorem xf_Model_init_38 : xfl X_Model_init 38 = (11, 10, 1) := by decide +kernel
theorem xf_Model_init_41 : xfl X_Model_init 41 = (11, 11, 1) := by decide +kernel
theorem xf_Model_init_44 : xfl X_Model_init 44 = (11, 12, 1) := by decide +kernel
theorem xf_Model_init_47 : xfl X_Model_init 47 = (11, 13, 1) := by decide +kernel
theorem xf_Model_init_50 : xfl X_Model_init 50 = (11, 14, 1) := by decide +kernel
theorem xf_Model_init_53 : xfl X_Model_init 53 = (11, 15, 1) := by decide +kernel
theorem xf_Model_init_56 : xfl X_Model_init 56 = (11, 16, 1) := by decide +kernel
theorem xf_Model_init_59 : xfl X_Model_init 59 = (11, 17, 1) := by decide +kernel
theorem xf_Model_init_62 : xfl X_Model_init 62 = (11, 18, 1) := by decide +kernel
theorem xf_Model_init_66 : xfl X_Model_init 66 = (11, 19, 1) := by decide +kernel
theorem xf_Model_init_69 : xfl X_Model_init 69 = (11, 20, 1) := by decide +kernel
theorem xf_Model_init_72 : xfl X_Model_init 72 = (11, 21, 1) := by decide +kernel
theorem xf_Model_init_75 : xfl X_Model_init 75 = (11, 22, 1) := by decide +kernel
theorem xf_Model_init_78 : xfl X_Model_init 78 = (11, 24, 1) := by decide +kernel
theorem xf_Model_init_81 : xfl X_Model_init 81 = (11, 25, 1) := by decide +kernel
theorem xf_Model_init_84 : xfl X_Model_init 84 = (11, 26, 1) := by decide +kernel
theorem xf_Model_init_88 : xfl X_Model_init 88 = (11, 27, 1) := by decide +kernel
theorem xk_Model_init_87 : xkc X_Model_init 87 = some 196608 := by decide +kernel
theorem xe_Model_init_5 : xE X_Model_init (4 * 1 + 1) = (1, 0, 0, 0, T_objInit) := rfl
theorem xd_Model_init : xd X_Model_init = 1 := rfl
theorem xrb_Model_init : xrb X_Model_init = 3 := rfl
theorem xin_Model_init : xin X_Model_init = true := rfl
set_option maxHeartbeats 4000000 in
set_option maxRecDepth 100000 in
theorem S_Model_init : Snd yX11_init cX11_init 2 none T_Model_init 1 26 283098 := by
  refine snd_of (X := X_Model_init) (P := P_Model_init) (tb := tb_Model_init) (own := RX11) (by decide) rfl rfl (by decide +kernel) xok_Model_init rfl rk3 (fun h => by first | rfl | cases h) ?_
  intro as M k has hM hT0
  obtain ⟨sz, sl, lay, ρ, σ, τ⟩ := M
  obtain ⟨o, as1, e, hlo, hT1⟩ := mkT_r hT0
  clear hT0
  subst e
  obtain ⟨e, hT⟩ := hT1
  subst e
  replace hlo : lay o = (21, 0) := hlo
  clear has
  replace hM : ∀ a i, -2147483648 ≤ σ a i ∧ σ a i ≤ 2147483647 := hM
  replace hT : TF_Model_init o sz sl lay ρ σ τ k := hT
  unfold TF_Model_init at hT
  obtain ⟨⟨hsz, ho, hz⟩, hT⟩ := hT
  subst hsz
  obtain ⟨J, hJd⟩ : ∃ J : Nat → List AV → Mm → Prop, J = (fun c vs M1 => c = 217 ∧ ∃ (i : Int) (lay1 : Nat → Nat × Int) (ρ1 : Nat → Int → Nat) (σ1 : Nat → Int → Int) (τ1 : Nat → Int → Int64), (0 ≤ i ∧ i ≤ 120) ∧ NF lay lay1 ρ ρ1 σ σ1 τ τ1 o ∧ LModel lay1 ρ1 o ∧ (∀ a, o ≤ a ∧ a ≤ o + 26 → ¬ a = o + 11 → ∀ i, σ1 a i = 0) ∧ (∀ x, 0 ≤ x ∧ x < i → σ1 (o + 11) x = -1) ∧ vs = [vR o, vI i] ∧ M1 = (o + 27, sl + 283098, lay1, ρ1, σ1, τ1)) := ⟨_, rfl⟩
  obtain ⟨μ, hμ⟩ : ∃ μ : Nat → List AV → Mm → Nat, μ = (fun _ vs _ => (200 - gI (vs.getD 1 vN)).toNat) := ⟨_, rfl⟩
  refine ⟨Nat.le_of_ble_eq_true rfl, J, μ, 127, ?_, ?_⟩
  · unfold wps
    simp only [si_iload_n0, si_iload_n1, si_iload_n2, si_iload_n3, si_iload, si_lload_n0, si_lload_n1, si_lload_n2, si_lload_n3, si_lload, si_aload_n0, si_aload_n1, si_aload_n2, si_aload_n3, si_aload, si_istore_n0, si_istore_n1, si_istore_n2, si_istore_n3, si_istore, si_astore_n0, si_astore_n1, si_astore_n2, si_astore_n3, si_astore, si_lstore_n0, si_lstore_n1, si_lstore_n2, si_lstore_n3, si_lstore, si_iconst, si_bipush, si_sipush, si_ldc, si_ldc2_w, si_lconst0, si_lconst1, si_aconst_null, si_iinc, si_dup, si_dup2, si_iadd, si_isub, si_imul, si_idiv, si_irem, si_iand, si_ior, si_ishl, si_ishr, si_ladd, si_lmul, si_lor, si_lxor, si_lshl, si_lushr, si_lcmp, si_i2b, si_i2l, si_l2i, si_icmp_eq, si_icmp_ne, si_icmp_lt, si_icmp_ge, si_icmp_gt, si_icmp_le, si_if_eq, si_if_ne, si_if_lt, si_if_ge, si_if_gt, si_if_le, si_ifnull, si_ifnonnull, si_goto, si_tableswitch, si_lookupswitch, si_getfield, si_putfield, si_getstatic, si_iaload, si_baload, si_laload, si_aaload, si_iastore, si_bastore, si_lastore, si_aastore, si_arraylength, si_new, si_newarray, si_anewarray, si_invokevirtual, si_invokespecial, si_invokestatic, si_ireturn, si_lreturn, si_areturn, si_return_, pI_e, pL_e, pR_e, pA_r, pA_n, pN_n, pN_r, oI_e, oL_e, oA_r, oA_n, lget_e, lrm1_0, lrm2_0, lrm1_i, lrm1_r, lrm1_n, lrm1_l, lrm2_i, lrm2_r, lrm2_n, lrm2_l, popN_0, popN_s, acat_i, acat_l, acat_r, acat_n, stw_0, stw_s, psh_s, psh_n, wgf_r, wgf_i, wgf_b, wgf_n, wgf_m, wpf_i, wpf_r, wpf_b, wnew_e, callE_e, rbk_0, rbk_1, tsw_0, tsw_s, lsw_0, lsw_s, wp_s, wq_t, wq_f, oV_e, pick_0, pick_s, oZ_e, oY_e, r_Model_init_0, r_Model_init_1, r_Model_init_4, r_Model_init_5, r_Model_init_8, r_Model_init_10, r_Model_init_13, r_Model_init_14, r_Model_init_17, r_Model_init_19, r_Model_init_22, r_Model_init_23, r_Model_init_24, r_Model_init_26, r_Model_init_29, r_Model_init_30, r_Model_init_31, r_Model_init_33, r_Model_init_36, r_Model_init_37, r_Model_init_38, r_Model_init_40, r_Model_init_43, r_Model_init_44, r_Model_init_45, r_Model_init_47, r_Model_init_50, r_Model_init_51, r_Model_init_52, r_Model_init_54, r_Model_init_57, r_Model_init_58, r_Model_init_59, r_Model_init_61, r_Model_init_64, r_Model_init_65, r_Model_init_68, r_Model_init_70, r_Model_init_73, r_Model_init_74, r_Model_init_77, r_Model_init_79, r_Model_init_82, r_Model_init_83, r_Model_init_85, r_Model_init_87, r_Model_init_90, r_Model_init_91, r_Model_init_92, r_Model_init_94, r_Model_init_97, r_Model_init_98, r_Model_init_101, r_Model_init_103, r_Model_init_106, r_Model_init_107, r_Model_init_108, r_Model_init_110, r_Model_init_113, r_Model_init_114, r_Model_init_115, r_Model_init_117, r_Model_init_120, r_Model_init_121, r_Model_init_124, r_Model_init_126, r_Model_init_129, r_Model_init_130, r_Model_init_131, r_Model_init_133, r_Model_init_136, r_Model_init_137, r_Model_init_140, r_Model_init_142, r_Model_init_145, r_Model_init_146, r_Model_init_149, r_Model_init_151, r_Model_init_154, r_Model_init_155, r_Model_init_158, r_Model_init_160, r_Model_init_163, r_Model_init_164, r_Model_init_167, r_Model_init_169, r_Model_init_172, r_Model_init_173, r_Model_init_176, r_Model_init_178, r_Model_init_181, r_Model_init_182, r_Model_init_184, r_Model_init_186, r_Model_init_189, r_Model_init_190, r_Model_init_193, r_Model_init_195, r_Model_init_198, r_Model_init_199, r_Model_init_202, r_Model_init_204, r_Model_init_207, r_Model_init_208, r_Model_init_210, r_Model_init_212, r_Model_init_215, r_Model_init_216, r_Model_init_217, r_Model_init_218, r_Model_init_220, r_Model_init_223, r_Model_init_224, r_Model_init_227, r_Model_init_228, r_Model_init_229, r_Model_init_230, r_Model_init_233, r_Model_init_236, xf_Model_init_9, xf_Model_init_13, xf_Model_init_16, xf_Model_init_20, xf_Model_init_23, xf_Model_init_26, xf_Model_init_29, xf_Model_init_32, xf_Model_init_35, xf_Model_init_38, xf_Model_init_41, xf_Model_init_44, xf_Model_init_47, xf_Model_init_50, xf_Model_init_53, xf_Model_init_56, xf_Model_init_59, xf_Model_init_62, xf_Model_init_66, xf_Model_init_69, xf_Model_init_72, xf_Model_init_75, xf_Model_init_78, xf_Model_init_81, xf_Model_init_84, xf_Model_init_88, xk_Model_init_87, xe_Model_init_5, xd_Model_init, xrb_Model_init, xin_Model_init, akd_i, akd_b, akd_z, akd_l, Nat.add_assoc, Nat.le_add_right, nfA_0, nfA_1, nfA_2, nfA_3, nfA_4, nfA_5, nfA_6, nfA_7, nfA_8, nfA_9, nfA_10, nfA_11, hlo, Nat.reduceAdd, Nat.reduceMul, Nat.reduceEqDiff, reduceIte, Int.reduceNeg, Int.reduceLE, Int.reduceLT, Int.reduceAdd, Int.reduceSub, Int.reduceToNat, true_and, and_true, inR_e, Nat.reduceLT, Nat.reduceLeDiff, reduceCtorEq, Nat.add_zero, Nat.zero_add, or_false, false_or, or_true, true_or, not_true_eq_false, not_false_eq_true, Classical.not_not, Nat.add_eq_zero_iff, and_false, false_and, Int.reduceEq, List.mem_cons, List.not_mem_nil, forall_eq_or_imp, forall_eq, false_implies, implies_true, forall_const, aargs_0, aargs_i, aargs_r, aargs_l, aargs_n, nfT_e, eq_self, and_self, Nat.le_refl, fu_s, fu_fu, iu_iu, iu_s, fu_am, fu_a0, fu_0a, iu_l, Nat.reduceBEq, Int.reduceBEq, T_objInit_e]
    rw [hJd]
    refine ⟨rfl, 0, _, _, _, _, by omega, fun a ha => ⟨?_, ?_, ?_, ?_⟩, ?_, ?_, fun x hx => by omega, rfl, rfl⟩
    · repeat rw [fu_n (by omega)]
    · repeat rw [fu_n (by omega)]
    · repeat rw [fu_n (by omega)]
    · repeat rw [fu_n (by omega)]
    · unfold LModel
      simp only [fu_s, fu_am, fu_a0, fu_0a, iu_s, iu_l, Nat.reduceBEq, Int.reduceBEq]
      simp only [hlo, true_and, and_true]
    · intro a ha h11 i
      have h : a = o ∨ a = o + 1 ∨ a = o + 2 ∨ a = o + 3 ∨ a = o + 4 ∨ a = o + 5 ∨ a = o + 6 ∨ a = o + 7 ∨ a = o + 8 ∨ a = o + 9 ∨ a = o + 10 ∨ a = o + 11 ∨ a = o + 12 ∨ a = o + 13 ∨ a = o + 14 ∨ a = o + 15 ∨ a = o + 16 ∨ a = o + 17 ∨ a = o + 18 ∨ a = o + 19 ∨ a = o + 20 ∨ a = o + 21 ∨ a = o + 22 ∨ a = o + 23 ∨ a = o + 24 ∨ a = o + 25 ∨ a = o + 26 := by omega
      rcases h with rfl | rfl | rfl | rfl | rfl | rfl | rfl | rfl | rfl | rfl | rfl | rfl | rfl | rfl | rfl | rfl | rfl | rfl | rfl | rfl | rfl | rfl | rfl | rfl | rfl | rfl | rfl
      · simp only [fu_s, fu_am, fu_a0, fu_0a, iu_s, iu_l, Nat.reduceBEq, Int.reduceBEq]
        repeat (first | exact hz i | refine iu_z (fun i => ?_))
      · simp only [fu_s, fu_am, fu_a0, fu_0a, iu_s, iu_l, Nat.reduceBEq, Int.reduceBEq]
      · simp only [fu_s, fu_am, fu_a0, fu_0a, iu_s, iu_l, Nat.reduceBEq, Int.reduceBEq]
      · simp only [fu_s, fu_am, fu_a0, fu_0a, iu_s, iu_l, Nat.reduceBEq, Int.reduceBEq]
      · simp only [fu_s, fu_am, fu_a0, fu_0a, iu_s, iu_l, Nat.reduceBEq, Int.reduceBEq]
      · simp only [fu_s, fu_am, fu_a0, fu_0a, iu_s, iu_l, Nat.reduceBEq, Int.reduceBEq]
      · simp only [fu_s, fu_am, fu_a0, fu_0a, iu_s, iu_l, Nat.reduceBEq, Int.reduceBEq]
      · simp only [fu_s, fu_am, fu_a0, fu_0a, iu_s, iu_l, Nat.reduceBEq, Int.reduceBEq]
      · simp only [fu_s, fu_am, fu_a0, fu_0a, iu_s, iu_l, Nat.reduceBEq, Int.reduceBEq]
      · simp only [fu_s, fu_am, fu_a0, fu_0a, iu_s, iu_l, Nat.reduceBEq, Int.reduceBEq]
      · simp only [fu_s, fu_am, fu_a0, fu_0a, iu_s, iu_l, Nat.reduceBEq, Int.reduceBEq]
      · exact absurd rfl h11
      · simp only [fu_s, fu_am, fu_a0, fu_0a, iu_s, iu_l, Nat.reduceBEq, Int.reduceBEq]
      · simp only [fu_s, fu_am, fu_a0, fu_0a, iu_s, iu_l, Nat.reduceBEq, Int.reduceBEq]
      · simp only [fu_s, fu_am, fu_a0, fu_0a, iu_s, iu_l, Nat.reduceBEq, Int.reduceBEq]
      · simp only [fu_s, fu_am, fu_a0, fu_0a, iu_s, iu_l, Nat.reduceBEq, Int.reduceBEq]
      · simp only [fu_s, fu_am, fu_a0, fu_0a, iu_s, iu_l, Nat.reduceBEq, Int.reduceBEq]
      · simp only [fu_s, fu_am, fu_a0, fu_0a, iu_s, iu_l, Nat.reduceBEq, Int.reduceBEq]
      · simp only [fu_s, fu_am, fu_a0, fu_0a, iu_s, iu_l, Nat.reduceBEq, Int.reduceBEq]
      · simp only [fu_s, fu_am, fu_a0, fu_0a, iu_s, iu_l, Nat.reduceBEq, Int.reduceBEq]
      · simp only [fu_s, fu_am, fu_a0, fu_0a, iu_s, iu_l, Nat.reduceBEq, Int.reduceBEq]
      · simp only [fu_s, fu_am, fu_a0, fu_0a, iu_s, iu_l, Nat.reduceBEq, Int.reduceBEq]
      · simp only [fu_s, fu_am, fu_a0, fu_0a, iu_s, iu_l, Nat.reduceBEq, Int.reduceBEq]
      · simp only [fu_s, fu_am, fu_a0, fu_0a, iu_s, iu_l, Nat.reduceBEq, Int.reduceBEq]
      · simp only [fu_s, fu_am, fu_a0, fu_0a, iu_s, iu_l, Nat.reduceBEq, Int.reduceBEq]
      · simp only [fu_s, fu_am, fu_a0, fu_0a, iu_s, iu_l, Nat.reduceBEq, Int.reduceBEq]
      · simp only [fu_s, fu_am, fu_a0, fu_0a, iu_s, iu_l, Nat.reduceBEq, Int.reduceBEq]
  · intro cp vs M1 hvs hM1 hlen hJ
    rw [hJd] at hJ
    obtain ⟨rfl, i, lay1, ρ1, σ1, τ1, hi, A1, hL1, z1, g1, rfl, rfl⟩ := hJ
    have lo1 : lay1 o = (21, 0) := hL1.1
    obtain ⟨vp11, vq11⟩ : ρ1 o 11 = o + 11 ∧ lay1 (o + 11) = (1, 120) := by
      obtain ⟨vh, vp0, vp2, vp3, vp4, vp5, vp6, vp7, vp8, vp9, vp10, vp11, vp12, vp13, vp14, vp15, vp16, vp17, vp18, vp19, vp20, vp21, vp22, vp24, vp25, vp26, vp27, vq0, vq2, vq3, vq4, vq5, vq6, vq7, vq8, vq9, vq10, vq11, vq12, vq13, vq14, vq15, vq16, vq17, vq18, vq19, vq20, vq21, vq22, vq24, vq25, vq26, vq27⟩ := (show LModel lay1 ρ1 o from hL1)
      exact ⟨vp11, vq11⟩
    (unfold wps; simp only [Option.getD_some, List.zip_cons_cons, List.zip_nil_left, List.zip_nil_right, List.zip_nil_right, lo1, vp11, vq11, si_iload_n0, si_iload_n1, si_iload_n2, si_iload_n3, si_iload, si_lload_n0, si_lload_n1, si_lload_n2, si_lload_n3, si_lload, si_aload_n0, si_aload_n1, si_aload_n2, si_aload_n3, si_aload, si_istore_n0, si_istore_n1, si_istore_n2, si_istore_n3, si_istore, si_astore_n0, si_astore_n1, si_astore_n2, si_astore_n3, si_astore, si_lstore_n0, si_lstore_n1, si_lstore_n2, si_lstore_n3, si_lstore, si_iconst, si_bipush, si_sipush, si_ldc, si_ldc2_w, si_lconst0, si_lconst1, si_aconst_null, si_iinc, si_dup, si_dup2, si_iadd, si_isub, si_imul, si_idiv, si_irem, si_iand, si_ior, si_ishl, si_ishr, si_ladd, si_lmul, si_lor, si_lxor, si_lshl, si_lushr, si_lcmp, si_i2b, si_i2l, si_l2i, si_icmp_eq, si_icmp_ne, si_icmp_lt, si_icmp_ge, si_icmp_gt, si_icmp_le, si_if_eq, si_if_ne, si_if_lt, si_if_ge, si_if_gt, si_if_le, si_ifnull, si_ifnonnull, si_goto, si_tableswitch, si_lookupswitch, si_getfield, si_putfield, si_getstatic, si_iaload, si_baload, si_laload, si_aaload, si_iastore, si_bastore, si_lastore, si_aastore, si_arraylength, si_new, si_newarray, si_anewarray, si_invokevirtual, si_invokespecial, si_invokestatic, si_ireturn, si_lreturn, si_areturn, si_return_, pI_e, pL_e, pR_e, pA_r, pA_n, pN_n, pN_r, oI_e, oL_e, oA_r, oA_n, lget_e, lrm1_0, lrm2_0, lrm1_i, lrm1_r, lrm1_n, lrm1_l, lrm2_i, lrm2_r, lrm2_n, lrm2_l, popN_0, popN_s, acat_i, acat_l, acat_r, acat_n, stw_0, stw_s, psh_s, psh_n, wgf_r, wgf_i, wgf_b, wgf_n, wgf_m, wpf_i, wpf_r, wpf_b, wnew_e, callE_e, rbk_0, rbk_1, tsw_0, tsw_s, lsw_0, lsw_s, wp_s, wq_t, wq_f, oV_e, pick_0, pick_s, oZ_e, oY_e, r_Model_init_0, r_Model_init_1, r_Model_init_4, r_Model_init_5, r_Model_init_8, r_Model_init_10, r_Model_init_13, r_Model_init_14, r_Model_init_17, r_Model_init_19, r_Model_init_22, r_Model_init_23, r_Model_init_24, r_Model_init_26, r_Model_init_29, r_Model_init_30, r_Model_init_31, r_Model_init_33, r_Model_init_36, r_Model_init_37, r_Model_init_38, r_Model_init_40, r_Model_init_43, r_Model_init_44, r_Model_init_45, r_Model_init_47, r_Model_init_50, r_Model_init_51, r_Model_init_52, r_Model_init_54, r_Model_init_57, r_Model_init_58, r_Model_init_59, r_Model_init_61, r_Model_init_64, r_Model_init_65, r_Model_init_68, r_Model_init_70, r_Model_init_73, r_Model_init_74, r_Model_init_77, r_Model_init_79, r_Model_init_82, r_Model_init_83, r_Model_init_85, r_Model_init_87, r_Model_init_90, r_Model_init_91, r_Model_init_92, r_Model_init_94, r_Model_init_97, r_Model_init_98, r_Model_init_101, r_Model_init_103, r_Model_init_106, r_Model_init_107, r_Model_init_108, r_Model_init_110, r_Model_init_113, r_Model_init_114, r_Model_init_115, r_Model_init_117, r_Model_init_120, r_Model_init_121, r_Model_init_124, r_Model_init_126, r_Model_init_129, r_Model_init_130, r_Model_init_131, r_Model_init_133, r_Model_init_136, r_Model_init_137, r_Model_init_140, r_Model_init_142, r_Model_init_145, r_Model_init_146, r_Model_init_149, r_Model_init_151, r_Model_init_154, r_Model_init_155, r_Model_init_158, r_Model_init_160, r_Model_init_163, r_Model_init_164, r_Model_init_167, r_Model_init_169, r_Model_init_172, r_Model_init_173, r_Model_init_176, r_Model_init_178, r_Model_init_181, r_Model_init_182, r_Model_init_184, r_Model_init_186, r_Model_init_189, r_Model_init_190, r_Model_init_193, r_Model_init_195, r_Model_init_198, r_Model_init_199, r_Model_init_202, r_Model_init_204, r_Model_init_207, r_Model_init_208, r_Model_init_210, r_Model_init_212, r_Model_init_215, r_Model_init_216, r_Model_init_217, r_Model_init_218, r_Model_init_220, r_Model_init_223, r_Model_init_224, r_Model_init_227, r_Model_init_228, r_Model_init_229, r_Model_init_230, r_Model_init_233, r_Model_init_236, xf_Model_init_9, xf_Model_init_13, xf_Model_init_16, xf_Model_init_20, xf_Model_init_23, xf_Model_init_26, xf_Model_init_29, xf_Model_init_32, xf_Model_init_35, xf_Model_init_38, xf_Model_init_41, xf_Model_init_44, xf_Model_init_47, xf_Model_init_50, xf_Model_init_53, xf_Model_init_56, xf_Model_init_59, xf_Model_init_62, xf_Model_init_66, xf_Model_init_69, xf_Model_init_72, xf_Model_init_75, xf_Model_init_78, xf_Model_init_81, xf_Model_init_84, xf_Model_init_88, xk_Model_init_87, xe_Model_init_5, xd_Model_init, xrb_Model_init, xin_Model_init, akd_i, akd_b, akd_z, akd_l, Nat.add_assoc, Nat.le_add_right, nfA_0, nfA_1, nfA_2, nfA_3, nfA_4, nfA_5, nfA_6, nfA_7, nfA_8, nfA_9, nfA_10, nfA_11, hlo, Nat.reduceAdd, Nat.reduceMul, Nat.reduceEqDiff, reduceIte, Int.reduceNeg, Int.reduceLE, Int.reduceLT, Int.reduceAdd, Int.reduceSub, Int.reduceToNat, true_and, and_true, inR_e, Nat.reduceLT, Nat.reduceLeDiff, reduceCtorEq, Nat.add_zero, Nat.zero_add, or_false, false_or, or_true, true_or, not_true_eq_false, not_false_eq_true, Classical.not_not, Nat.add_eq_zero_iff, and_false, false_and, Int.reduceEq, List.mem_cons, List.not_mem_nil, forall_eq_or_imp, forall_eq, false_implies, implies_true, forall_const, aargs_0, aargs_i, aargs_r, aargs_l, aargs_n, nfT_e, eq_self, and_self, Nat.le_refl, fu_s, fu_fu, iu_iu, iu_s, fu_am, fu_a0, fu_0a, iu_l, Nat.reduceBEq, Int.reduceBEq, T_objInit_e])
    clear vp11
    refine ⟨fun h => hT _ _ _ _ A1 hL1 z1 (fun x hx => g1 x (by omega)), fun h => ⟨by omega, by omega, by omega, ?_, (by rw [hμ]; simp only [gI_e, List.getD_cons_succ, List.getD_cons_zero]; omega)⟩⟩
    rw [hJd]
    refine ⟨rfl, i + 1, lay1, ρ1, _, τ1, by omega, fun a ha => ?_, hL1, fun a ha h11 x => ?_, fun x hx => ?_, rfl, rfl⟩
    · rw [fu_n (show ¬ a = o + 11 by omega)]; exact A1 a ha
    · rw [fu_n h11]; exact z1 a ha h11 x
    · rw [fu_s]
      by_cases e : x = i
      · rw [e, iu_s]
      · rw [iu_n e]; exact g1 x (by omega)

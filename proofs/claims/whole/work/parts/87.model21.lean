theorem QF.ch {σ : Nat → Int → Int} {o : Nat} {c : Int → Int} : QF σ (fu σ (o + 23) c) o := QF.rf.up (by omega)
theorem Fr.qf {σ σ2 : Nat → Int → Int} {o : Nat} (h : Fr σ σ2 (o + 23) 0) : QF σ σ2 o := fun x _ _ => h x (by omega)
theorem co_X11_848 : CallOK RX11 (.invokevirtual 212) (3, 4, 0, 0, T_Model_refsOf) := call_V S_Model_refsOf (by decide) (ci := 11) rfl (by decide +kernel) (by decide +kernel) (by decide +kernel) (by decide +kernel) (by decide +kernel) (by decide +kernel) T_Model_refsOf_r
theorem co_X11_860 : CallOK RX11 (.invokevirtual 215) (3, 7, 0, 0, T_Model_refsTo) := call_V S_Model_refsTo (by decide) (ci := 11) rfl (by decide +kernel) (by decide +kernel) (by decide +kernel) (by decide +kernel) (by decide +kernel) (by decide +kernel) T_Model_refsTo_r
def TF_Model_told (o : Nat) (p : Int) (x : Int) (w : Int) (sz sl : Nat) (lay : Nat → Nat × Int) (ρ : Nat → Int → Nat) (σ : Nat → Int → Int) (τ : Nat → Int → Int64) (k : Option AV → Mm → Prop) : Prop := LModel lay ρ o ∧ ∃ (U : Int → Int) (len : Int) (st : Nat → Int → Int), MdP σ o p U len st ∧ (0 ≤ p ∧ p < 3 → ∀ σ2 : Nat → Int → Int, QF σ σ2 o → (0 ≤ fn U st x ∧ w = 0 → k (some (vI (srt U (st 2 (fn U st x))))) (sz, sl, lay, ρ, σ2, τ)) ∧ (0 ≤ fn U st x ∧ w = 1 → k (some (vI (kdv U (st 2 (fn U st x))))) (sz, sl, lay, ρ, σ2, τ)) ∧ (0 ≤ fn U st x ∧ w = 2 → k (some (vI (nV U (st 1) (st 2 (fn U st x))))) (sz, sl, lay, ρ, σ2, τ)) ∧ (0 ≤ fn U st x ∧ w = 3 → k (some (vI (szP U st (fn U st x)))) (sz, sl, lay, ρ, σ2, τ)) ∧ (0 ≤ fn U st x ∧ w = 4 → k (some (vI (st 2 (fn U st x)))) (sz, sl, lay, ρ, σ2, τ)) ∧ (0 ≤ fn U st x ∧ w = 5 → k (some (vI (r5 U (st 1) (st 2 (fn U st x)) (nV U (st 1) (st 2 (fn U st x))).toNat))) (sz, sl, lay, ρ, σ2, τ)) ∧ (0 ≤ fn U st x ∧ w = 6 → k (some (vI (ptP U st (fn U st x)))) (sz, sl, lay, ρ, σ2, τ)) ∧ (¬ (0 ≤ fn U st x ∧ 0 ≤ w ∧ w ≤ 6) → k (some (vI (-1))) (sz, sl, lay, ρ, σ2, τ))) ∧ (¬ (0 ≤ p ∧ p < 3) → k (some (vI (-1))) (sz, sl, lay, ρ, σ, τ))
def T_Model_told : Tr := mkT 11 fun o as M k => pI as fun p as => pI as fun x as => pI as fun w as => as = [] ∧ TF_Model_told o p x w M.1 M.2.1 M.2.2.1 M.2.2.2.1 M.2.2.2.2.1 M.2.2.2.2.2 k
theorem T_Model_told_e {o : Nat} {p : Int} {x : Int} {w : Int} {sz sl : Nat} {lay : Nat → Nat × Int} {ρ : Nat → Int → Nat} {σ : Nat → Int → Int} {τ : Nat → Int → Int64} {k : Option AV → Mm → Prop} : T_Model_told [vR o, vI p, vI x, vI w] (sz, sl, lay, ρ, σ, τ) k = (lay o = (21, 0) ∧ TF_Model_told o p x w sz sl lay ρ σ τ k) := by simp [T_Model_told, mkT_e, pI_e, pR_e, pL_e]
theorem T_Model_told_r (as : List AV) (M : Mm) (k : Option AV → Mm → Prop) (h : T_Model_told as M k) : ∃ b As, as = vR b :: As ∧ M.2.2.1 b = (10 + 11, 0) := by
  obtain ⟨b, As, h1, h2, -⟩ := mkT_r h
  exact ⟨b, As, h1, h2⟩
def tb_Model_told : List (Nat × Option (List Nat) × Instr × List Nat) := [(0, none, .iload_n 1, []), (1, none, .invokestatic 161, []), (4, none, .ifCond .eq 12, [16]), (7, none, .aload_n 0, []), (8, none, .iload_n 1, []), (9, none, .iload_n 2, []), (10, none, .invokevirtual 152, []), (13, none, .goto 4, [17]), (16, none, .iconst (-1), []), (17, none, .istore 4, []), (19, none, .iload 4, []), (21, none, .ifCond .lt 13, [34]), (24, none, .iload_n 3, []), (25, none, .ifCond .lt 9, [34]), (28, none, .iload_n 3, []), (29, none, .bipush 6, []), (31, none, .if_icmp .le 5, [36]), (34, none, .iconst (-1), []), (35, none, .ireturn, []), (36, none, .aload_n 0, []), (37, none, .getfield 47, []), (40, none, .sipush 600, []), (43, none, .iload_n 1, []), (44, none, .imul, []), (45, none, .iload 4, []), (47, none, .iadd, []), (48, none, .iaload, []), (49, none, .istore 5, []), (51, none, .iload_n 3, []), (52, none, .tableswitch 100 0 5 #[40, 48, 73, 81, 89, 92], [152, 92, 100, 125, 133, 141, 144]), (92, none, .aload_n 0, []), (93, none, .iload_n 1, []), (94, none, .iload 4, []), (96, none, .invokevirtual 134, []), (99, none, .ireturn, []), (100, none, .aload_n 0, []), (101, none, .iload_n 1, []), (102, none, .iload 4, []), (104, none, .invokevirtual 134, []), (107, none, .iconst 2, []), (108, none, .if_icmp .ne 7, [115]), (111, none, .iconst 0, []), (112, none, .goto 12, [124]), (115, none, .aload_n 0, []), (116, none, .iload_n 1, []), (117, none, .iload 5, []), (119, none, .iconst 3, []), (120, none, .iadd, []), (121, none, .invokevirtual 95, []), (124, none, .ireturn, []), (125, none, .aload_n 0, []), (126, none, .iload_n 1, []), (127, none, .iload 5, []), (129, none, .invokevirtual 131, []), (132, none, .ireturn, []), (133, none, .aload_n 0, []), (134, none, .iload_n 1, []), (135, none, .iload 4, []), (137, none, .invokevirtual 182, []), (140, none, .ireturn, []), (141, none, .iload 5, []), (143, none, .ireturn, []), (144, none, .aload_n 0, []), (145, none, .iload_n 1, []), (146, none, .iload 4, []), (148, none, .invokevirtual 212, []), (151, none, .ireturn, []), (152, none, .aload_n 0, []), (153, none, .iload_n 1, []), (154, none, .iload 4, []), (156, none, .invokevirtual 215, []), (159, none, .ireturn, [])]
def P_Model_told : Nat → Option (List Nat) × Instr × List Nat := plk tb_Model_told
theorem r_Model_told_0 : P_Model_told 0 = (none, .iload_n 1, []) := by decide +kernel
theorem r_Model_told_1 : P_Model_told 1 = (none, .invokestatic 161, []) := by decide +kernel
theorem r_Model_told_4 : P_Model_told 4 = (none, .ifCond .eq 12, [16]) := by decide +kernel
theorem r_Model_told_7 : P_Model_told 7 = (none, .aload_n 0, []) := by decide +kernel
theorem r_Model_told_8 : P_Model_told 8 = (none, .iload_n 1, []) := by decide +kernel
theorem r_Model_told_9 : P_Model_told 9 = (none, .iload_n 2, []) := by decide +kernel
theorem r_Model_told_10 : P_Model_told 10 = (none, .invokevirtual 152, []) := by decide +kernel
theorem r_Model_told_13 : P_Model_told 13 = (none, .goto 4, [17]) := by decide +kernel
theorem r_Model_told_16 : P_Model_told 16 = (none, .iconst (-1), []) := by decide +kernel
theorem r_Model_told_17 : P_Model_told 17 = (none, .istore 4, []) := by decide +kernel
theorem r_Model_told_19 : P_Model_told 19 = (none, .iload 4, []) := by decide +kernel
theorem r_Model_told_21 : P_Model_told 21 = (none, .ifCond .lt 13, [34]) := by decide +kernel
theorem r_Model_told_24 : P_Model_told 24 = (none, .iload_n 3, []) := by decide +kernel
theorem r_Model_told_25 : P_Model_told 25 = (none, .ifCond .lt 9, [34]) := by decide +kernel
theorem r_Model_told_28 : P_Model_told 28 = (none, .iload_n 3, []) := by decide +kernel
theorem r_Model_told_29 : P_Model_told 29 = (none, .bipush 6, []) := by decide +kernel
theorem r_Model_told_31 : P_Model_told 31 = (none, .if_icmp .le 5, [36]) := by decide +kernel
theorem r_Model_told_34 : P_Model_told 34 = (none, .iconst (-1), []) := by decide +kernel
theorem r_Model_told_35 : P_Model_told 35 = (none, .ireturn, []) := by decide +kernel
theorem r_Model_told_36 : P_Model_told 36 = (none, .aload_n 0, []) := by decide +kernel
theorem r_Model_told_37 : P_Model_told 37 = (none, .getfield 47, []) := by decide +kernel
theorem r_Model_told_40 : P_Model_told 40 = (none, .sipush 600, []) := by decide +kernel
theorem r_Model_told_43 : P_Model_told 43 = (none, .iload_n 1, []) := by decide +kernel
theorem r_Model_told_44 : P_Model_told 44 = (none, .imul, []) := by decide +kernel
theorem r_Model_told_45 : P_Model_told 45 = (none, .iload 4, []) := by decide +kernel
theorem r_Model_told_47 : P_Model_told 47 = (none, .iadd, []) := by decide +kernel
theorem r_Model_told_48 : P_Model_told 48 = (none, .iaload, []) := by decide +kernel
theorem r_Model_told_49 : P_Model_told 49 = (none, .istore 5, []) := by decide +kernel
theorem r_Model_told_51 : P_Model_told 51 = (none, .iload_n 3, []) := by decide +kernel
theorem r_Model_told_52 : P_Model_told 52 = (none, .tableswitch 100 0 5 #[40, 48, 73, 81, 89, 92], [152, 92, 100, 125, 133, 141, 144]) := by decide +kernel
theorem r_Model_told_92 : P_Model_told 92 = (none, .aload_n 0, []) := by decide +kernel
theorem r_Model_told_93 : P_Model_told 93 = (none, .iload_n 1, []) := by decide +kernel
theorem r_Model_told_94 : P_Model_told 94 = (none, .iload 4, []) := by decide +kernel
theorem r_Model_told_96 : P_Model_told 96 = (none, .invokevirtual 134, []) := by decide +kernel
theorem r_Model_told_99 : P_Model_told 99 = (none, .ireturn, []) := by decide +kernel
theorem r_Model_told_100 : P_Model_told 100 = (none, .aload_n 0, []) := by decide +kernel
theorem r_Model_told_101 : P_Model_told 101 = (none, .iload_n 1, []) := by decide +kernel
theorem r_Model_told_102 : P_Model_told 102 = (none, .iload 4, []) := by decide +kernel
theorem r_Model_told_104 : P_Model_told 104 = (none, .invokevirtual 134, []) := by decide +kernel
theorem r_Model_told_107 : P_Model_told 107 = (none, .iconst 2, []) := by decide +kernel
theorem r_Model_told_108 : P_Model_told 108 = (none, .if_icmp .ne 7, [115]) := by decide +kernel
theorem r_Model_told_111 : P_Model_told 111 = (none, .iconst 0, []) := by decide +kernel
theorem r_Model_told_112 : P_Model_told 112 = (none, .goto 12, [124]) := by decide +kernel
theorem r_Model_told_115 : P_Model_told 115 = (none, .aload_n 0, []) := by decide +kernel
theorem r_Model_told_116 : P_Model_told 116 = (none, .iload_n 1, []) := by decide +kernel
theorem r_Model_told_117 : P_Model_told 117 = (none, .iload 5, []) := by decide +kernel
theorem r_Model_told_119 : P_Model_told 119 = (none, .iconst 3, []) := by decide +kernel
theorem r_Model_told_120 : P_Model_told 120 = (none, .iadd, []) := by decide +kernel
theorem r_Model_told_121 : P_Model_told 121 = (none, .invokevirtual 95, []) := by decide +kernel
theorem r_Model_told_124 : P_Model_told 124 = (none, .ireturn, []) := by decide +kernel
theorem r_Model_told_125 : P_Model_told 125 = (none, .aload_n 0, []) := by decide +kernel
theorem r_Model_told_126 : P_Model_told 126 = (none, .iload_n 1, []) := by decide +kernel
theorem r_Model_told_127 : P_Model_told 127 = (none, .iload 5, []) := by decide +kernel
theorem r_Model_told_129 : P_Model_told 129 = (none, .invokevirtual 131, []) := by decide +kernel
theorem r_Model_told_132 : P_Model_told 132 = (none, .ireturn, []) := by decide +kernel
theorem r_Model_told_133 : P_Model_told 133 = (none, .aload_n 0, []) := by decide +kernel
theorem r_Model_told_134 : P_Model_told 134 = (none, .iload_n 1, []) := by decide +kernel
theorem r_Model_told_135 : P_Model_told 135 = (none, .iload 4, []) := by decide +kernel
theorem r_Model_told_137 : P_Model_told 137 = (none, .invokevirtual 182, []) := by decide +kernel
theorem r_Model_told_140 : P_Model_told 140 = (none, .ireturn, []) := by decide +kernel
theorem r_Model_told_141 : P_Model_told 141 = (none, .iload 5, []) := by decide +kernel
theorem r_Model_told_143 : P_Model_told 143 = (none, .ireturn, []) := by decide +kernel
theorem r_Model_told_144 : P_Model_told 144 = (none, .aload_n 0, []) := by decide +kernel
theorem r_Model_told_145 : P_Model_told 145 = (none, .iload_n 1, []) := by decide +kernel
theorem r_Model_told_146 : P_Model_told 146 = (none, .iload 4, []) := by decide +kernel
theorem r_Model_told_148 : P_Model_told 148 = (none, .invokevirtual 212, []) := by decide +kernel
theorem r_Model_told_151 : P_Model_told 151 = (none, .ireturn, []) := by decide +kernel
theorem r_Model_told_152 : P_Model_told 152 = (none, .aload_n 0, []) := by decide +kernel
theorem r_Model_told_153 : P_Model_told 153 = (none, .iload_n 1, []) := by decide +kernel
theorem r_Model_told_154 : P_Model_told 154 = (none, .iload 4, []) := by decide +kernel
theorem r_Model_told_156 : P_Model_told 156 = (none, .invokevirtual 215, []) := by decide +kernel
theorem r_Model_told_159 : P_Model_told 159 = (none, .ireturn, []) := by decide +kernel
def E_Model_told : List (Nat × Ent) := [(646, (1, 0, 0, 0, T_Model_isPicture)), (524, (3, 3, 0, 0, T_Model_valuesAt)), (536, (3, 1, 0, 0, T_Model_sort)), (608, (3, 0, 0, 0, T_Model_find)), (728, (3, 5, 0, 0, T_Model_sizeOf)), (848, (3, 4, 0, 0, T_Model_refsOf)), (860, (3, 7, 0, 0, T_Model_refsTo)), (380, (3, 0, 0, 0, T_Model_at))]
def X_Model_told : Cx := (llk (0, 0, 9) ftX11, llk 99 ntX11, llk none kcX11, llk none klX11, llk dEnt E_Model_told, 8, 0, false)
theorem xok_Model_told : Xok RX11 X_Model_told := xok_of ftX11_ok ntX11_ok kcX11_ok klX11_ok (E := E_Model_told) (List.forall_mem_cons.mpr ⟨co_X11_646, List.forall_mem_cons.mpr ⟨co_X11_524, List.forall_mem_cons.mpr ⟨co_X11_536, List.forall_mem_cons.mpr ⟨co_X11_608, List.forall_mem_cons.mpr ⟨co_X11_728, List.forall_mem_cons.mpr ⟨co_X11_848, List.forall_mem_cons.mpr ⟨co_X11_860, List.forall_mem_cons.mpr ⟨co_X11_380, fun _ h => absurd h List.not_mem_nil⟩⟩⟩⟩⟩⟩⟩⟩)
theorem xf_Model_told_47 : xfl X_Model_told 47 = (11, 13, 1) := by decide +kernel
theorem xe_Model_told_646 : xE X_Model_told (4 * 161 + 2) = (1, 0, 0, 0, T_Model_isPicture) := rfl
theorem xe_Model_told_524 : xE X_Model_told (4 * 131 + 0) = (3, 3, 0, 0, T_Model_valuesAt) := rfl
theorem xe_Model_told_536 : xE X_Model_told (4 * 134 + 0) = (3, 1, 0, 0, T_Model_sort) := rfl
theorem xe_Model_told_608 : xE X_Model_told (4 * 152 + 0) = (3, 0, 0, 0, T_Model_find) := rfl
theorem xe_Model_told_728 : xE X_Model_told (4 * 182 + 0) = (3, 5, 0, 0, T_Model_sizeOf) := rfl
theorem xe_Model_told_848 : xE X_Model_told (4 * 212 + 0) = (3, 4, 0, 0, T_Model_refsOf) := rfl
theorem xe_Model_told_860 : xE X_Model_told (4 * 215 + 0) = (3, 7, 0, 0, T_Model_refsTo) := rfl
theorem xe_Model_told_380 : xE X_Model_told (4 * 95 + 0) = (3, 0, 0, 0, T_Model_at) := rfl
theorem xd_Model_told : xd X_Model_told = 8 := rfl
theorem xrb_Model_told : xrb X_Model_told = 0 := rfl
theorem xin_Model_told : xin X_Model_told = false := rfl
set_option maxHeartbeats 4000000 in
set_option maxRecDepth 100000 in
theorem S_Model_told : Snd yX11_told cX11_told 6 (some .int) T_Model_told 8 0 0 := by
  refine snd_of (X := X_Model_told) (P := P_Model_told) (tb := tb_Model_told) (own := RX11) (by decide) rfl rfl (by decide +kernel) xok_Model_told rfl rk0 (fun h => by first | rfl | cases h) ?_
  intro as M k has hM hT0
  obtain ⟨sz, sl, lay, ρ, σ, τ⟩ := M
  obtain ⟨o, as1, e, hlo, hT1⟩ := mkT_r hT0
  clear hT0
  subst e
  obtain ⟨p, as2, e, hT2⟩ := pI_x hT1
  clear hT1
  subst e
  obtain ⟨x, as3, e, hT3⟩ := pI_x hT2
  clear hT2
  subst e
  obtain ⟨w, as4, e, hT4⟩ := pI_x hT3
  clear hT3
  subst e
  obtain ⟨e, hT⟩ := hT4
  subst e
  replace hlo : lay o = (21, 0) := hlo
  have r_p : -2147483648 ≤ p ∧ p ≤ 2147483647 := has (vI p) (by simp)
  have r_x : -2147483648 ≤ x ∧ x ≤ 2147483647 := has (vI x) (by simp)
  have r_w : -2147483648 ≤ w ∧ w ≤ 2147483647 := has (vI w) (by simp)
  clear has
  replace hM : ∀ a i, -2147483648 ≤ σ a i ∧ σ a i ≤ 2147483647 := hM
  replace hT : TF_Model_told o p x w sz sl lay ρ σ τ k := hT
  unfold TF_Model_told at hT
  obtain ⟨hL, U, len, st, hMP, h1, h0⟩ := hT
  refine ⟨Nat.le_of_ble_eq_true rfl, fun _ _ _ => False, fun _ _ _ => 0, 80, ?_, fun _ _ _ _ _ _ h => h.elim⟩
  by_cases hp : 0 ≤ p ∧ p < 3
  · have hpE : (0 ≤ p ∧ p < 3) = True := eq_true hp
    replace h1 := h1 hp
    obtain ⟨hS, hR⟩ := hMP hp
    obtain ⟨hB, hl3, ⟨m4, m5, m6⟩, ⟨m7, m8, m9⟩, m12, ⟨m14, m13⟩, m15, ⟨m17, m16⟩, m26⟩ := (show MR σ o p U len st from hR)
    obtain ⟨b1, b2, b3, b4, b5, b6, b7⟩ := (show MB σ o p U len (st 1) from hB)
    obtain ⟨w0, w1, w2, w3, w4, w5, w6, w7, w8, w9, w10, w11, w12, w13, w14⟩ := (show SW U len st from hS)
    (obtain ⟨mh, mp0, mp2, mp3, mp4, mp5, mp6, mp7, mp8, mp9, mp10, mp11, mp12, mp13, mp14, mp15, mp16, mp17, mp18, mp19, mp20, mp21, mp22, mp24, mp25, mp26, mp27, mq0, mq2, mq3, mq4, mq5, mq6, mq7, mq8, mq9, mq10, mq11, mq12, mq13, mq14, mq15, mq16, mq17, mq18, mq19, mq20, mq21, mq22, mq24, mq25, mq26, mq27⟩ := (show LModel lay ρ _ from hL); unfold wps; simp only [hpE, find_e hL hS hR, si_iload_n0, si_iload_n1, si_iload_n2, si_iload_n3, si_iload, si_lload_n0, si_lload_n1, si_lload_n2, si_lload_n3, si_lload, si_aload_n0, si_aload_n1, si_aload_n2, si_aload_n3, si_aload, si_istore_n0, si_istore_n1, si_istore_n2, si_istore_n3, si_istore, si_astore_n0, si_astore_n1, si_astore_n2, si_astore_n3, si_astore, si_lstore_n0, si_lstore_n1, si_lstore_n2, si_lstore_n3, si_lstore, si_iconst, si_bipush, si_sipush, si_ldc, si_ldc2_w, si_lconst0, si_lconst1, si_aconst_null, si_iinc, si_dup, si_dup2, si_iadd, si_isub, si_imul, si_idiv, si_irem, si_iand, si_ior, si_ishl, si_ishr, si_ladd, si_lmul, si_lor, si_lxor, si_lshl, si_lushr, si_lcmp, si_i2b, si_i2l, si_l2i, si_icmp_eq, si_icmp_ne, si_icmp_lt, si_icmp_ge, si_icmp_gt, si_icmp_le, si_if_eq, si_if_ne, si_if_lt, si_if_ge, si_if_gt, si_if_le, si_ifnull, si_ifnonnull, si_goto, si_tableswitch, si_lookupswitch, si_getfield, si_putfield, si_getstatic, si_iaload, si_baload, si_laload, si_aaload, si_iastore, si_bastore, si_lastore, si_aastore, si_arraylength, si_new, si_newarray, si_anewarray, si_invokevirtual, si_invokespecial, si_invokestatic, si_ireturn, si_lreturn, si_areturn, si_return_, pI_e, pL_e, pR_e, pA_r, pA_n, pN_n, pN_r, oI_e, oL_e, oA_r, oA_n, lget_e, lrm1_0, lrm2_0, lrm1_i, lrm1_r, lrm1_n, lrm1_l, lrm2_i, lrm2_r, lrm2_n, lrm2_l, popN_0, popN_s, acat_i, acat_l, acat_r, acat_n, stw_0, stw_s, psh_s, psh_n, wgf_r, wgf_i, wgf_b, wgf_n, wgf_m, wpf_i, wpf_r, wpf_b, wnew_e, callE_e, rbk_0, rbk_1, tsw_0, tsw_s, lsw_0, lsw_s, wp_s, wq_t, wq_f, oV_e, pick_0, pick_s, oZ_e, oY_e, r_Model_told_0, r_Model_told_1, r_Model_told_4, r_Model_told_7, r_Model_told_8, r_Model_told_9, r_Model_told_10, r_Model_told_13, r_Model_told_16, r_Model_told_17, r_Model_told_19, r_Model_told_21, r_Model_told_24, r_Model_told_25, r_Model_told_28, r_Model_told_29, r_Model_told_31, r_Model_told_34, r_Model_told_35, r_Model_told_36, r_Model_told_37, r_Model_told_40, r_Model_told_43, r_Model_told_44, r_Model_told_45, r_Model_told_47, r_Model_told_48, r_Model_told_49, r_Model_told_51, r_Model_told_52, r_Model_told_92, r_Model_told_93, r_Model_told_94, r_Model_told_96, r_Model_told_99, r_Model_told_100, r_Model_told_101, r_Model_told_102, r_Model_told_104, r_Model_told_107, r_Model_told_108, r_Model_told_111, r_Model_told_112, r_Model_told_115, r_Model_told_116, r_Model_told_117, r_Model_told_119, r_Model_told_120, r_Model_told_121, r_Model_told_124, r_Model_told_125, r_Model_told_126, r_Model_told_127, r_Model_told_129, r_Model_told_132, r_Model_told_133, r_Model_told_134, r_Model_told_135, r_Model_told_137, r_Model_told_140, r_Model_told_141, r_Model_told_143, r_Model_told_144, r_Model_told_145, r_Model_told_146, r_Model_told_148, r_Model_told_151, r_Model_told_152, r_Model_told_153, r_Model_told_154, r_Model_told_156, r_Model_told_159, xf_Model_told_47, xe_Model_told_646, xe_Model_told_524, xe_Model_told_536, xe_Model_told_608, xe_Model_told_728, xe_Model_told_848, xe_Model_told_860, xe_Model_told_380, xd_Model_told, xrb_Model_told, xin_Model_told, T_Model_isPicture_e, TF_Model_isPicture, T_Model_valuesAt_e, TF_Model_valuesAt, T_Model_sort_e, TF_Model_sort, T_Model_find_e, T_Model_sizeOf_e, TF_Model_sizeOf, T_Model_refsOf_e, TF_Model_refsOf, T_Model_refsTo_e, TF_Model_refsTo, T_Model_at_e, TF_Model_at, mh, mp0, mp2, mp3, mp4, mp5, mp6, mp7, mp8, mp9, mp10, mp11, mp12, mp13, mp14, mp15, mp16, mp17, mp18, mp19, mp20, mp21, mp22, mp24, mp25, mp26, mp27, mq0, mq2, mq3, mq4, mq5, mq6, mq7, mq8, mq9, mq10, mq11, mq12, mq13, mq14, mq15, mq16, mq17, mq18, mq19, mq20, mq21, mq22, mq24, mq25, mq26, mq27, Nat.reduceAdd, Nat.reduceMul, Nat.reduceEqDiff, reduceIte, Int.reduceNeg, Int.reduceLE, Int.reduceLT, Int.reduceAdd, Int.reduceSub, Int.reduceToNat, true_and, and_true, inR_e, Nat.reduceLT, Nat.reduceLeDiff, reduceCtorEq, Nat.add_zero, Nat.zero_add, or_false, false_or, or_true, true_or, not_true_eq_false, not_false_eq_true, Classical.not_not, Nat.add_eq_zero_iff, and_false, false_and, Int.reduceEq, List.mem_cons, List.not_mem_nil, forall_eq_or_imp, forall_eq, false_implies, implies_true, forall_const, aargs_0, aargs_i, aargs_r, aargs_l, aargs_n, nfT_e, eq_self, and_self, Nat.le_refl, fu_s, fu_fu, iu_iu, iu_s, fu_am, fu_a0, fu_0a, iu_l, Nat.reduceBEq, Int.reduceBEq, T_objInit_e]; clear mp0 mp2 mp3 mp4 mp5 mp6 mp7 mp8 mp9 mp10 mp11 mp12 mp13 mp14 mp15 mp16 mp17 mp18 mp19 mp20 mp21 mp22 mp24 mp25 mp26 mp27)
    have fR := hS.fnR x
    refine ⟨fun a => (h1 σ QF.rf).2.2.2.2.2.2.2 (by omega), fun a => ⟨fun b => (h1 σ QF.rf).2.2.2.2.2.2.2 (by omega), fun b => ?_⟩⟩
    have tv := hS.tv (i := fn U st x) (by omega)
    have t0 := tv.1.2.1
    have t4 := tv.1.2.2.1
    have t5 := tv.1.1
    refine ⟨fun b2 => ?_, fun b2 => (h1 σ QF.rf).2.2.2.2.2.2.2 (by omega)⟩
    rw [m13 (fn U st x) (by omega)]
    refine ⟨by omega, by omega, by omega, by omega, ⟨fun e => ⟨hL, U, len, st 1, hB, by omega, by omega, (h1 σ QF.rf).1 ⟨by omega, e⟩⟩, fun e => ⟨hL, U, len, st 1, hB, by omega, by omega, fun s2 => ⟨by omega, hL, by omega, ?_⟩, fun s2 => ?_⟩, fun e => ⟨hL, U, len, st 1, hB, tv.1, fun c => (h1 _ QF.ch).2.2.1 ⟨by omega, e⟩⟩, fun e => ⟨hL, U, len, st 1, hB, by omega, tv, fun c => (h1 _ QF.ch).2.2.2.1 ⟨by omega, e⟩⟩, fun e => (h1 σ QF.rf).2.2.2.2.1 ⟨by omega, e⟩, fun e => ⟨hL, U, len, st, hS, hR, by omega, fun c => (h1 _ QF.ch).2.2.2.2.2.1 ⟨by omega, e⟩⟩⟩, fun e => ⟨hL, U, len, st, hS, hR, fun c => (h1 _ QF.ch).2.2.2.2.2.2.1 ⟨by omega, by omega⟩⟩⟩
    · rw [b3 (st 2 (fn U st x) + 3) (by omega)]
      have := (h1 σ QF.rf).2.1 ⟨by omega, e⟩
      unfold kdv at this
      rw [if_neg] at this
      · exact this
      · intro z
        unfold srt at s2
        rw [if_neg (by omega), if_neg (by omega)] at s2
        exact s2 rfl
    · have := (h1 σ QF.rf).2.1 ⟨by omega, e⟩
      unfold kdv at this
      rw [if_pos] at this
      · exact this
      · unfold srt at s2
        rcases t5 with ⟨z, -⟩ | ⟨z, -⟩ | z
        · rw [if_pos z] at s2; omega
        · rw [if_neg (by omega), if_pos z] at s2; omega
        · exact z
  · have hpE : (0 ≤ p ∧ p < 3) = False := eq_false hp
    (obtain ⟨mh, mp0, mp2, mp3, mp4, mp5, mp6, mp7, mp8, mp9, mp10, mp11, mp12, mp13, mp14, mp15, mp16, mp17, mp18, mp19, mp20, mp21, mp22, mp24, mp25, mp26, mp27, mq0, mq2, mq3, mq4, mq5, mq6, mq7, mq8, mq9, mq10, mq11, mq12, mq13, mq14, mq15, mq16, mq17, mq18, mq19, mq20, mq21, mq22, mq24, mq25, mq26, mq27⟩ := (show LModel lay ρ _ from hL); unfold wps; simp only [hpE, si_iload_n0, si_iload_n1, si_iload_n2, si_iload_n3, si_iload, si_lload_n0, si_lload_n1, si_lload_n2, si_lload_n3, si_lload, si_aload_n0, si_aload_n1, si_aload_n2, si_aload_n3, si_aload, si_istore_n0, si_istore_n1, si_istore_n2, si_istore_n3, si_istore, si_astore_n0, si_astore_n1, si_astore_n2, si_astore_n3, si_astore, si_lstore_n0, si_lstore_n1, si_lstore_n2, si_lstore_n3, si_lstore, si_iconst, si_bipush, si_sipush, si_ldc, si_ldc2_w, si_lconst0, si_lconst1, si_aconst_null, si_iinc, si_dup, si_dup2, si_iadd, si_isub, si_imul, si_idiv, si_irem, si_iand, si_ior, si_ishl, si_ishr, si_ladd, si_lmul, si_lor, si_lxor, si_lshl, si_lushr, si_lcmp, si_i2b, si_i2l, si_l2i, si_icmp_eq, si_icmp_ne, si_icmp_lt, si_icmp_ge, si_icmp_gt, si_icmp_le, si_if_eq, si_if_ne, si_if_lt, si_if_ge, si_if_gt, si_if_le, si_ifnull, si_ifnonnull, si_goto, si_tableswitch, si_lookupswitch, si_getfield, si_putfield, si_getstatic, si_iaload, si_baload, si_laload, si_aaload, si_iastore, si_bastore, si_lastore, si_aastore, si_arraylength, si_new, si_newarray, si_anewarray, si_invokevirtual, si_invokespecial, si_invokestatic, si_ireturn, si_lreturn, si_areturn, si_return_, pI_e, pL_e, pR_e, pA_r, pA_n, pN_n, pN_r, oI_e, oL_e, oA_r, oA_n, lget_e, lrm1_0, lrm2_0, lrm1_i, lrm1_r, lrm1_n, lrm1_l, lrm2_i, lrm2_r, lrm2_n, lrm2_l, popN_0, popN_s, acat_i, acat_l, acat_r, acat_n, stw_0, stw_s, psh_s, psh_n, wgf_r, wgf_i, wgf_b, wgf_n, wgf_m, wpf_i, wpf_r, wpf_b, wnew_e, callE_e, rbk_0, rbk_1, tsw_0, tsw_s, lsw_0, lsw_s, wp_s, wq_t, wq_f, oV_e, pick_0, pick_s, oZ_e, oY_e, r_Model_told_0, r_Model_told_1, r_Model_told_4, r_Model_told_7, r_Model_told_8, r_Model_told_9, r_Model_told_10, r_Model_told_13, r_Model_told_16, r_Model_told_17, r_Model_told_19, r_Model_told_21, r_Model_told_24, r_Model_told_25, r_Model_told_28, r_Model_told_29, r_Model_told_31, r_Model_told_34, r_Model_told_35, r_Model_told_36, r_Model_told_37, r_Model_told_40, r_Model_told_43, r_Model_told_44, r_Model_told_45, r_Model_told_47, r_Model_told_48, r_Model_told_49, r_Model_told_51, r_Model_told_52, r_Model_told_92, r_Model_told_93, r_Model_told_94, r_Model_told_96, r_Model_told_99, r_Model_told_100, r_Model_told_101, r_Model_told_102, r_Model_told_104, r_Model_told_107, r_Model_told_108, r_Model_told_111, r_Model_told_112, r_Model_told_115, r_Model_told_116, r_Model_told_117, r_Model_told_119, r_Model_told_120, r_Model_told_121, r_Model_told_124, r_Model_told_125, r_Model_told_126, r_Model_told_127, r_Model_told_129, r_Model_told_132, r_Model_told_133, r_Model_told_134, r_Model_told_135, r_Model_told_137, r_Model_told_140, r_Model_told_141, r_Model_told_143, r_Model_told_144, r_Model_told_145, r_Model_told_146, r_Model_told_148, r_Model_told_151, r_Model_told_152, r_Model_told_153, r_Model_told_154, r_Model_told_156, r_Model_told_159, xf_Model_told_47, xe_Model_told_646, xe_Model_told_524, xe_Model_told_536, xe_Model_told_608, xe_Model_told_728, xe_Model_told_848, xe_Model_told_860, xe_Model_told_380, xd_Model_told, xrb_Model_told, xin_Model_told, T_Model_isPicture_e, TF_Model_isPicture, T_Model_valuesAt_e, TF_Model_valuesAt, T_Model_sort_e, TF_Model_sort, T_Model_find_e, T_Model_sizeOf_e, TF_Model_sizeOf, T_Model_refsOf_e, TF_Model_refsOf, T_Model_refsTo_e, TF_Model_refsTo, T_Model_at_e, TF_Model_at, mh, mp0, mp2, mp3, mp4, mp5, mp6, mp7, mp8, mp9, mp10, mp11, mp12, mp13, mp14, mp15, mp16, mp17, mp18, mp19, mp20, mp21, mp22, mp24, mp25, mp26, mp27, mq0, mq2, mq3, mq4, mq5, mq6, mq7, mq8, mq9, mq10, mq11, mq12, mq13, mq14, mq15, mq16, mq17, mq18, mq19, mq20, mq21, mq22, mq24, mq25, mq26, mq27, Nat.reduceAdd, Nat.reduceMul, Nat.reduceEqDiff, reduceIte, Int.reduceNeg, Int.reduceLE, Int.reduceLT, Int.reduceAdd, Int.reduceSub, Int.reduceToNat, true_and, and_true, inR_e, Nat.reduceLT, Nat.reduceLeDiff, reduceCtorEq, Nat.add_zero, Nat.zero_add, or_false, false_or, or_true, true_or, not_true_eq_false, not_false_eq_true, Classical.not_not, Nat.add_eq_zero_iff, and_false, false_and, Int.reduceEq, List.mem_cons, List.not_mem_nil, forall_eq_or_imp, forall_eq, false_implies, implies_true, forall_const, aargs_0, aargs_i, aargs_r, aargs_l, aargs_n, nfT_e, eq_self, and_self, Nat.le_refl, fu_s, fu_fu, iu_iu, iu_s, fu_am, fu_a0, fu_0a, iu_l, Nat.reduceBEq, Int.reduceBEq, T_objInit_e]; clear mp0 mp2 mp3 mp4 mp5 mp6 mp7 mp8 mp9 mp10 mp11 mp12 mp13 mp14 mp15 mp16 mp17 mp18 mp19 mp20 mp21 mp22 mp24 mp25 mp26 mp27)
    exact h0 hp
def TF_Model_value (o : Nat) (p : Int) (x : Int) (j : Int) (sz sl : Nat) (lay : Nat → Nat × Int) (ρ : Nat → Int → Nat) (σ : Nat → Int → Int) (τ : Nat → Int → Int64) (k : Option AV → Mm → Prop) : Prop := LModel lay ρ o ∧ ∃ (U : Int → Int) (len : Int) (st : Nat → Int → Int), MdP σ o p U len st ∧ (0 ≤ p ∧ p < 3 → ∀ σ2 : Nat → Int → Int, QF σ σ2 o → (0 ≤ fn U st x ∧ 0 ≤ j ∧ j < nV U (st 1) (st 2 (fn U st x)) → k (some (vL (Int64.ofInt (vZ U (st 1) (st 2 (fn U st x)) j)))) (sz, sl, lay, ρ, σ2, τ)) ∧ (¬ (0 ≤ fn U st x ∧ 0 ≤ j ∧ j < nV U (st 1) (st 2 (fn U st x))) → k (some (vL (0))) (sz, sl, lay, ρ, σ2, τ))) ∧ (¬ (0 ≤ p ∧ p < 3) → k (some (vL (0))) (sz, sl, lay, ρ, σ, τ))
def T_Model_value : Tr := mkT 11 fun o as M k => pI as fun p as => pI as fun x as => pI as fun j as => as = [] ∧ TF_Model_value o p x j M.1 M.2.1 M.2.2.1 M.2.2.2.1 M.2.2.2.2.1 M.2.2.2.2.2 k
theorem T_Model_value_e {o : Nat} {p : Int} {x : Int} {j : Int} {sz sl : Nat} {lay : Nat → Nat × Int} {ρ : Nat → Int → Nat} {σ : Nat → Int → Int} {τ : Nat → Int → Int64} {k : Option AV → Mm → Prop} : T_Model_value [vR o, vI p, vI x, vI j] (sz, sl, lay, ρ, σ, τ) k = (lay o = (21, 0) ∧ TF_Model_value o p x j sz sl lay ρ σ τ k) := by simp [T_Model_value, mkT_e, pI_e, pR_e, pL_e]
theorem T_Model_value_r (as : List AV) (M : Mm) (k : Option AV → Mm → Prop) (h : T_Model_value as M k) : ∃ b As, as = vR b :: As ∧ M.2.2.1 b = (10 + 11, 0) := by
  obtain ⟨b, As, h1, h2, -⟩ := mkT_r h
  exact ⟨b, As, h1, h2⟩
def tb_Model_value : List (Nat × Option (List Nat) × Instr × List Nat) := [(0, none, .iload_n 1, []), (1, none, .invokestatic 161, []), (4, none, .ifCond .eq 12, [16]), (7, none, .aload_n 0, []), (8, none, .iload_n 1, []), (9, none, .iload_n 2, []), (10, none, .invokevirtual 152, []), (13, none, .goto 4, [17]), (16, none, .iconst (-1), []), (17, none, .istore 4, []), (19, none, .iload 4, []), (21, none, .ifCond .lt 29, [50]), (24, none, .iload_n 3, []), (25, none, .ifCond .lt 25, [50]), (28, none, .iload_n 3, []), (29, none, .aload_n 0, []), (30, none, .iload_n 1, []), (31, none, .aload_n 0, []), (32, none, .getfield 47, []), (35, none, .sipush 600, []), (38, none, .iload_n 1, []), (39, none, .imul, []), (40, none, .iload 4, []), (42, none, .iadd, []), (43, none, .iaload, []), (44, none, .invokevirtual 131, []), (47, none, .if_icmp .lt 5, [52]), (50, none, .lconst 0, []), (51, none, .lreturn, []), (52, none, .aload_n 0, []), (53, none, .iload_n 1, []), (54, none, .aload_n 0, []), (55, none, .getfield 47, []), (58, none, .sipush 600, []), (61, none, .iload_n 1, []), (62, none, .imul, []), (63, none, .iload 4, []), (65, none, .iadd, []), (66, none, .iaload, []), (67, none, .iload_n 3, []), (68, none, .invokevirtual 137, []), (71, none, .lreturn, [])]
def P_Model_value : Nat → Option (List Nat) × Instr × List Nat := plk tb_Model_value
theorem r_Model_value_0 : P_Model_value 0 = (none, .iload_n 1, []) := by decide +kernel
theorem r_Model_value_1 : P_Model_value 1 = (none, .invokestatic 161, []) := by decide +kernel
theorem r_Model_value_4 : P_Model_value 4 = (none, .ifCond .eq 12, [16]) := by decide +kernel
theorem r_Model_value_7 : P_Model_value 7 = (none, .aload_n 0, []) := by decide +kernel
theorem r_Model_value_8 : P_Model_value 8 = (none, .iload_n 1, []) := by decide +kernel
theorem r_Model_value_9 : P_Model_value 9 = (none, .iload_n 2, []) := by decide +kernel
theorem r_Model_value_10 : P_Model_value 10 = (none, .invokevirtual 152, []) := by decide +kernel
theorem r_Model_value_13 : P_Model_value 13 = (none, .goto 4, [17]) := by decide +kernel
theorem r_Model_value_16 : P_Model_value 16 = (none, .iconst (-1), []) := by decide +kernel
theorem r_Model_value_17 : P_Model_value 17 = (none, .istore 4, []) := by decide +kernel
theorem r_Model_value_19 : P_Model_value 19 = (none, .iload 4, []) := by decide +kernel
theorem r_Model_value_21 : P_Model_value 21 = (none, .ifCond .lt 29, [50]) := by decide +kernel
theorem r_Model_value_24 : P_Model_value 24 = (none, .iload_n 3, []) := by decide +kernel
theorem r_Model_value_25 : P_Model_value 25 = (none, .ifCond .lt 25, [50]) := by decide +kernel
theorem r_Model_value_28 : P_Model_value 28 = (none, .iload_n 3, []) := by decide +kernel
theorem r_Model_value_29 : P_Model_value 29 = (none, .aload_n 0, []) := by decide +kernel
theorem r_Model_value_30 : P_Model_value 30 = (none, .iload_n 1, []) := by decide +kernel
theorem r_Model_value_31 : P_Model_value 31 = (none, .aload_n 0, []) := by decide +kernel
theorem r_Model_value_32 : P_Model_value 32 = (none, .getfield 47, []) := by decide +kernel
theorem r_Model_value_35 : P_Model_value 35 = (none, .sipush 600, []) := by decide +kernel
theorem r_Model_value_38 : P_Model_value 38 = (none, .iload_n 1, []) := by decide +kernel
theorem r_Model_value_39 : P_Model_value 39 = (none, .imul, []) := by decide +kernel
theorem r_Model_value_40 : P_Model_value 40 = (none, .iload 4, []) := by decide +kernel
theorem r_Model_value_42 : P_Model_value 42 = (none, .iadd, []) := by decide +kernel
theorem r_Model_value_43 : P_Model_value 43 = (none, .iaload, []) := by decide +kernel
theorem r_Model_value_44 : P_Model_value 44 = (none, .invokevirtual 131, []) := by decide +kernel
theorem r_Model_value_47 : P_Model_value 47 = (none, .if_icmp .lt 5, [52]) := by decide +kernel
theorem r_Model_value_50 : P_Model_value 50 = (none, .lconst 0, []) := by decide +kernel
theorem r_Model_value_51 : P_Model_value 51 = (none, .lreturn, []) := by decide +kernel
theorem r_Model_value_52 : P_Model_value 52 = (none, .aload_n 0, []) := by decide +kernel
theorem r_Model_value_53 : P_Model_value 53 = (none, .iload_n 1, []) := by decide +kernel
theorem r_Model_value_54 : P_Model_value 54 = (none, .aload_n 0, []) := by decide +kernel
theorem r_Model_value_55 : P_Model_value 55 = (none, .getfield 47, []) := by decide +kernel
theorem r_Model_value_58 : P_Model_value 58 = (none, .sipush 600, []) := by decide +kernel
theorem r_Model_value_61 : P_Model_value 61 = (none, .iload_n 1, []) := by decide +kernel
theorem r_Model_value_62 : P_Model_value 62 = (none, .imul, []) := by decide +kernel
theorem r_Model_value_63 : P_Model_value 63 = (none, .iload 4, []) := by decide +kernel
theorem r_Model_value_65 : P_Model_value 65 = (none, .iadd, []) := by decide +kernel
theorem r_Model_value_66 : P_Model_value 66 = (none, .iaload, []) := by decide +kernel
theorem r_Model_value_67 : P_Model_value 67 = (none, .iload_n 3, []) := by decide +kernel
theorem r_Model_value_68 : P_Model_value 68 = (none, .invokevirtual 137, []) := by decide +kernel
theorem r_Model_value_71 : P_Model_value 71 = (none, .lreturn, []) := by decide +kernel
def E_Model_value : List (Nat × Ent) := [(646, (1, 0, 0, 0, T_Model_isPicture)), (524, (3, 3, 0, 0, T_Model_valuesAt)), (548, (4, 5, 0, 0, T_Model_valueAt)), (608, (3, 0, 0, 0, T_Model_find))]
def X_Model_value : Cx := (llk (0, 0, 9) ftX11, llk 99 ntX11, llk none kcX11, llk none klX11, llk dEnt E_Model_value, 6, 2, false)
theorem xok_Model_value : Xok RX11 X_Model_value := xok_of ftX11_ok ntX11_ok kcX11_ok klX11_ok (E := E_Model_value) (List.forall_mem_cons.mpr ⟨co_X11_646, List.forall_mem_cons.mpr ⟨co_X11_524, List.forall_mem_cons.mpr ⟨co_X11_548, List.forall_mem_cons.mpr ⟨co_X11_608, fun _ h => absurd h List.not_mem_nil⟩⟩⟩⟩)
theorem xf_Model_value_47 : xfl X_Model_value 47 = (11, 13, 1) := by decide +kernel
theorem xe_Model_value_646 : xE X_Model_value (4 * 161 + 2) = (1, 0, 0, 0, T_Model_isPicture) := rfl
theorem xe_Model_value_524 : xE X_Model_value (4 * 131 + 0) = (3, 3, 0, 0, T_Model_valuesAt) := rfl
theorem xe_Model_value_548 : xE X_Model_value (4 * 137 + 0) = (4, 5, 0, 0, T_Model_valueAt) := rfl
theorem xe_Model_value_608 : xE X_Model_value (4 * 152 + 0) = (3, 0, 0, 0, T_Model_find) := rfl
theorem xd_Model_value : xd X_Model_value = 6 := rfl
theorem xrb_Model_value : xrb X_Model_value = 2 := rfl
theorem xin_Model_value : xin X_Model_value = false := rfl
set_option maxHeartbeats 4000000 in
set_option maxRecDepth 100000 in
theorem S_Model_value : Snd yX11_value cX11_value 5 (some .long) T_Model_value 6 0 0 := by
  refine snd_of (X := X_Model_value) (P := P_Model_value) (tb := tb_Model_value) (own := RX11) (by decide) rfl rfl (by decide +kernel) xok_Model_value rfl rk2 (fun h => by first | rfl | cases h) ?_
  intro as M k has hM hT0
  obtain ⟨sz, sl, lay, ρ, σ, τ⟩ := M
  obtain ⟨o, as1, e, hlo, hT1⟩ := mkT_r hT0
  clear hT0
  subst e
  obtain ⟨p, as2, e, hT2⟩ := pI_x hT1
  clear hT1
  subst e
  obtain ⟨x, as3, e, hT3⟩ := pI_x hT2
  clear hT2
  subst e
  obtain ⟨j, as4, e, hT4⟩ := pI_x hT3
  clear hT3
  subst e
  obtain ⟨e, hT⟩ := hT4
  subst e
  replace hlo : lay o = (21, 0) := hlo
  have r_p : -2147483648 ≤ p ∧ p ≤ 2147483647 := has (vI p) (by simp)
  have r_x : -2147483648 ≤ x ∧ x ≤ 2147483647 := has (vI x) (by simp)
  have r_j : -2147483648 ≤ j ∧ j ≤ 2147483647 := has (vI j) (by simp)
  clear has
  replace hM : ∀ a i, -2147483648 ≤ σ a i ∧ σ a i ≤ 2147483647 := hM
  replace hT : TF_Model_value o p x j sz sl lay ρ σ τ k := hT
  unfold TF_Model_value at hT
  obtain ⟨hL, U, len, st, hMP, h1, h0⟩ := hT
  refine ⟨Nat.le_of_ble_eq_true rfl, fun _ _ _ => False, fun _ _ _ => 0, 50, ?_, fun _ _ _ _ _ _ h => h.elim⟩
  by_cases hp : 0 ≤ p ∧ p < 3
  · have hpE : (0 ≤ p ∧ p < 3) = True := eq_true hp
    replace h1 := h1 hp
    obtain ⟨hS, hR⟩ := hMP hp
    obtain ⟨hB, hl3, ⟨m4, m5, m6⟩, ⟨m7, m8, m9⟩, m12, ⟨m14, m13⟩, m15, ⟨m17, m16⟩, m26⟩ := (show MR σ o p U len st from hR)
    obtain ⟨b1, b2, b3, b4, b5, b6, b7⟩ := (show MB σ o p U len (st 1) from hB)
    obtain ⟨w0, w1, w2, w3, w4, w5, w6, w7, w8, w9, w10, w11, w12, w13, w14⟩ := (show SW U len st from hS)
    (obtain ⟨mh, mp0, mp2, mp3, mp4, mp5, mp6, mp7, mp8, mp9, mp10, mp11, mp12, mp13, mp14, mp15, mp16, mp17, mp18, mp19, mp20, mp21, mp22, mp24, mp25, mp26, mp27, mq0, mq2, mq3, mq4, mq5, mq6, mq7, mq8, mq9, mq10, mq11, mq12, mq13, mq14, mq15, mq16, mq17, mq18, mq19, mq20, mq21, mq22, mq24, mq25, mq26, mq27⟩ := (show LModel lay ρ _ from hL); unfold wps; simp only [hpE, find_e hL hS hR, si_iload_n0, si_iload_n1, si_iload_n2, si_iload_n3, si_iload, si_lload_n0, si_lload_n1, si_lload_n2, si_lload_n3, si_lload, si_aload_n0, si_aload_n1, si_aload_n2, si_aload_n3, si_aload, si_istore_n0, si_istore_n1, si_istore_n2, si_istore_n3, si_istore, si_astore_n0, si_astore_n1, si_astore_n2, si_astore_n3, si_astore, si_lstore_n0, si_lstore_n1, si_lstore_n2, si_lstore_n3, si_lstore, si_iconst, si_bipush, si_sipush, si_ldc, si_ldc2_w, si_lconst0, si_lconst1, si_aconst_null, si_iinc, si_dup, si_dup2, si_iadd, si_isub, si_imul, si_idiv, si_irem, si_iand, si_ior, si_ishl, si_ishr, si_ladd, si_lmul, si_lor, si_lxor, si_lshl, si_lushr, si_lcmp, si_i2b, si_i2l, si_l2i, si_icmp_eq, si_icmp_ne, si_icmp_lt, si_icmp_ge, si_icmp_gt, si_icmp_le, si_if_eq, si_if_ne, si_if_lt, si_if_ge, si_if_gt, si_if_le, si_ifnull, si_ifnonnull, si_goto, si_tableswitch, si_lookupswitch, si_getfield, si_putfield, si_getstatic, si_iaload, si_baload, si_laload, si_aaload, si_iastore, si_bastore, si_lastore, si_aastore, si_arraylength, si_new, si_newarray, si_anewarray, si_invokevirtual, si_invokespecial, si_invokestatic, si_ireturn, si_lreturn, si_areturn, si_return_, pI_e, pL_e, pR_e, pA_r, pA_n, pN_n, pN_r, oI_e, oL_e, oA_r, oA_n, lget_e, lrm1_0, lrm2_0, lrm1_i, lrm1_r, lrm1_n, lrm1_l, lrm2_i, lrm2_r, lrm2_n, lrm2_l, popN_0, popN_s, acat_i, acat_l, acat_r, acat_n, stw_0, stw_s, psh_s, psh_n, wgf_r, wgf_i, wgf_b, wgf_n, wgf_m, wpf_i, wpf_r, wpf_b, wnew_e, callE_e, rbk_0, rbk_1, tsw_0, tsw_s, lsw_0, lsw_s, wp_s, wq_t, wq_f, oV_e, pick_0, pick_s, oZ_e, oY_e, r_Model_value_0, r_Model_value_1, r_Model_value_4, r_Model_value_7, r_Model_value_8, r_Model_value_9, r_Model_value_10, r_Model_value_13, r_Model_value_16, r_Model_value_17, r_Model_value_19, r_Model_value_21, r_Model_value_24, r_Model_value_25, r_Model_value_28, r_Model_value_29, r_Model_value_30, r_Model_value_31, r_Model_value_32, r_Model_value_35, r_Model_value_38, r_Model_value_39, r_Model_value_40, r_Model_value_42, r_Model_value_43, r_Model_value_44, r_Model_value_47, r_Model_value_50, r_Model_value_51, r_Model_value_52, r_Model_value_53, r_Model_value_54, r_Model_value_55, r_Model_value_58, r_Model_value_61, r_Model_value_62, r_Model_value_63, r_Model_value_65, r_Model_value_66, r_Model_value_67, r_Model_value_68, r_Model_value_71, xf_Model_value_47, xe_Model_value_646, xe_Model_value_524, xe_Model_value_548, xe_Model_value_608, xd_Model_value, xrb_Model_value, xin_Model_value, T_Model_isPicture_e, TF_Model_isPicture, T_Model_valuesAt_e, TF_Model_valuesAt, T_Model_valueAt_e, TF_Model_valueAt, T_Model_find_e, MB_fu, mh, mp0, mp2, mp3, mp4, mp5, mp6, mp7, mp8, mp9, mp10, mp11, mp12, mp13, mp14, mp15, mp16, mp17, mp18, mp19, mp20, mp21, mp22, mp24, mp25, mp26, mp27, mq0, mq2, mq3, mq4, mq5, mq6, mq7, mq8, mq9, mq10, mq11, mq12, mq13, mq14, mq15, mq16, mq17, mq18, mq19, mq20, mq21, mq22, mq24, mq25, mq26, mq27, Nat.reduceAdd, Nat.reduceMul, Nat.reduceEqDiff, reduceIte, Int.reduceNeg, Int.reduceLE, Int.reduceLT, Int.reduceAdd, Int.reduceSub, Int.reduceToNat, true_and, and_true, inR_e, Nat.reduceLT, Nat.reduceLeDiff, reduceCtorEq, Nat.add_zero, Nat.zero_add, or_false, false_or, or_true, true_or, not_true_eq_false, not_false_eq_true, Classical.not_not, Nat.add_eq_zero_iff, and_false, false_and, Int.reduceEq, List.mem_cons, List.not_mem_nil, forall_eq_or_imp, forall_eq, false_implies, implies_true, forall_const, aargs_0, aargs_i, aargs_r, aargs_l, aargs_n, nfT_e, eq_self, and_self, Nat.le_refl, fu_s, fu_fu, iu_iu, iu_s, fu_am, fu_a0, fu_0a, iu_l, Nat.reduceBEq, Int.reduceBEq, T_objInit_e]; clear mp0 mp2 mp3 mp4 mp5 mp6 mp7 mp8 mp9 mp10 mp11 mp12 mp13 mp14 mp15 mp16 mp17 mp18 mp19 mp20 mp21 mp22 mp24 mp25 mp26 mp27)
    have fR := hS.fnR x
    refine ⟨fun a => (h1 σ QF.rf).2 (by omega), fun a => ⟨fun b => (h1 σ QF.rf).2 (by omega), fun b => ?_⟩⟩
    have tv := hS.tv (i := fn U st x) (by omega)
    rw [m13 (fn U st x) (by omega)]
    exact ⟨by omega, by omega, by omega, by omega, hL, U, len, st 1, hB, tv.1, fun c => ⟨fun d => ⟨by omega, by omega, by omega, by omega, hL, U, len, st 1, hB, tv, by omega, fun c2 => (h1 _ QF.ch).1 ⟨by omega, by omega, by omega⟩⟩, fun d => (h1 _ QF.ch).2 (by omega)⟩⟩
  · have hpE : (0 ≤ p ∧ p < 3) = False := eq_false hp
    (obtain ⟨mh, mp0, mp2, mp3, mp4, mp5, mp6, mp7, mp8, mp9, mp10, mp11, mp12, mp13, mp14, mp15, mp16, mp17, mp18, mp19, mp20, mp21, mp22, mp24, mp25, mp26, mp27, mq0, mq2, mq3, mq4, mq5, mq6, mq7, mq8, mq9, mq10, mq11, mq12, mq13, mq14, mq15, mq16, mq17, mq18, mq19, mq20, mq21, mq22, mq24, mq25, mq26, mq27⟩ := (show LModel lay ρ _ from hL); unfold wps; simp only [hpE, si_iload_n0, si_iload_n1, si_iload_n2, si_iload_n3, si_iload, si_lload_n0, si_lload_n1, si_lload_n2, si_lload_n3, si_lload, si_aload_n0, si_aload_n1, si_aload_n2, si_aload_n3, si_aload, si_istore_n0, si_istore_n1, si_istore_n2, si_istore_n3, si_istore, si_astore_n0, si_astore_n1, si_astore_n2, si_astore_n3, si_astore, si_lstore_n0, si_lstore_n1, si_lstore_n2, si_lstore_n3, si_lstore, si_iconst, si_bipush, si_sipush, si_ldc, si_ldc2_w, si_lconst0, si_lconst1, si_aconst_null, si_iinc, si_dup, si_dup2, si_iadd, si_isub, si_imul, si_idiv, si_irem, si_iand, si_ior, si_ishl, si_ishr, si_ladd, si_lmul, si_lor, si_lxor, si_lshl, si_lushr, si_lcmp, si_i2b, si_i2l, si_l2i, si_icmp_eq, si_icmp_ne, si_icmp_lt, si_icmp_ge, si_icmp_gt, si_icmp_le, si_if_eq, si_if_ne, si_if_lt, si_if_ge, si_if_gt, si_if_le, si_ifnull, si_ifnonnull, si_goto, si_tableswitch, si_lookupswitch, si_getfield, si_putfield, si_getstatic, si_iaload, si_baload, si_laload, si_aaload, si_iastore, si_bastore, si_lastore, si_aastore, si_arraylength, si_new, si_newarray, si_anewarray, si_invokevirtual, si_invokespecial, si_invokestatic, si_ireturn, si_lreturn, si_areturn, si_return_, pI_e, pL_e, pR_e, pA_r, pA_n, pN_n, pN_r, oI_e, oL_e, oA_r, oA_n, lget_e, lrm1_0, lrm2_0, lrm1_i, lrm1_r, lrm1_n, lrm1_l, lrm2_i, lrm2_r, lrm2_n, lrm2_l, popN_0, popN_s, acat_i, acat_l, acat_r, acat_n, stw_0, stw_s, psh_s, psh_n, wgf_r, wgf_i, wgf_b, wgf_n, wgf_m, wpf_i, wpf_r, wpf_b, wnew_e, callE_e, rbk_0, rbk_1, tsw_0, tsw_s, lsw_0, lsw_s, wp_s, wq_t, wq_f, oV_e, pick_0, pick_s, oZ_e, oY_e, r_Model_value_0, r_Model_value_1, r_Model_value_4, r_Model_value_7, r_Model_value_8, r_Model_value_9, r_Model_value_10, r_Model_value_13, r_Model_value_16, r_Model_value_17, r_Model_value_19, r_Model_value_21, r_Model_value_24, r_Model_value_25, r_Model_value_28, r_Model_value_29, r_Model_value_30, r_Model_value_31, r_Model_value_32, r_Model_value_35, r_Model_value_38, r_Model_value_39, r_Model_value_40, r_Model_value_42, r_Model_value_43, r_Model_value_44, r_Model_value_47, r_Model_value_50, r_Model_value_51, r_Model_value_52, r_Model_value_53, r_Model_value_54, r_Model_value_55, r_Model_value_58, r_Model_value_61, r_Model_value_62, r_Model_value_63, r_Model_value_65, r_Model_value_66, r_Model_value_67, r_Model_value_68, r_Model_value_71, xf_Model_value_47, xe_Model_value_646, xe_Model_value_524, xe_Model_value_548, xe_Model_value_608, xd_Model_value, xrb_Model_value, xin_Model_value, T_Model_isPicture_e, TF_Model_isPicture, T_Model_valuesAt_e, TF_Model_valuesAt, T_Model_valueAt_e, TF_Model_valueAt, T_Model_find_e, MB_fu, mh, mp0, mp2, mp3, mp4, mp5, mp6, mp7, mp8, mp9, mp10, mp11, mp12, mp13, mp14, mp15, mp16, mp17, mp18, mp19, mp20, mp21, mp22, mp24, mp25, mp26, mp27, mq0, mq2, mq3, mq4, mq5, mq6, mq7, mq8, mq9, mq10, mq11, mq12, mq13, mq14, mq15, mq16, mq17, mq18, mq19, mq20, mq21, mq22, mq24, mq25, mq26, mq27, Nat.reduceAdd, Nat.reduceMul, Nat.reduceEqDiff, reduceIte, Int.reduceNeg, Int.reduceLE, Int.reduceLT, Int.reduceAdd, Int.reduceSub, Int.reduceToNat, true_and, and_true, inR_e, Nat.reduceLT, Nat.reduceLeDiff, reduceCtorEq, Nat.add_zero, Nat.zero_add, or_false, false_or, or_true, true_or, not_true_eq_false, not_false_eq_true, Classical.not_not, Nat.add_eq_zero_iff, and_false, false_and, Int.reduceEq, List.mem_cons, List.not_mem_nil, forall_eq_or_imp, forall_eq, false_implies, implies_true, forall_const, aargs_0, aargs_i, aargs_r, aargs_l, aargs_n, nfT_e, eq_self, and_self, Nat.le_refl, fu_s, fu_fu, iu_iu, iu_s, fu_am, fu_a0, fu_0a, iu_l, Nat.reduceBEq, Int.reduceBEq, T_objInit_e]; clear mp0 mp2 mp3 mp4 mp5 mp6 mp7 mp8 mp9 mp10 mp11 mp12 mp13 mp14 mp15 mp16 mp17 mp18 mp19 mp20 mp21 mp22 mp24 mp25 mp26 mp27)
    exact h0 hp
def TF_Model_ref (o : Nat) (p : Int) (x : Int) (j : Int) (sz sl : Nat) (lay : Nat → Nat × Int) (ρ : Nat → Int → Nat) (σ : Nat → Int → Int) (τ : Nat → Int → Int64) (k : Option AV → Mm → Prop) : Prop := LModel lay ρ o ∧ ∃ (U : Int → Int) (len : Int) (st : Nat → Int → Int), MdP σ o p U len st ∧ (0 ≤ p ∧ p < 3 → ∀ σ2 : Nat → Int → Int, QF σ σ2 o → (0 ≤ fn U st x → ∀ i : Nat, i < nV U (st 1) (st 2 (fn U st x)) → sA U (st 1) (st 2 (fn U st x)) i = 5 → r5 U (st 1) (st 2 (fn U st x)) i = j → k (some (vI (vZ U (st 1) (st 2 (fn U st x)) i))) (sz, sl, lay, ρ, σ2, τ)) ∧ (¬ (0 ≤ fn U st x ∧ 0 ≤ j ∧ j < r5 U (st 1) (st 2 (fn U st x)) (nV U (st 1) (st 2 (fn U st x))).toNat) → k (some (vI (-1))) (sz, sl, lay, ρ, σ2, τ))) ∧ (¬ (0 ≤ p ∧ p < 3) → k (some (vI (-1))) (sz, sl, lay, ρ, σ, τ))
def T_Model_ref : Tr := mkT 11 fun o as M k => pI as fun p as => pI as fun x as => pI as fun j as => as = [] ∧ TF_Model_ref o p x j M.1 M.2.1 M.2.2.1 M.2.2.2.1 M.2.2.2.2.1 M.2.2.2.2.2 k
theorem T_Model_ref_e {o : Nat} {p : Int} {x : Int} {j : Int} {sz sl : Nat} {lay : Nat → Nat × Int} {ρ : Nat → Int → Nat} {σ : Nat → Int → Int} {τ : Nat → Int → Int64} {k : Option AV → Mm → Prop} : T_Model_ref [vR o, vI p, vI x, vI j] (sz, sl, lay, ρ, σ, τ) k = (lay o = (21, 0) ∧ TF_Model_ref o p x j sz sl lay ρ σ τ k) := by simp [T_Model_ref, mkT_e, pI_e, pR_e, pL_e]
theorem T_Model_ref_r (as : List AV) (M : Mm) (k : Option AV → Mm → Prop) (h : T_Model_ref as M k) : ∃ b As, as = vR b :: As ∧ M.2.2.1 b = (10 + 11, 0) := by
  obtain ⟨b, As, h1, h2, -⟩ := mkT_r h
  exact ⟨b, As, h1, h2⟩
def tb_Model_ref : List (Nat × Option (List Nat) × Instr × List Nat) := [(0, none, .iload_n 1, []), (1, none, .invokestatic 161, []), (4, none, .ifCond .eq 12, [16]), (7, none, .aload_n 0, []), (8, none, .iload_n 1, []), (9, none, .iload_n 2, []), (10, none, .invokevirtual 152, []), (13, none, .goto 4, [17]), (16, none, .iconst (-1), []), (17, none, .istore 4, []), (19, none, .iload 4, []), (21, none, .ifCond .lt 7, [28]), (24, none, .iload_n 3, []), (25, none, .ifCond .ge 5, [30]), (28, none, .iconst (-1), []), (29, none, .ireturn, []), (30, none, .aload_n 0, []), (31, none, .getfield 47, []), (34, none, .sipush 600, []), (37, none, .iload_n 1, []), (38, none, .imul, []), (39, none, .iload 4, []), (41, none, .iadd, []), (42, none, .iaload, []), (43, none, .istore 5, []), (45, none, .aload_n 0, []), (46, none, .iload_n 1, []), (47, none, .iload 5, []), (49, none, .invokevirtual 131, []), (52, none, .istore 6, []), (54, none, .iload_n 3, []), (55, none, .istore 7, []), (57, none, .iconst 0, []), (58, none, .istore 8, []), (60, some [0, 1, 2, 3, 4, 5, 6, 7, 8], .iload 8, []), (62, none, .iload 6, []), (64, none, .if_icmp .ge 41, [105]), (67, none, .aload_n 0, []), (68, none, .iload_n 1, []), (69, none, .iload 5, []), (71, none, .iload 8, []), (73, none, .invokevirtual 121, []), (76, none, .iconst 5, []), (77, none, .if_icmp .ne 22, [99]), (80, none, .iload 7, []), (82, none, .ifCond .ne 14, [96]), (85, none, .aload_n 0, []), (86, none, .iload_n 1, []), (87, none, .iload 5, []), (89, none, .iload 8, []), (91, none, .invokevirtual 137, []), (94, none, .l2i, []), (95, none, .ireturn, []), (96, none, .iinc 7 (-1), []), (99, none, .iinc 8 1, []), (102, none, .goto (-42), [60]), (105, none, .iconst (-1), []), (106, none, .ireturn, [])]
def P_Model_ref : Nat → Option (List Nat) × Instr × List Nat := plk tb_Model_ref
theorem r_Model_ref_0 : P_Model_ref 0 = (none, .iload_n 1, []) := by decide +kernel
theorem r_Model_ref_1 : P_Model_ref 1 = (none, .invokestatic 161, []) := by decide +kernel
theorem r_Model_ref_4 : P_Model_ref 4 = (none, .ifCond .eq 12, [16]) := by decide +kernel
theorem r_Model_ref_7 : P_Model_ref 7 = (none, .aload_n 0, []) := by decide +kernel
theorem r_Model_ref_8 : P_Model_ref 8 = (none, .iload_n 1, []) := by decide +kernel
theorem r_Model_ref_9 : P_Model_ref 9 = (none, .iload_n 2, []) := by decide +kernel
theorem r_Model_ref_10 : P_Model_ref 10 = (none, .invokevirtual 152, []) := by decide +kernel
theorem r_Model_ref_13 : P_Model_ref 13 = (none, .goto 4, [17]) := by decide +kernel
theorem r_Model_ref_16 : P_Model_ref 16 = (none, .iconst (-1), []) := by decide +kernel
theorem r_Model_ref_17 : P_Model_ref 17 = (none, .istore 4, []) := by decide +kernel
theorem r_Model_ref_19 : P_Model_ref 19 = (none, .iload 4, []) := by decide +kernel
theorem r_Model_ref_21 : P_Model_ref 21 = (none, .ifCond .lt 7, [28]) := by decide +kernel
theorem r_Model_ref_24 : P_Model_ref 24 = (none, .iload_n 3, []) := by decide +kernel
theorem r_Model_ref_25 : P_Model_ref 25 = (none, .ifCond .ge 5, [30]) := by decide +kernel
theorem r_Model_ref_28 : P_Model_ref 28 = (none, .iconst (-1), []) := by decide +kernel
theorem r_Model_ref_29 : P_Model_ref 29 = (none, .ireturn, []) := by decide +kernel
theorem r_Model_ref_30 : P_Model_ref 30 = (none, .aload_n 0, []) := by decide +kernel
theorem r_Model_ref_31 : P_Model_ref 31 = (none, .getfield 47, []) := by decide +kernel
theorem r_Model_ref_34 : P_Model_ref 34 = (none, .sipush 600, []) := by decide +kernel
theorem r_Model_ref_37 : P_Model_ref 37 = (none, .iload_n 1, []) := by decide +kernel
theorem r_Model_ref_38 : P_Model_ref 38 = (none, .imul, []) := by decide +kernel
theorem r_Model_ref_39 : P_Model_ref 39 = (none, .iload 4, []) := by decide +kernel
theorem r_Model_ref_41 : P_Model_ref 41 = (none, .iadd, []) := by decide +kernel
theorem r_Model_ref_42 : P_Model_ref 42 = (none, .iaload, []) := by decide +kernel
theorem r_Model_ref_43 : P_Model_ref 43 = (none, .istore 5, []) := by decide +kernel
theorem r_Model_ref_45 : P_Model_ref 45 = (none, .aload_n 0, []) := by decide +kernel
theorem r_Model_ref_46 : P_Model_ref 46 = (none, .iload_n 1, []) := by decide +kernel
theorem r_Model_ref_47 : P_Model_ref 47 = (none, .iload 5, []) := by decide +kernel
theorem r_Model_ref_49 : P_Model_ref 49 = (none, .invokevirtual 131, []) := by decide +kernel
theorem r_Model_ref_52 : P_Model_ref 52 = (none, .istore 6, []) := by decide +kernel
theorem r_Model_ref_54 : P_Model_ref 54 = (none, .iload_n 3, []) := by decide +kernel
theorem r_Model_ref_55 : P_Model_ref 55 = (none, .istore 7, []) := by decide +kernel
theorem r_Model_ref_57 : P_Model_ref 57 = (none, .iconst 0, []) := by decide +kernel
theorem r_Model_ref_58 : P_Model_ref 58 = (none, .istore 8, []) := by decide +kernel
theorem r_Model_ref_60 : P_Model_ref 60 = (some [0, 1, 2, 3, 4, 5, 6, 7, 8], .iload 8, []) := by decide +kernel
theorem r_Model_ref_62 : P_Model_ref 62 = (none, .iload 6, []) := by decide +kernel
theorem r_Model_ref_64 : P_Model_ref 64 = (none, .if_icmp .ge 41, [105]) := by decide +kernel
theorem r_Model_ref_67 : P_Model_ref 67 = (none, .aload_n 0, []) := by decide +kernel
theorem r_Model_ref_68 : P_Model_ref 68 = (none, .iload_n 1, []) := by decide +kernel
theorem r_Model_ref_69 : P_Model_ref 69 = (none, .iload 5, []) := by decide +kernel
theorem r_Model_ref_71 : P_Model_ref 71 = (none, .iload 8, []) := by decide +kernel
theorem r_Model_ref_73 : P_Model_ref 73 = (none, .invokevirtual 121, []) := by decide +kernel
theorem r_Model_ref_76 : P_Model_ref 76 = (none, .iconst 5, []) := by decide +kernel
theorem r_Model_ref_77 : P_Model_ref 77 = (none, .if_icmp .ne 22, [99]) := by decide +kernel
theorem r_Model_ref_80 : P_Model_ref 80 = (none, .iload 7, []) := by decide +kernel
theorem r_Model_ref_82 : P_Model_ref 82 = (none, .ifCond .ne 14, [96]) := by decide +kernel
theorem r_Model_ref_85 : P_Model_ref 85 = (none, .aload_n 0, []) := by decide +kernel
theorem r_Model_ref_86 : P_Model_ref 86 = (none, .iload_n 1, []) := by decide +kernel
theorem r_Model_ref_87 : P_Model_ref 87 = (none, .iload 5, []) := by decide +kernel
theorem r_Model_ref_89 : P_Model_ref 89 = (none, .iload 8, []) := by decide +kernel
theorem r_Model_ref_91 : P_Model_ref 91 = (none, .invokevirtual 137, []) := by decide +kernel
theorem r_Model_ref_94 : P_Model_ref 94 = (none, .l2i, []) := by decide +kernel
theorem r_Model_ref_95 : P_Model_ref 95 = (none, .ireturn, []) := by decide +kernel
theorem r_Model_ref_96 : P_Model_ref 96 = (none, .iinc 7 (-1), []) := by decide +kernel
theorem r_Model_ref_99 : P_Model_ref 99 = (none, .iinc 8 1, []) := by decide +kernel
theorem r_Model_ref_102 : P_Model_ref 102 = (none, .goto (-42), [60]) := by decide +kernel
theorem r_Model_ref_105 : P_Model_ref 105 = (none, .iconst (-1), []) := by decide +kernel
theorem r_Model_ref_106 : P_Model_ref 106 = (none, .ireturn, []) := by decide +kernel
def E_Model_ref : List (Nat × Ent) := [(646, (1, 0, 0, 0, T_Model_isPicture)), (484, (4, 3, 0, 0, T_Model_sortAt)), (524, (3, 3, 0, 0, T_Model_valuesAt)), (548, (4, 5, 0, 0, T_Model_valueAt)), (608, (3, 0, 0, 0, T_Model_find))]
def X_Model_ref : Cx := (llk (0, 0, 9) ftX11, llk 99 ntX11, llk none kcX11, llk none klX11, llk dEnt E_Model_ref, 6, 0, false)
theorem xok_Model_ref : Xok RX11 X_Model_ref := xok_of ftX11_ok ntX11_ok kcX11_ok klX11_ok (E := E_Model_ref) (List.forall_mem_cons.mpr ⟨co_X11_646, List.forall_mem_cons.mpr ⟨co_X11_484, List.forall_mem_cons.mpr ⟨co_X11_524, List.forall_mem_cons.mpr ⟨co_X11_548, List.forall_mem_cons.mpr ⟨co_X11_608, fun _ h => absurd h List.not_mem_nil⟩⟩⟩⟩⟩)
theorem xf_Model_ref_47 : xfl X_Model_ref 47 = (11, 13, 1) := by decide +kernel
theorem xe_Model_ref_646 : xE X_Model_ref (4 * 161 + 2) = (1, 0, 0, 0, T_Model_isPicture) := rfl
theorem xe_Model_ref_484 : xE X_Model_ref (4 * 121 + 0) = (4, 3, 0, 0, T_Model_sortAt) := rfl
theorem xe_Model_ref_524 : xE X_Model_ref (4 * 131 + 0) = (3, 3, 0, 0, T_Model_valuesAt) := rfl
theorem xe_Model_ref_548 : xE X_Model_ref (4 * 137 + 0) = (4, 5, 0, 0, T_Model_valueAt) := rfl
theorem xe_Model_ref_608 : xE X_Model_ref (4 * 152 + 0) = (3, 0, 0, 0, T_Model_find) := rfl
theorem xd_Model_ref : xd X_Model_ref = 6 := rfl
theorem xrb_Model_ref : xrb X_Model_ref = 0 := rfl
theorem xin_Model_ref : xin X_Model_ref = false := rfl
set_option maxHeartbeats 4000000 in
set_option maxRecDepth 100000 in
theorem S_Model_ref : Snd yX11_ref cX11_ref 9 (some .int) T_Model_ref 6 0 0 := by
  refine snd_of (X := X_Model_ref) (P := P_Model_ref) (tb := tb_Model_ref) (own := RX11) (by decide) rfl rfl (by decide +kernel) xok_Model_ref rfl rk0 (fun h => by first | rfl | cases h) ?_
  intro as M k has hM hT0
  obtain ⟨sz, sl, lay, ρ, σ, τ⟩ := M
  obtain ⟨o, as1, e, hlo, hT1⟩ := mkT_r hT0
  clear hT0
  subst e
  obtain ⟨p, as2, e, hT2⟩ := pI_x hT1
  clear hT1
  subst e
  obtain ⟨x, as3, e, hT3⟩ := pI_x hT2
  clear hT2
  subst e
  obtain ⟨j, as4, e, hT4⟩ := pI_x hT3
  clear hT3
  subst e
  obtain ⟨e, hT⟩ := hT4
  subst e
  replace hlo : lay o = (21, 0) := hlo
  have r_p : -2147483648 ≤ p ∧ p ≤ 2147483647 := has (vI p) (by simp)
  have r_x : -2147483648 ≤ x ∧ x ≤ 2147483647 := has (vI x) (by simp)
  have r_j : -2147483648 ≤ j ∧ j ≤ 2147483647 := has (vI j) (by simp)
  clear has
  replace hM : ∀ a i, -2147483648 ≤ σ a i ∧ σ a i ≤ 2147483647 := hM
  replace hT : TF_Model_ref o p x j sz sl lay ρ σ τ k := hT
  unfold TF_Model_ref at hT
  obtain ⟨hL, U, len, st, hMP, h1, h0⟩ := hT
  obtain ⟨J, hJd⟩ : ∃ J : Nat → List AV → Mm → Prop, J = (fun c vs M1 => (0 ≤ p ∧ p < 3) ∧ (c = 60 ∧ (0 ≤ fn U st x ∧ fn U st x < st 0 7) ∧ ∃ (c : Int → Int) (i : Nat), (i : Int) ≤ nV U (st 1) (st 2 (fn U st x)) ∧ r5 U (st 1) (st 2 (fn U st x)) i ≤ j ∧ vs = [vR o, vI p, vI x, vI j, vI (fn U st x), vI (st 2 (fn U st x)), vI (nV U (st 1) (st 2 (fn U st x))), vI (j - r5 U (st 1) (st 2 (fn U st x)) i), vI (i : Int)] ∧ M1 = (sz, sl, lay, ρ, fu σ (o + 23) c, τ))) := ⟨_, rfl⟩
  obtain ⟨μ, hμ⟩ : ∃ μ : Nat → List AV → Mm → Nat, μ = (fun _ vs _ => (1000 - gI (vs.getD 8 vN)).toNat) := ⟨_, rfl⟩
  refine ⟨Nat.le_of_ble_eq_true rfl, J, μ, 66, ?_, ?_⟩
  · skip
    by_cases hp : 0 ≤ p ∧ p < 3
    · have hpE : (0 ≤ p ∧ p < 3) = True := eq_true hp
      replace h1 := h1 hp
      obtain ⟨hS, hR⟩ := hMP hp
      obtain ⟨hB, hl3, ⟨m4, m5, m6⟩, ⟨m7, m8, m9⟩, m12, ⟨m14, m13⟩, m15, ⟨m17, m16⟩, m26⟩ := (show MR σ o p U len st from hR)
      obtain ⟨b1, b2, b3, b4, b5, b6, b7⟩ := (show MB σ o p U len (st 1) from hB)
      obtain ⟨w0, w1, w2, w3, w4, w5, w6, w7, w8, w9, w10, w11, w12, w13, w14⟩ := (show SW U len st from hS)
      (obtain ⟨mh, mp0, mp2, mp3, mp4, mp5, mp6, mp7, mp8, mp9, mp10, mp11, mp12, mp13, mp14, mp15, mp16, mp17, mp18, mp19, mp20, mp21, mp22, mp24, mp25, mp26, mp27, mq0, mq2, mq3, mq4, mq5, mq6, mq7, mq8, mq9, mq10, mq11, mq12, mq13, mq14, mq15, mq16, mq17, mq18, mq19, mq20, mq21, mq22, mq24, mq25, mq26, mq27⟩ := (show LModel lay ρ _ from hL); unfold wps; simp only [hpE, find_e hL hS hR, si_iload_n0, si_iload_n1, si_iload_n2, si_iload_n3, si_iload, si_lload_n0, si_lload_n1, si_lload_n2, si_lload_n3, si_lload, si_aload_n0, si_aload_n1, si_aload_n2, si_aload_n3, si_aload, si_istore_n0, si_istore_n1, si_istore_n2, si_istore_n3, si_istore, si_astore_n0, si_astore_n1, si_astore_n2, si_astore_n3, si_astore, si_lstore_n0, si_lstore_n1, si_lstore_n2, si_lstore_n3, si_lstore, si_iconst, si_bipush, si_sipush, si_ldc, si_ldc2_w, si_lconst0, si_lconst1, si_aconst_null, si_iinc, si_dup, si_dup2, si_iadd, si_isub, si_imul, si_idiv, si_irem, si_iand, si_ior, si_ishl, si_ishr, si_ladd, si_lmul, si_lor, si_lxor, si_lshl, si_lushr, si_lcmp, si_i2b, si_i2l, si_l2i, si_icmp_eq, si_icmp_ne, si_icmp_lt, si_icmp_ge, si_icmp_gt, si_icmp_le, si_if_eq, si_if_ne, si_if_lt, si_if_ge, si_if_gt, si_if_le, si_ifnull, si_ifnonnull, si_goto, si_tableswitch, si_lookupswitch, si_getfield, si_putfield, si_getstatic, si_iaload, si_baload, si_laload, si_aaload, si_iastore, si_bastore, si_lastore, si_aastore, si_arraylength, si_new, si_newarray, si_anewarray, si_invokevirtual, si_invokespecial, si_invokestatic, si_ireturn, si_lreturn, si_areturn, si_return_, pI_e, pL_e, pR_e, pA_r, pA_n, pN_n, pN_r, oI_e, oL_e, oA_r, oA_n, lget_e, lrm1_0, lrm2_0, lrm1_i, lrm1_r, lrm1_n, lrm1_l, lrm2_i, lrm2_r, lrm2_n, lrm2_l, popN_0, popN_s, acat_i, acat_l, acat_r, acat_n, stw_0, stw_s, psh_s, psh_n, wgf_r, wgf_i, wgf_b, wgf_n, wgf_m, wpf_i, wpf_r, wpf_b, wnew_e, callE_e, rbk_0, rbk_1, tsw_0, tsw_s, lsw_0, lsw_s, wp_s, wq_t, wq_f, oV_e, pick_0, pick_s, oZ_e, oY_e, r_Model_ref_0, r_Model_ref_1, r_Model_ref_4, r_Model_ref_7, r_Model_ref_8, r_Model_ref_9, r_Model_ref_10, r_Model_ref_13, r_Model_ref_16, r_Model_ref_17, r_Model_ref_19, r_Model_ref_21, r_Model_ref_24, r_Model_ref_25, r_Model_ref_28, r_Model_ref_29, r_Model_ref_30, r_Model_ref_31, r_Model_ref_34, r_Model_ref_37, r_Model_ref_38, r_Model_ref_39, r_Model_ref_41, r_Model_ref_42, r_Model_ref_43, r_Model_ref_45, r_Model_ref_46, r_Model_ref_47, r_Model_ref_49, r_Model_ref_52, r_Model_ref_54, r_Model_ref_55, r_Model_ref_57, r_Model_ref_58, r_Model_ref_60, r_Model_ref_62, r_Model_ref_64, r_Model_ref_67, r_Model_ref_68, r_Model_ref_69, r_Model_ref_71, r_Model_ref_73, r_Model_ref_76, r_Model_ref_77, r_Model_ref_80, r_Model_ref_82, r_Model_ref_85, r_Model_ref_86, r_Model_ref_87, r_Model_ref_89, r_Model_ref_91, r_Model_ref_94, r_Model_ref_95, r_Model_ref_96, r_Model_ref_99, r_Model_ref_102, r_Model_ref_105, r_Model_ref_106, xf_Model_ref_47, xe_Model_ref_646, xe_Model_ref_484, xe_Model_ref_524, xe_Model_ref_548, xe_Model_ref_608, xd_Model_ref, xrb_Model_ref, xin_Model_ref, T_Model_isPicture_e, TF_Model_isPicture, T_Model_sortAt_e, TF_Model_sortAt, T_Model_valuesAt_e, TF_Model_valuesAt, T_Model_valueAt_e, TF_Model_valueAt, T_Model_find_e, mh, mp0, mp2, mp3, mp4, mp5, mp6, mp7, mp8, mp9, mp10, mp11, mp12, mp13, mp14, mp15, mp16, mp17, mp18, mp19, mp20, mp21, mp22, mp24, mp25, mp26, mp27, mq0, mq2, mq3, mq4, mq5, mq6, mq7, mq8, mq9, mq10, mq11, mq12, mq13, mq14, mq15, mq16, mq17, mq18, mq19, mq20, mq21, mq22, mq24, mq25, mq26, mq27, Nat.reduceAdd, Nat.reduceMul, Nat.reduceEqDiff, reduceIte, Int.reduceNeg, Int.reduceLE, Int.reduceLT, Int.reduceAdd, Int.reduceSub, Int.reduceToNat, true_and, and_true, inR_e, Nat.reduceLT, Nat.reduceLeDiff, reduceCtorEq, Nat.add_zero, Nat.zero_add, or_false, false_or, or_true, true_or, not_true_eq_false, not_false_eq_true, Classical.not_not, Nat.add_eq_zero_iff, and_false, false_and, Int.reduceEq, List.mem_cons, List.not_mem_nil, forall_eq_or_imp, forall_eq, false_implies, implies_true, forall_const, aargs_0, aargs_i, aargs_r, aargs_l, aargs_n, nfT_e, eq_self, and_self, Nat.le_refl, fu_s, fu_fu, iu_iu, iu_s, fu_am, fu_a0, fu_0a, iu_l, Nat.reduceBEq, Int.reduceBEq, T_objInit_e]; clear mp0 mp2 mp3 mp4 mp5 mp6 mp7 mp8 mp9 mp10 mp11 mp12 mp13 mp14 mp15 mp16 mp17 mp18 mp19 mp20 mp21 mp22 mp24 mp25 mp26 mp27)
      have fR := hS.fnR x
      refine ⟨fun a => (h1 σ QF.rf).2 (by omega), fun a => ⟨fun b => ?_, fun b => (h1 σ QF.rf).2 (by omega)⟩⟩
      have tv := hS.tv (i := fn U st x) (by omega)
      have nv := tv.1.1.nv w0
      rw [m13 (fn U st x) (by omega)]
      refine ⟨by omega, by omega, by omega, by omega, hL, U, len, st 1, hB, tv.1, fun c => ?_⟩
      rw [hJd]
      exact ⟨hp, rfl, by omega, c, 0, by omega, b, by rw [show r5 U (st 1) (st 2 (fn U st x)) 0 = 0 from rfl, Int.sub_zero]; rfl, rfl⟩
    · have hpE : (0 ≤ p ∧ p < 3) = False := eq_false hp
      (obtain ⟨mh, mp0, mp2, mp3, mp4, mp5, mp6, mp7, mp8, mp9, mp10, mp11, mp12, mp13, mp14, mp15, mp16, mp17, mp18, mp19, mp20, mp21, mp22, mp24, mp25, mp26, mp27, mq0, mq2, mq3, mq4, mq5, mq6, mq7, mq8, mq9, mq10, mq11, mq12, mq13, mq14, mq15, mq16, mq17, mq18, mq19, mq20, mq21, mq22, mq24, mq25, mq26, mq27⟩ := (show LModel lay ρ _ from hL); unfold wps; simp only [hpE, si_iload_n0, si_iload_n1, si_iload_n2, si_iload_n3, si_iload, si_lload_n0, si_lload_n1, si_lload_n2, si_lload_n3, si_lload, si_aload_n0, si_aload_n1, si_aload_n2, si_aload_n3, si_aload, si_istore_n0, si_istore_n1, si_istore_n2, si_istore_n3, si_istore, si_astore_n0, si_astore_n1, si_astore_n2, si_astore_n3, si_astore, si_lstore_n0, si_lstore_n1, si_lstore_n2, si_lstore_n3, si_lstore, si_iconst, si_bipush, si_sipush, si_ldc, si_ldc2_w, si_lconst0, si_lconst1, si_aconst_null, si_iinc, si_dup, si_dup2, si_iadd, si_isub, si_imul, si_idiv, si_irem, si_iand, si_ior, si_ishl, si_ishr, si_ladd, si_lmul, si_lor, si_lxor, si_lshl, si_lushr, si_lcmp, si_i2b, si_i2l, si_l2i, si_icmp_eq, si_icmp_ne, si_icmp_lt, si_icmp_ge, si_icmp_gt, si_icmp_le, si_if_eq, si_if_ne, si_if_lt, si_if_ge, si_if_gt, si_if_le, si_ifnull, si_ifnonnull, si_goto, si_tableswitch, si_lookupswitch, si_getfield, si_putfield, si_getstatic, si_iaload, si_baload, si_laload, si_aaload, si_iastore, si_bastore, si_lastore, si_aastore, si_arraylength, si_new, si_newarray, si_anewarray, si_invokevirtual, si_invokespecial, si_invokestatic, si_ireturn, si_lreturn, si_areturn, si_return_, pI_e, pL_e, pR_e, pA_r, pA_n, pN_n, pN_r, oI_e, oL_e, oA_r, oA_n, lget_e, lrm1_0, lrm2_0, lrm1_i, lrm1_r, lrm1_n, lrm1_l, lrm2_i, lrm2_r, lrm2_n, lrm2_l, popN_0, popN_s, acat_i, acat_l, acat_r, acat_n, stw_0, stw_s, psh_s, psh_n, wgf_r, wgf_i, wgf_b, wgf_n, wgf_m, wpf_i, wpf_r, wpf_b, wnew_e, callE_e, rbk_0, rbk_1, tsw_0, tsw_s, lsw_0, lsw_s, wp_s, wq_t, wq_f, oV_e, pick_0, pick_s, oZ_e, oY_e, r_Model_ref_0, r_Model_ref_1, r_Model_ref_4, r_Model_ref_7, r_Model_ref_8, r_Model_ref_9, r_Model_ref_10, r_Model_ref_13, r_Model_ref_16, r_Model_ref_17, r_Model_ref_19, r_Model_ref_21, r_Model_ref_24, r_Model_ref_25, r_Model_ref_28, r_Model_ref_29, r_Model_ref_30, r_Model_ref_31, r_Model_ref_34, r_Model_ref_37, r_Model_ref_38, r_Model_ref_39, r_Model_ref_41, r_Model_ref_42, r_Model_ref_43, r_Model_ref_45, r_Model_ref_46, r_Model_ref_47, r_Model_ref_49, r_Model_ref_52, r_Model_ref_54, r_Model_ref_55, r_Model_ref_57, r_Model_ref_58, r_Model_ref_60, r_Model_ref_62, r_Model_ref_64, r_Model_ref_67, r_Model_ref_68, r_Model_ref_69, r_Model_ref_71, r_Model_ref_73, r_Model_ref_76, r_Model_ref_77, r_Model_ref_80, r_Model_ref_82, r_Model_ref_85, r_Model_ref_86, r_Model_ref_87, r_Model_ref_89, r_Model_ref_91, r_Model_ref_94, r_Model_ref_95, r_Model_ref_96, r_Model_ref_99, r_Model_ref_102, r_Model_ref_105, r_Model_ref_106, xf_Model_ref_47, xe_Model_ref_646, xe_Model_ref_484, xe_Model_ref_524, xe_Model_ref_548, xe_Model_ref_608, xd_Model_ref, xrb_Model_ref, xin_Model_ref, T_Model_isPicture_e, TF_Model_isPicture, T_Model_sortAt_e, TF_Model_sortAt, T_Model_valuesAt_e, TF_Model_valuesAt, T_Model_valueAt_e, TF_Model_valueAt, T_Model_find_e, mh, mp0, mp2, mp3, mp4, mp5, mp6, mp7, mp8, mp9, mp10, mp11, mp12, mp13, mp14, mp15, mp16, mp17, mp18, mp19, mp20, mp21, mp22, mp24, mp25, mp26, mp27, mq0, mq2, mq3, mq4, mq5, mq6, mq7, mq8, mq9, mq10, mq11, mq12, mq13, mq14, mq15, mq16, mq17, mq18, mq19, mq20, mq21, mq22, mq24, mq25, mq26, mq27, Nat.reduceAdd, Nat.reduceMul, Nat.reduceEqDiff, reduceIte, Int.reduceNeg, Int.reduceLE, Int.reduceLT, Int.reduceAdd, Int.reduceSub, Int.reduceToNat, true_and, and_true, inR_e, Nat.reduceLT, Nat.reduceLeDiff, reduceCtorEq, Nat.add_zero, Nat.zero_add, or_false, false_or, or_true, true_or, not_true_eq_false, not_false_eq_true, Classical.not_not, Nat.add_eq_zero_iff, and_false, false_and, Int.reduceEq, List.mem_cons, List.not_mem_nil, forall_eq_or_imp, forall_eq, false_implies, implies_true, forall_const, aargs_0, aargs_i, aargs_r, aargs_l, aargs_n, nfT_e, eq_self, and_self, Nat.le_refl, fu_s, fu_fu, iu_iu, iu_s, fu_am, fu_a0, fu_0a, iu_l, Nat.reduceBEq, Int.reduceBEq, T_objInit_e]; clear mp0 mp2 mp3 mp4 mp5 mp6 mp7 mp8 mp9 mp10 mp11 mp12 mp13 mp14 mp15 mp16 mp17 mp18 mp19 mp20 mp21 mp22 mp24 mp25 mp26 mp27)
      exact h0 hp
  · intro cp vs M1 hvs hM1 hlen hJ
    rw [hJd] at hJ
    obtain ⟨hp, hJ⟩ := hJ
    have hpE : (0 ≤ p ∧ p < 3) = True := eq_true hp
    replace h1 := h1 hp
    obtain ⟨hS, hR⟩ := hMP hp
    obtain ⟨w0, w1, w2, w3, w4, w5, w6, w7, w8, w9, w10, w11, w12, w13, w14⟩ := (show SW U len st from hS)
    obtain ⟨rfl, hf, c, i, g1, g2, rfl, rfl⟩ := hJ
    obtain ⟨hB, hl3, ⟨m4, m5, m6⟩, ⟨m7, m8, m9⟩, m12, ⟨m14, m13⟩, m15, ⟨m17, m16⟩, m26⟩ := (show MR σ o p U len st from hR)
    have tv := hS.tv (i := fn U st x) (by omega)
    have nv := tv.1.1.nv w0
    have cz := cntZ_R (fun k => decide (sA U (st 1) (st 2 (fn U st x)) k = 5)) i
    have cz2 : 0 ≤ r5 U (st 1) (st 2 (fn U st x)) i ∧ r5 U (st 1) (st 2 (fn U st x)) i ≤ i := cz
    (obtain ⟨mh, mp0, mp2, mp3, mp4, mp5, mp6, mp7, mp8, mp9, mp10, mp11, mp12, mp13, mp14, mp15, mp16, mp17, mp18, mp19, mp20, mp21, mp22, mp24, mp25, mp26, mp27, mq0, mq2, mq3, mq4, mq5, mq6, mq7, mq8, mq9, mq10, mq11, mq12, mq13, mq14, mq15, mq16, mq17, mq18, mq19, mq20, mq21, mq22, mq24, mq25, mq26, mq27⟩ := (show LModel lay ρ _ from hL); unfold wps; simp only [Option.getD_some, List.zip_cons_cons, List.zip_nil_left, List.zip_nil_right, List.zip_nil_right, MB_fu, si_iload_n0, si_iload_n1, si_iload_n2, si_iload_n3, si_iload, si_lload_n0, si_lload_n1, si_lload_n2, si_lload_n3, si_lload, si_aload_n0, si_aload_n1, si_aload_n2, si_aload_n3, si_aload, si_istore_n0, si_istore_n1, si_istore_n2, si_istore_n3, si_istore, si_astore_n0, si_astore_n1, si_astore_n2, si_astore_n3, si_astore, si_lstore_n0, si_lstore_n1, si_lstore_n2, si_lstore_n3, si_lstore, si_iconst, si_bipush, si_sipush, si_ldc, si_ldc2_w, si_lconst0, si_lconst1, si_aconst_null, si_iinc, si_dup, si_dup2, si_iadd, si_isub, si_imul, si_idiv, si_irem, si_iand, si_ior, si_ishl, si_ishr, si_ladd, si_lmul, si_lor, si_lxor, si_lshl, si_lushr, si_lcmp, si_i2b, si_i2l, si_l2i, si_icmp_eq, si_icmp_ne, si_icmp_lt, si_icmp_ge, si_icmp_gt, si_icmp_le, si_if_eq, si_if_ne, si_if_lt, si_if_ge, si_if_gt, si_if_le, si_ifnull, si_ifnonnull, si_goto, si_tableswitch, si_lookupswitch, si_getfield, si_putfield, si_getstatic, si_iaload, si_baload, si_laload, si_aaload, si_iastore, si_bastore, si_lastore, si_aastore, si_arraylength, si_new, si_newarray, si_anewarray, si_invokevirtual, si_invokespecial, si_invokestatic, si_ireturn, si_lreturn, si_areturn, si_return_, pI_e, pL_e, pR_e, pA_r, pA_n, pN_n, pN_r, oI_e, oL_e, oA_r, oA_n, lget_e, lrm1_0, lrm2_0, lrm1_i, lrm1_r, lrm1_n, lrm1_l, lrm2_i, lrm2_r, lrm2_n, lrm2_l, popN_0, popN_s, acat_i, acat_l, acat_r, acat_n, stw_0, stw_s, psh_s, psh_n, wgf_r, wgf_i, wgf_b, wgf_n, wgf_m, wpf_i, wpf_r, wpf_b, wnew_e, callE_e, rbk_0, rbk_1, tsw_0, tsw_s, lsw_0, lsw_s, wp_s, wq_t, wq_f, oV_e, pick_0, pick_s, oZ_e, oY_e, r_Model_ref_0, r_Model_ref_1, r_Model_ref_4, r_Model_ref_7, r_Model_ref_8, r_Model_ref_9, r_Model_ref_10, r_Model_ref_13, r_Model_ref_16, r_Model_ref_17, r_Model_ref_19, r_Model_ref_21, r_Model_ref_24, r_Model_ref_25, r_Model_ref_28, r_Model_ref_29, r_Model_ref_30, r_Model_ref_31, r_Model_ref_34, r_Model_ref_37, r_Model_ref_38, r_Model_ref_39, r_Model_ref_41, r_Model_ref_42, r_Model_ref_43, r_Model_ref_45, r_Model_ref_46, r_Model_ref_47, r_Model_ref_49, r_Model_ref_52, r_Model_ref_54, r_Model_ref_55, r_Model_ref_57, r_Model_ref_58, r_Model_ref_60, r_Model_ref_62, r_Model_ref_64, r_Model_ref_67, r_Model_ref_68, r_Model_ref_69, r_Model_ref_71, r_Model_ref_73, r_Model_ref_76, r_Model_ref_77, r_Model_ref_80, r_Model_ref_82, r_Model_ref_85, r_Model_ref_86, r_Model_ref_87, r_Model_ref_89, r_Model_ref_91, r_Model_ref_94, r_Model_ref_95, r_Model_ref_96, r_Model_ref_99, r_Model_ref_102, r_Model_ref_105, r_Model_ref_106, xf_Model_ref_47, xe_Model_ref_646, xe_Model_ref_484, xe_Model_ref_524, xe_Model_ref_548, xe_Model_ref_608, xd_Model_ref, xrb_Model_ref, xin_Model_ref, T_Model_isPicture_e, TF_Model_isPicture, T_Model_sortAt_e, TF_Model_sortAt, T_Model_valuesAt_e, TF_Model_valuesAt, T_Model_valueAt_e, TF_Model_valueAt, T_Model_find_e, mh, mp0, mp2, mp3, mp4, mp5, mp6, mp7, mp8, mp9, mp10, mp11, mp12, mp13, mp14, mp15, mp16, mp17, mp18, mp19, mp20, mp21, mp22, mp24, mp25, mp26, mp27, mq0, mq2, mq3, mq4, mq5, mq6, mq7, mq8, mq9, mq10, mq11, mq12, mq13, mq14, mq15, mq16, mq17, mq18, mq19, mq20, mq21, mq22, mq24, mq25, mq26, mq27, Nat.reduceAdd, Nat.reduceMul, Nat.reduceEqDiff, reduceIte, Int.reduceNeg, Int.reduceLE, Int.reduceLT, Int.reduceAdd, Int.reduceSub, Int.reduceToNat, true_and, and_true, inR_e, Nat.reduceLT, Nat.reduceLeDiff, reduceCtorEq, Nat.add_zero, Nat.zero_add, or_false, false_or, or_true, true_or, not_true_eq_false, not_false_eq_true, Classical.not_not, Nat.add_eq_zero_iff, and_false, false_and, Int.reduceEq, List.mem_cons, List.not_mem_nil, forall_eq_or_imp, forall_eq, false_implies, implies_true, forall_const, aargs_0, aargs_i, aargs_r, aargs_l, aargs_n, nfT_e, eq_self, and_self, Nat.le_refl, fu_s, fu_fu, iu_iu, iu_s, fu_am, fu_a0, fu_0a, iu_l, Nat.reduceBEq, Int.reduceBEq, T_objInit_e]; clear mp0 mp2 mp3 mp4 mp5 mp6 mp7 mp8 mp9 mp10 mp11 mp12 mp13 mp14 mp15 mp16 mp17 mp18 mp19 mp20 mp21 mp22 mp24 mp25 mp26 mp27)
    refine ⟨fun h => (h1 _ QF.ch).2 (fun z => ?_), fun h => ⟨hL, U, len, st 1, hB, tv.1, by omega, fun d => ⟨fun a => ?_, fun a => ?_⟩⟩⟩
    · rw [show (nV U (st 1) (st 2 (fn U st x))).toNat = i by omega] at z
      omega
    · refine ⟨by omega, ?_, (by rw [hμ]; simp only [gI_e, List.getD_cons_succ, List.getD_cons_zero]; omega)⟩
      rw [hJd]
      have e : r5 U (st 1) (st 2 (fn U st x)) (i + 1) = r5 U (st 1) (st 2 (fn U st x)) i := by
        unfold r5
        exact cntZ_f (by rw [decide_eq_true_eq]; exact a)
      refine ⟨hp, rfl, hf, d, i + 1, by omega, by rw [e]; exact g2, ?_, rfl⟩
      rw [e]
      rfl
    · refine ⟨fun b => ⟨by omega, by omega, ?_, (by rw [hμ]; simp only [gI_e, List.getD_cons_succ, List.getD_cons_zero]; omega)⟩, fun b => ⟨hL, U, len, st 1, hB, tv, by omega, fun d2 => ?_⟩⟩
      · rw [hJd]
        have e : r5 U (st 1) (st 2 (fn U st x)) (i + 1) = r5 U (st 1) (st 2 (fn U st x)) i + 1 := by
          unfold r5
          exact cntZ_t (by rw [decide_eq_true_eq]; exact a)
        refine ⟨hp, rfl, hf, d, i + 1, by omega, by omega, ?_, rfl⟩
        rw [e, show j - (r5 U (st 1) (st 2 (fn U st x)) i + 1) = j - r5 U (st 1) (st 2 (fn U st x)) i + -1 by omega]
        rfl
      · have v5 := vZ5 w0.1 a
        rw [l2iZ_o (by unfold inR; omega)]
        exact (h1 _ QF.ch).1 hf.1 i (by omega) a (by omega)
def TF_Model_under (o : Nat) (p : Int) (a : Int) (b : Int) (sz sl : Nat) (lay : Nat → Nat × Int) (ρ : Nat → Int → Nat) (σ : Nat → Int → Int) (τ : Nat → Int → Int64) (k : Option AV → Mm → Prop) : Prop := LModel lay ρ o ∧ ∃ (U : Int → Int) (len : Int) (st : Nat → Int → Int), MdP σ o p U len st ∧ (0 ≤ p ∧ p < 3 → ∀ σ2 : Nat → Int → Int, QF σ σ2 o → (((0 ≤ a ∧ a < 40) ∧ 0 ≤ st 1 a) → ((0 ≤ b ∧ b < 40) ∧ 0 ≤ st 1 b) → (b ∈ ch U (st 1) a → k (some (vI (1))) (sz, sl, lay, ρ, σ2, τ)) ∧ (¬ b ∈ ch U (st 1) a → k (some (vI (0))) (sz, sl, lay, ρ, σ2, τ))) ∧ (¬ (((0 ≤ a ∧ a < 40) ∧ 0 ≤ st 1 a) ∧ ((0 ≤ b ∧ b < 40) ∧ 0 ≤ st 1 b)) → k (some (vI (-1))) (sz, sl, lay, ρ, σ2, τ))) ∧ (¬ (0 ≤ p ∧ p < 3) → k (some (vI (-1))) (sz, sl, lay, ρ, σ, τ))
def T_Model_under : Tr := mkT 11 fun o as M k => pI as fun p as => pI as fun a as => pI as fun b as => as = [] ∧ TF_Model_under o p a b M.1 M.2.1 M.2.2.1 M.2.2.2.1 M.2.2.2.2.1 M.2.2.2.2.2 k
theorem T_Model_under_e {o : Nat} {p : Int} {a : Int} {b : Int} {sz sl : Nat} {lay : Nat → Nat × Int} {ρ : Nat → Int → Nat} {σ : Nat → Int → Int} {τ : Nat → Int → Int64} {k : Option AV → Mm → Prop} : T_Model_under [vR o, vI p, vI a, vI b] (sz, sl, lay, ρ, σ, τ) k = (lay o = (21, 0) ∧ TF_Model_under o p a b sz sl lay ρ σ τ k) := by simp [T_Model_under, mkT_e, pI_e, pR_e, pL_e]
theorem T_Model_under_r (as : List AV) (M : Mm) (k : Option AV → Mm → Prop) (h : T_Model_under as M k) : ∃ b As, as = vR b :: As ∧ M.2.2.1 b = (10 + 11, 0) := by
  obtain ⟨b, As, h1, h2, -⟩ := mkT_r h
  exact ⟨b, As, h1, h2⟩
def tb_Model_under : List (Nat × Option (List Nat) × Instr × List Nat) := [(0, none, .iload_n 1, []), (1, none, .invokestatic 161, []), (4, none, .ifCond .eq 21, [25]), (7, none, .aload_n 0, []), (8, none, .iload_n 1, []), (9, none, .iload_n 2, []), (10, none, .invokevirtual 99, []), (13, none, .ifCond .lt 12, [25]), (16, none, .aload_n 0, []), (17, none, .iload_n 1, []), (18, none, .iload_n 3, []), (19, none, .invokevirtual 99, []), (22, none, .ifCond .ge 5, [27]), (25, none, .iconst (-1), []), (26, none, .ireturn, []), (27, none, .aload_n 0, []), (28, none, .iload_n 1, []), (29, none, .iload_n 2, []), (30, none, .invokevirtual 102, []), (33, none, .istore 4, []), (35, none, .iconst 0, []), (36, none, .istore 5, []), (38, none, .iconst 0, []), (39, none, .istore 6, []), (41, some [0, 1, 2, 3, 4, 5, 6], .iload 6, []), (43, none, .iload 4, []), (45, none, .if_icmp .ge 32, [77]), (48, none, .iload 5, []), (50, none, .ifCond .ne 14, [64]), (53, none, .aload_n 0, []), (54, none, .getfield 78, []), (57, none, .iload 6, []), (59, none, .iaload, []), (60, none, .iload_n 3, []), (61, none, .if_icmp .ne 7, [68]), (64, none, .iconst 1, []), (65, none, .goto 4, [69]), (68, none, .iconst 0, []), (69, none, .istore 5, []), (71, none, .iinc 6 1, []), (74, none, .goto (-33), [41]), (77, none, .iload 5, []), (79, none, .ifCond .eq 7, [86]), (82, none, .iconst 1, []), (83, none, .goto 4, [87]), (86, none, .iconst 0, []), (87, none, .ireturn, [])]
def P_Model_under : Nat → Option (List Nat) × Instr × List Nat := plk tb_Model_under
theorem r_Model_under_0 : P_Model_under 0 = (none, .iload_n 1, []) := by decide +kernel
theorem r_Model_under_1 : P_Model_under 1 = (none, .invokestatic 161, []) := by decide +kernel
theorem r_Model_under_4 : P_Model_under 4 = (none, .ifCond .eq 21, [25]) := by decide +kernel
theorem r_Model_under_7 : P_Model_under 7 = (none, .aload_n 0, []) := by decide +kernel
theorem r_Model_under_8 : P_Model_under 8 = (none, .iload_n 1, []) := by decide +kernel
theorem r_Model_under_9 : P_Model_under 9 = (none, .iload_n 2, []) := by decide +kernel
theorem r_Model_under_10 : P_Model_under 10 = (none, .invokevirtual 99, []) := by decide +kernel
theorem r_Model_under_13 : P_Model_under 13 = (none, .ifCond .lt 12, [25]) := by decide +kernel
theorem r_Model_under_16 : P_Model_under 16 = (none, .aload_n 0, []) := by decide +kernel
theorem r_Model_under_17 : P_Model_under 17 = (none, .iload_n 1, []) := by decide +kernel
theorem r_Model_under_18 : P_Model_under 18 = (none, .iload_n 3, []) := by decide +kernel
theorem r_Model_under_19 : P_Model_under 19 = (none, .invokevirtual 99, []) := by decide +kernel
theorem r_Model_under_22 : P_Model_under 22 = (none, .ifCond .ge 5, [27]) := by decide +kernel
theorem r_Model_under_25 : P_Model_under 25 = (none, .iconst (-1), []) := by decide +kernel
theorem r_Model_under_26 : P_Model_under 26 = (none, .ireturn, []) := by decide +kernel
theorem r_Model_under_27 : P_Model_under 27 = (none, .aload_n 0, []) := by decide +kernel
theorem r_Model_under_28 : P_Model_under 28 = (none, .iload_n 1, []) := by decide +kernel
theorem r_Model_under_29 : P_Model_under 29 = (none, .iload_n 2, []) := by decide +kernel
theorem r_Model_under_30 : P_Model_under 30 = (none, .invokevirtual 102, []) := by decide +kernel
theorem r_Model_under_33 : P_Model_under 33 = (none, .istore 4, []) := by decide +kernel
theorem r_Model_under_35 : P_Model_under 35 = (none, .iconst 0, []) := by decide +kernel
theorem r_Model_under_36 : P_Model_under 36 = (none, .istore 5, []) := by decide +kernel
theorem r_Model_under_38 : P_Model_under 38 = (none, .iconst 0, []) := by decide +kernel
theorem r_Model_under_39 : P_Model_under 39 = (none, .istore 6, []) := by decide +kernel
theorem r_Model_under_41 : P_Model_under 41 = (some [0, 1, 2, 3, 4, 5, 6], .iload 6, []) := by decide +kernel
theorem r_Model_under_43 : P_Model_under 43 = (none, .iload 4, []) := by decide +kernel
theorem r_Model_under_45 : P_Model_under 45 = (none, .if_icmp .ge 32, [77]) := by decide +kernel
theorem r_Model_under_48 : P_Model_under 48 = (none, .iload 5, []) := by decide +kernel
theorem r_Model_under_50 : P_Model_under 50 = (none, .ifCond .ne 14, [64]) := by decide +kernel
theorem r_Model_under_53 : P_Model_under 53 = (none, .aload_n 0, []) := by decide +kernel
theorem r_Model_under_54 : P_Model_under 54 = (none, .getfield 78, []) := by decide +kernel
theorem r_Model_under_57 : P_Model_under 57 = (none, .iload 6, []) := by decide +kernel
theorem r_Model_under_59 : P_Model_under 59 = (none, .iaload, []) := by decide +kernel
theorem r_Model_under_60 : P_Model_under 60 = (none, .iload_n 3, []) := by decide +kernel
theorem r_Model_under_61 : P_Model_under 61 = (none, .if_icmp .ne 7, [68]) := by decide +kernel
theorem r_Model_under_64 : P_Model_under 64 = (none, .iconst 1, []) := by decide +kernel
theorem r_Model_under_65 : P_Model_under 65 = (none, .goto 4, [69]) := by decide +kernel
theorem r_Model_under_68 : P_Model_under 68 = (none, .iconst 0, []) := by decide +kernel
theorem r_Model_under_69 : P_Model_under 69 = (none, .istore 5, []) := by decide +kernel
theorem r_Model_under_71 : P_Model_under 71 = (none, .iinc 6 1, []) := by decide +kernel
theorem r_Model_under_74 : P_Model_under 74 = (none, .goto (-33), [41]) := by decide +kernel
theorem r_Model_under_77 : P_Model_under 77 = (none, .iload 5, []) := by decide +kernel
theorem r_Model_under_79 : P_Model_under 79 = (none, .ifCond .eq 7, [86]) := by decide +kernel
theorem r_Model_under_82 : P_Model_under 82 = (none, .iconst 1, []) := by decide +kernel
theorem r_Model_under_83 : P_Model_under 83 = (none, .goto 4, [87]) := by decide +kernel
theorem r_Model_under_86 : P_Model_under 86 = (none, .iconst 0, []) := by decide +kernel
theorem r_Model_under_87 : P_Model_under 87 = (none, .ireturn, []) := by decide +kernel
def E_Model_under : List (Nat × Ent) := [(646, (1, 0, 0, 0, T_Model_isPicture)), (408, (3, 1, 0, 0, T_Model_above)), (396, (3, 0, 0, 0, T_Model_kindPlace))]
def X_Model_under : Cx := (llk (0, 0, 9) ftX11, llk 99 ntX11, llk none kcX11, llk none klX11, llk dEnt E_Model_under, 2, 0, false)
theorem xok_Model_under : Xok RX11 X_Model_under := xok_of ftX11_ok ntX11_ok kcX11_ok klX11_ok (E := E_Model_under) (List.forall_mem_cons.mpr ⟨co_X11_646, List.forall_mem_cons.mpr ⟨co_X11_408, List.forall_mem_cons.mpr ⟨co_X11_396, fun _ h => absurd h List.not_mem_nil⟩⟩⟩)
theorem xf_Model_under_78 : xfl X_Model_under 78 = (11, 24, 1) := by decide +kernel
theorem xe_Model_under_646 : xE X_Model_under (4 * 161 + 2) = (1, 0, 0, 0, T_Model_isPicture) := rfl
theorem xe_Model_under_408 : xE X_Model_under (4 * 102 + 0) = (3, 1, 0, 0, T_Model_above) := rfl
theorem xe_Model_under_396 : xE X_Model_under (4 * 99 + 0) = (3, 0, 0, 0, T_Model_kindPlace) := rfl
theorem xd_Model_under : xd X_Model_under = 2 := rfl
theorem xrb_Model_under : xrb X_Model_under = 0 := rfl
theorem xin_Model_under : xin X_Model_under = false := rfl
set_option maxHeartbeats 4000000 in
set_option maxRecDepth 100000 in
theorem S_Model_under : Snd yX11_under cX11_under 7 (some .int) T_Model_under 2 0 0 := by
  refine snd_of (X := X_Model_under) (P := P_Model_under) (tb := tb_Model_under) (own := RX11) (by decide) rfl rfl (by decide +kernel) xok_Model_under rfl rk0 (fun h => by first | rfl | cases h) ?_
  intro as M k has hM hT0
  obtain ⟨sz, sl, lay, ρ, σ, τ⟩ := M
  obtain ⟨o, as1, e, hlo, hT1⟩ := mkT_r hT0
  clear hT0
  subst e
  obtain ⟨p, as2, e, hT2⟩ := pI_x hT1
  clear hT1
  subst e
  obtain ⟨a, as3, e, hT3⟩ := pI_x hT2
  clear hT2
  subst e
  obtain ⟨b, as4, e, hT4⟩ := pI_x hT3
  clear hT3
  subst e
  obtain ⟨e, hT⟩ := hT4
  subst e
  replace hlo : lay o = (21, 0) := hlo
  have r_p : -2147483648 ≤ p ∧ p ≤ 2147483647 := has (vI p) (by simp)
  have r_a : -2147483648 ≤ a ∧ a ≤ 2147483647 := has (vI a) (by simp)
  have r_b : -2147483648 ≤ b ∧ b ≤ 2147483647 := has (vI b) (by simp)
  clear has
  replace hM : ∀ a i, -2147483648 ≤ σ a i ∧ σ a i ≤ 2147483647 := hM
  replace hT : TF_Model_under o p a b sz sl lay ρ σ τ k := hT
  unfold TF_Model_under at hT
  obtain ⟨hL, U, len, st, hMP, h1, h0⟩ := hT
  obtain ⟨J, hJd⟩ : ∃ J : Nat → List AV → Mm → Prop, J = (fun c vs M1 => (0 ≤ p ∧ p < 3) ∧ (c = 41 ∧ ((0 ≤ a ∧ a < 40) ∧ 0 ≤ st 1 a) ∧ ((0 ≤ b ∧ b < 40) ∧ 0 ≤ st 1 b) ∧ ∃ (i : Nat) (r : Int) (σ1 : Nat → Int → Int), Fr σ σ1 (o + 23) 0 ∧ (∀ i : Nat, i < (ch U (st 1) a).length → σ1 (o + 23) i = (ch U (st 1) a).getD i 0) ∧ i ≤ (ch U (st 1) a).length ∧ ((r = 1 ∧ b ∈ ch U (st 1) a) ∨ (r = 0 ∧ ∀ j : Nat, j < i → ¬ (ch U (st 1) a).getD j 0 = b)) ∧ vs = [vR o, vI p, vI a, vI b, vI ((ch U (st 1) a).length : Int), vI r, vI (i : Int)] ∧ M1 = (sz, sl, lay, ρ, σ1, τ))) := ⟨_, rfl⟩
  obtain ⟨μ, hμ⟩ : ∃ μ : Nat → List AV → Mm → Nat, μ = (fun _ vs _ => (1000 - gI (vs.getD 6 vN)).toNat) := ⟨_, rfl⟩
  refine ⟨Nat.le_of_ble_eq_true rfl, J, μ, 55, ?_, ?_⟩
  · skip
    by_cases hp : 0 ≤ p ∧ p < 3
    · have hpE : (0 ≤ p ∧ p < 3) = True := eq_true hp
      replace h1 := h1 hp
      obtain ⟨hS, hR⟩ := hMP hp
      obtain ⟨hB, hl3, ⟨m4, m5, m6⟩, ⟨m7, m8, m9⟩, m12, ⟨m14, m13⟩, m15, ⟨m17, m16⟩, m26⟩ := (show MR σ o p U len st from hR)
      obtain ⟨b1, b2, b3, b4, b5, b6, b7⟩ := (show MB σ o p U len (st 1) from hB)
      obtain ⟨w0, w1, w2, w3, w4, w5, w6, w7, w8, w9, w10, w11, w12, w13, w14⟩ := (show SW U len st from hS)
      (obtain ⟨mh, mp0, mp2, mp3, mp4, mp5, mp6, mp7, mp8, mp9, mp10, mp11, mp12, mp13, mp14, mp15, mp16, mp17, mp18, mp19, mp20, mp21, mp22, mp24, mp25, mp26, mp27, mq0, mq2, mq3, mq4, mq5, mq6, mq7, mq8, mq9, mq10, mq11, mq12, mq13, mq14, mq15, mq16, mq17, mq18, mq19, mq20, mq21, mq22, mq24, mq25, mq26, mq27⟩ := (show LModel lay ρ _ from hL); unfold wps; simp only [hpE, find_e hL hS hR, si_iload_n0, si_iload_n1, si_iload_n2, si_iload_n3, si_iload, si_lload_n0, si_lload_n1, si_lload_n2, si_lload_n3, si_lload, si_aload_n0, si_aload_n1, si_aload_n2, si_aload_n3, si_aload, si_istore_n0, si_istore_n1, si_istore_n2, si_istore_n3, si_istore, si_astore_n0, si_astore_n1, si_astore_n2, si_astore_n3, si_astore, si_lstore_n0, si_lstore_n1, si_lstore_n2, si_lstore_n3, si_lstore, si_iconst, si_bipush, si_sipush, si_ldc, si_ldc2_w, si_lconst0, si_lconst1, si_aconst_null, si_iinc, si_dup, si_dup2, si_iadd, si_isub, si_imul, si_idiv, si_irem, si_iand, si_ior, si_ishl, si_ishr, si_ladd, si_lmul, si_lor, si_lxor, si_lshl, si_lushr, si_lcmp, si_i2b, si_i2l, si_l2i, si_icmp_eq, si_icmp_ne, si_icmp_lt, si_icmp_ge, si_icmp_gt, si_icmp_le, si_if_eq, si_if_ne, si_if_lt, si_if_ge, si_if_gt, si_if_le, si_ifnull, si_ifnonnull, si_goto, si_tableswitch, si_lookupswitch, si_getfield, si_putfield, si_getstatic, si_iaload, si_baload, si_laload, si_aaload, si_iastore, si_bastore, si_lastore, si_aastore, si_arraylength, si_new, si_newarray, si_anewarray, si_invokevirtual, si_invokespecial, si_invokestatic, si_ireturn, si_lreturn, si_areturn, si_return_, pI_e, pL_e, pR_e, pA_r, pA_n, pN_n, pN_r, oI_e, oL_e, oA_r, oA_n, lget_e, lrm1_0, lrm2_0, lrm1_i, lrm1_r, lrm1_n, lrm1_l, lrm2_i, lrm2_r, lrm2_n, lrm2_l, popN_0, popN_s, acat_i, acat_l, acat_r, acat_n, stw_0, stw_s, psh_s, psh_n, wgf_r, wgf_i, wgf_b, wgf_n, wgf_m, wpf_i, wpf_r, wpf_b, wnew_e, callE_e, rbk_0, rbk_1, tsw_0, tsw_s, lsw_0, lsw_s, wp_s, wq_t, wq_f, oV_e, pick_0, pick_s, oZ_e, oY_e, r_Model_under_0, r_Model_under_1, r_Model_under_4, r_Model_under_7, r_Model_under_8, r_Model_under_9, r_Model_under_10, r_Model_under_13, r_Model_under_16, r_Model_under_17, r_Model_under_18, r_Model_under_19, r_Model_under_22, r_Model_under_25, r_Model_under_26, r_Model_under_27, r_Model_under_28, r_Model_under_29, r_Model_under_30, r_Model_under_33, r_Model_under_35, r_Model_under_36, r_Model_under_38, r_Model_under_39, r_Model_under_41, r_Model_under_43, r_Model_under_45, r_Model_under_48, r_Model_under_50, r_Model_under_53, r_Model_under_54, r_Model_under_57, r_Model_under_59, r_Model_under_60, r_Model_under_61, r_Model_under_64, r_Model_under_65, r_Model_under_68, r_Model_under_69, r_Model_under_71, r_Model_under_74, r_Model_under_77, r_Model_under_79, r_Model_under_82, r_Model_under_83, r_Model_under_86, r_Model_under_87, xf_Model_under_78, xe_Model_under_646, xe_Model_under_408, xe_Model_under_396, xd_Model_under, xrb_Model_under, xin_Model_under, T_Model_isPicture_e, TF_Model_isPicture, T_Model_above_e, TF_Model_above, T_Model_kindPlace_e, TF_Model_kindPlace, mh, mp0, mp2, mp3, mp4, mp5, mp6, mp7, mp8, mp9, mp10, mp11, mp12, mp13, mp14, mp15, mp16, mp17, mp18, mp19, mp20, mp21, mp22, mp24, mp25, mp26, mp27, mq0, mq2, mq3, mq4, mq5, mq6, mq7, mq8, mq9, mq10, mq11, mq12, mq13, mq14, mq15, mq16, mq17, mq18, mq19, mq20, mq21, mq22, mq24, mq25, mq26, mq27, Nat.reduceAdd, Nat.reduceMul, Nat.reduceEqDiff, reduceIte, Int.reduceNeg, Int.reduceLE, Int.reduceLT, Int.reduceAdd, Int.reduceSub, Int.reduceToNat, true_and, and_true, inR_e, Nat.reduceLT, Nat.reduceLeDiff, reduceCtorEq, Nat.add_zero, Nat.zero_add, or_false, false_or, or_true, true_or, not_true_eq_false, not_false_eq_true, Classical.not_not, Nat.add_eq_zero_iff, and_false, false_and, Int.reduceEq, List.mem_cons, List.not_mem_nil, forall_eq_or_imp, forall_eq, false_implies, implies_true, forall_const, aargs_0, aargs_i, aargs_r, aargs_l, aargs_n, nfT_e, eq_self, and_self, Nat.le_refl, fu_s, fu_fu, iu_iu, iu_s, fu_am, fu_a0, fu_0a, iu_l, Nat.reduceBEq, Int.reduceBEq, T_objInit_e]; clear mp0 mp2 mp3 mp4 mp5 mp6 mp7 mp8 mp9 mp10 mp11 mp12 mp13 mp14 mp15 mp16 mp17 mp18 mp19 mp20 mp21 mp22 mp24 mp25 mp26 mp27)
      refine ⟨hL, fun ka => ?_, fun ka => (h1 σ QF.rf).2 (fun z => ka z.1.1)⟩
      rw [b4 a ka]
      refine ⟨fun na => (h1 σ QF.rf).2 (fun z => by omega), fun na => ⟨hL, fun kb => ?_, fun kb => (h1 σ QF.rf).2 (fun z => kb z.2.1)⟩⟩
      rw [b4 b kb]
      refine ⟨fun nb => ⟨hL, U, len, st 1, hB, Or.inr ⟨ka, by omega⟩, fun σ2 f1 f2 => ?_⟩, fun nb => (h1 σ QF.rf).2 (fun z => by omega)⟩
      rw [hJd]
      exact ⟨hp, rfl, ⟨ka, by omega⟩, ⟨kb, nb⟩, 0, 0, σ2, f1, f2, by omega, Or.inr ⟨rfl, fun j hj => by omega⟩, rfl, rfl⟩
    · have hpE : (0 ≤ p ∧ p < 3) = False := eq_false hp
      (obtain ⟨mh, mp0, mp2, mp3, mp4, mp5, mp6, mp7, mp8, mp9, mp10, mp11, mp12, mp13, mp14, mp15, mp16, mp17, mp18, mp19, mp20, mp21, mp22, mp24, mp25, mp26, mp27, mq0, mq2, mq3, mq4, mq5, mq6, mq7, mq8, mq9, mq10, mq11, mq12, mq13, mq14, mq15, mq16, mq17, mq18, mq19, mq20, mq21, mq22, mq24, mq25, mq26, mq27⟩ := (show LModel lay ρ _ from hL); unfold wps; simp only [hpE, si_iload_n0, si_iload_n1, si_iload_n2, si_iload_n3, si_iload, si_lload_n0, si_lload_n1, si_lload_n2, si_lload_n3, si_lload, si_aload_n0, si_aload_n1, si_aload_n2, si_aload_n3, si_aload, si_istore_n0, si_istore_n1, si_istore_n2, si_istore_n3, si_istore, si_astore_n0, si_astore_n1, si_astore_n2, si_astore_n3, si_astore, si_lstore_n0, si_lstore_n1, si_lstore_n2, si_lstore_n3, si_lstore, si_iconst, si_bipush, si_sipush, si_ldc, si_ldc2_w, si_lconst0, si_lconst1, si_aconst_null, si_iinc, si_dup, si_dup2, si_iadd, si_isub, si_imul, si_idiv, si_irem, si_iand, si_ior, si_ishl, si_ishr, si_ladd, si_lmul, si_lor, si_lxor, si_lshl, si_lushr, si_lcmp, si_i2b, si_i2l, si_l2i, si_icmp_eq, si_icmp_ne, si_icmp_lt, si_icmp_ge, si_icmp_gt, si_icmp_le, si_if_eq, si_if_ne, si_if_lt, si_if_ge, si_if_gt, si_if_le, si_ifnull, si_ifnonnull, si_goto, si_tableswitch, si_lookupswitch, si_getfield, si_putfield, si_getstatic, si_iaload, si_baload, si_laload, si_aaload, si_iastore, si_bastore, si_lastore, si_aastore, si_arraylength, si_new, si_newarray, si_anewarray, si_invokevirtual, si_invokespecial, si_invokestatic, si_ireturn, si_lreturn, si_areturn, si_return_, pI_e, pL_e, pR_e, pA_r, pA_n, pN_n, pN_r, oI_e, oL_e, oA_r, oA_n, lget_e, lrm1_0, lrm2_0, lrm1_i, lrm1_r, lrm1_n, lrm1_l, lrm2_i, lrm2_r, lrm2_n, lrm2_l, popN_0, popN_s, acat_i, acat_l, acat_r, acat_n, stw_0, stw_s, psh_s, psh_n, wgf_r, wgf_i, wgf_b, wgf_n, wgf_m, wpf_i, wpf_r, wpf_b, wnew_e, callE_e, rbk_0, rbk_1, tsw_0, tsw_s, lsw_0, lsw_s, wp_s, wq_t, wq_f, oV_e, pick_0, pick_s, oZ_e, oY_e, r_Model_under_0, r_Model_under_1, r_Model_under_4, r_Model_under_7, r_Model_under_8, r_Model_under_9, r_Model_under_10, r_Model_under_13, r_Model_under_16, r_Model_under_17, r_Model_under_18, r_Model_under_19, r_Model_under_22, r_Model_under_25, r_Model_under_26, r_Model_under_27, r_Model_under_28, r_Model_under_29, r_Model_under_30, r_Model_under_33, r_Model_under_35, r_Model_under_36, r_Model_under_38, r_Model_under_39, r_Model_under_41, r_Model_under_43, r_Model_under_45, r_Model_under_48, r_Model_under_50, r_Model_under_53, r_Model_under_54, r_Model_under_57, r_Model_under_59, r_Model_under_60, r_Model_under_61, r_Model_under_64, r_Model_under_65, r_Model_under_68, r_Model_under_69, r_Model_under_71, r_Model_under_74, r_Model_under_77, r_Model_under_79, r_Model_under_82, r_Model_under_83, r_Model_under_86, r_Model_under_87, xf_Model_under_78, xe_Model_under_646, xe_Model_under_408, xe_Model_under_396, xd_Model_under, xrb_Model_under, xin_Model_under, T_Model_isPicture_e, TF_Model_isPicture, T_Model_above_e, TF_Model_above, T_Model_kindPlace_e, TF_Model_kindPlace, mh, mp0, mp2, mp3, mp4, mp5, mp6, mp7, mp8, mp9, mp10, mp11, mp12, mp13, mp14, mp15, mp16, mp17, mp18, mp19, mp20, mp21, mp22, mp24, mp25, mp26, mp27, mq0, mq2, mq3, mq4, mq5, mq6, mq7, mq8, mq9, mq10, mq11, mq12, mq13, mq14, mq15, mq16, mq17, mq18, mq19, mq20, mq21, mq22, mq24, mq25, mq26, mq27, Nat.reduceAdd, Nat.reduceMul, Nat.reduceEqDiff, reduceIte, Int.reduceNeg, Int.reduceLE, Int.reduceLT, Int.reduceAdd, Int.reduceSub, Int.reduceToNat, true_and, and_true, inR_e, Nat.reduceLT, Nat.reduceLeDiff, reduceCtorEq, Nat.add_zero, Nat.zero_add, or_false, false_or, or_true, true_or, not_true_eq_false, not_false_eq_true, Classical.not_not, Nat.add_eq_zero_iff, and_false, false_and, Int.reduceEq, List.mem_cons, List.not_mem_nil, forall_eq_or_imp, forall_eq, false_implies, implies_true, forall_const, aargs_0, aargs_i, aargs_r, aargs_l, aargs_n, nfT_e, eq_self, and_self, Nat.le_refl, fu_s, fu_fu, iu_iu, iu_s, fu_am, fu_a0, fu_0a, iu_l, Nat.reduceBEq, Int.reduceBEq, T_objInit_e]; clear mp0 mp2 mp3 mp4 mp5 mp6 mp7 mp8 mp9 mp10 mp11 mp12 mp13 mp14 mp15 mp16 mp17 mp18 mp19 mp20 mp21 mp22 mp24 mp25 mp26 mp27)
      exact h0 hp
  · intro cp vs M1 hvs hM1 hlen hJ
    rw [hJd] at hJ
    obtain ⟨hp, hJ⟩ := hJ
    have hpE : (0 ≤ p ∧ p < 3) = True := eq_true hp
    replace h1 := h1 hp
    obtain ⟨hS, hR⟩ := hMP hp
    obtain ⟨w0, w1, w2, w3, w4, w5, w6, w7, w8, w9, w10, w11, w12, w13, w14⟩ := (show SW U len st from hS)
    obtain ⟨rfl, ka, kb, i, r, σ1, g1, g2, g3, g4, rfl, rfl⟩ := hJ
    have hlen := ch_len w0 (Or.inr ka)
    (obtain ⟨mh, mp0, mp2, mp3, mp4, mp5, mp6, mp7, mp8, mp9, mp10, mp11, mp12, mp13, mp14, mp15, mp16, mp17, mp18, mp19, mp20, mp21, mp22, mp24, mp25, mp26, mp27, mq0, mq2, mq3, mq4, mq5, mq6, mq7, mq8, mq9, mq10, mq11, mq12, mq13, mq14, mq15, mq16, mq17, mq18, mq19, mq20, mq21, mq22, mq24, mq25, mq26, mq27⟩ := (show LModel lay ρ _ from hL); unfold wps; simp only [Option.getD_some, List.zip_cons_cons, List.zip_nil_left, List.zip_nil_right, List.zip_nil_right, MB_fu, si_iload_n0, si_iload_n1, si_iload_n2, si_iload_n3, si_iload, si_lload_n0, si_lload_n1, si_lload_n2, si_lload_n3, si_lload, si_aload_n0, si_aload_n1, si_aload_n2, si_aload_n3, si_aload, si_istore_n0, si_istore_n1, si_istore_n2, si_istore_n3, si_istore, si_astore_n0, si_astore_n1, si_astore_n2, si_astore_n3, si_astore, si_lstore_n0, si_lstore_n1, si_lstore_n2, si_lstore_n3, si_lstore, si_iconst, si_bipush, si_sipush, si_ldc, si_ldc2_w, si_lconst0, si_lconst1, si_aconst_null, si_iinc, si_dup, si_dup2, si_iadd, si_isub, si_imul, si_idiv, si_irem, si_iand, si_ior, si_ishl, si_ishr, si_ladd, si_lmul, si_lor, si_lxor, si_lshl, si_lushr, si_lcmp, si_i2b, si_i2l, si_l2i, si_icmp_eq, si_icmp_ne, si_icmp_lt, si_icmp_ge, si_icmp_gt, si_icmp_le, si_if_eq, si_if_ne, si_if_lt, si_if_ge, si_if_gt, si_if_le, si_ifnull, si_ifnonnull, si_goto, si_tableswitch, si_lookupswitch, si_getfield, si_putfield, si_getstatic, si_iaload, si_baload, si_laload, si_aaload, si_iastore, si_bastore, si_lastore, si_aastore, si_arraylength, si_new, si_newarray, si_anewarray, si_invokevirtual, si_invokespecial, si_invokestatic, si_ireturn, si_lreturn, si_areturn, si_return_, pI_e, pL_e, pR_e, pA_r, pA_n, pN_n, pN_r, oI_e, oL_e, oA_r, oA_n, lget_e, lrm1_0, lrm2_0, lrm1_i, lrm1_r, lrm1_n, lrm1_l, lrm2_i, lrm2_r, lrm2_n, lrm2_l, popN_0, popN_s, acat_i, acat_l, acat_r, acat_n, stw_0, stw_s, psh_s, psh_n, wgf_r, wgf_i, wgf_b, wgf_n, wgf_m, wpf_i, wpf_r, wpf_b, wnew_e, callE_e, rbk_0, rbk_1, tsw_0, tsw_s, lsw_0, lsw_s, wp_s, wq_t, wq_f, oV_e, pick_0, pick_s, oZ_e, oY_e, r_Model_under_0, r_Model_under_1, r_Model_under_4, r_Model_under_7, r_Model_under_8, r_Model_under_9, r_Model_under_10, r_Model_under_13, r_Model_under_16, r_Model_under_17, r_Model_under_18, r_Model_under_19, r_Model_under_22, r_Model_under_25, r_Model_under_26, r_Model_under_27, r_Model_under_28, r_Model_under_29, r_Model_under_30, r_Model_under_33, r_Model_under_35, r_Model_under_36, r_Model_under_38, r_Model_under_39, r_Model_under_41, r_Model_under_43, r_Model_under_45, r_Model_under_48, r_Model_under_50, r_Model_under_53, r_Model_under_54, r_Model_under_57, r_Model_under_59, r_Model_under_60, r_Model_under_61, r_Model_under_64, r_Model_under_65, r_Model_under_68, r_Model_under_69, r_Model_under_71, r_Model_under_74, r_Model_under_77, r_Model_under_79, r_Model_under_82, r_Model_under_83, r_Model_under_86, r_Model_under_87, xf_Model_under_78, xe_Model_under_646, xe_Model_under_408, xe_Model_under_396, xd_Model_under, xrb_Model_under, xin_Model_under, T_Model_isPicture_e, TF_Model_isPicture, T_Model_above_e, TF_Model_above, T_Model_kindPlace_e, TF_Model_kindPlace, mh, mp0, mp2, mp3, mp4, mp5, mp6, mp7, mp8, mp9, mp10, mp11, mp12, mp13, mp14, mp15, mp16, mp17, mp18, mp19, mp20, mp21, mp22, mp24, mp25, mp26, mp27, mq0, mq2, mq3, mq4, mq5, mq6, mq7, mq8, mq9, mq10, mq11, mq12, mq13, mq14, mq15, mq16, mq17, mq18, mq19, mq20, mq21, mq22, mq24, mq25, mq26, mq27, Nat.reduceAdd, Nat.reduceMul, Nat.reduceEqDiff, reduceIte, Int.reduceNeg, Int.reduceLE, Int.reduceLT, Int.reduceAdd, Int.reduceSub, Int.reduceToNat, true_and, and_true, inR_e, Nat.reduceLT, Nat.reduceLeDiff, reduceCtorEq, Nat.add_zero, Nat.zero_add, or_false, false_or, or_true, true_or, not_true_eq_false, not_false_eq_true, Classical.not_not, Nat.add_eq_zero_iff, and_false, false_and, Int.reduceEq, List.mem_cons, List.not_mem_nil, forall_eq_or_imp, forall_eq, false_implies, implies_true, forall_const, aargs_0, aargs_i, aargs_r, aargs_l, aargs_n, nfT_e, eq_self, and_self, Nat.le_refl, fu_s, fu_fu, iu_iu, iu_s, fu_am, fu_a0, fu_0a, iu_l, Nat.reduceBEq, Int.reduceBEq, T_objInit_e]; clear mp0 mp2 mp3 mp4 mp5 mp6 mp7 mp8 mp9 mp10 mp11 mp12 mp13 mp14 mp15 mp16 mp17 mp18 mp19 mp20 mp21 mp22 mp24 mp25 mp26 mp27)
    have bm : ∀ j : Nat, j < (ch U (st 1) a).length → (ch U (st 1) a).getD j 0 ∈ ch U (st 1) a := fun j hj => by
      rw [List.getD_eq_getElem?_getD, List.getElem?_eq_getElem hj]
      exact List.getElem_mem hj
    refine ⟨fun h => ⟨fun h2 => ?_, fun h2 => ?_⟩, fun h => ⟨fun h2 => ⟨by omega, ?_, (by rw [hμ]; simp only [gI_e, List.getD_cons_succ, List.getD_cons_zero]; omega)⟩, fun h2 => ⟨by omega, by omega, fun h3 => ⟨by omega, ?_, (by rw [hμ]; simp only [gI_e, List.getD_cons_succ, List.getD_cons_zero]; omega)⟩, fun h3 => ⟨by omega, ?_, (by rw [hμ]; simp only [gI_e, List.getD_cons_succ, List.getD_cons_zero]; omega)⟩⟩⟩⟩
    · refine ((h1 σ1 g1.qf).1 ka kb).2 (fun hm => ?_)
      rcases g4 with q | q
      · omega
      · obtain ⟨n, hn, e⟩ := List.getElem_of_mem hm
        exact q.2 n (by omega) (by rw [List.getD_eq_getElem?_getD, List.getElem?_eq_getElem hn]; exact e)
    · refine ((h1 σ1 g1.qf).1 ka kb).1 ?_
      rcases g4 with q | q
      · exact q.2
      · exact absurd q.1 h2
    · rw [hJd]
      refine ⟨hp, rfl, ka, kb, i + 1, 1, σ1, g1, g2, by omega, Or.inl ⟨rfl, ?_⟩, rfl, rfl⟩
      rcases g4 with q | q
      · exact q.2
      · exact absurd q.1 h2
    · rw [hJd]
      refine ⟨hp, rfl, ka, kb, i + 1, 0, σ1, g1, g2, by omega, Or.inr ⟨rfl, fun j hj => ?_⟩, rfl, rfl⟩
      rw [g2 i (by omega)] at h3
      rcases g4 with q | q
      · omega
      · by_cases e : j = i
        · rw [e]; exact h3
        · exact q.2 j (by omega)
    · rw [hJd]
      rw [g2 i (by omega)] at h3
      exact ⟨hp, rfl, ka, kb, i + 1, 1, σ1, g1, g2, by omega, Or.inl ⟨rfl, by rw [← h3]; exact bm i (by omega)⟩, rfl, rfl⟩

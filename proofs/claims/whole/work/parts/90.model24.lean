theorem co_X11_912 : CallOK RX11 (.invokevirtual 228) (3, 2, 0, 0, T_Model_ofKind) := call_V S_Model_ofKind (by decide) (ci := 11) rfl (by decide +kernel) (by decide +kernel) (by decide +kernel) (by decide +kernel) (by decide +kernel) (by decide +kernel) T_Model_ofKind_r
def TF_Model_grown (o : Nat) (p : Int) (q : Int) (x : Int) (sz sl : Nat) (lay : Nat → Nat × Int) (ρ : Nat → Int → Nat) (σ : Nat → Int → Int) (τ : Nat → Int → Int64) (k : Option AV → Mm → Prop) : Prop := LModel lay ρ o ∧ ∃ (U : Int → Int) (len : Int) (st : Nat → Int → Int) (V : Int → Int) (lem : Int) (su : Nat → Int → Int), MdP σ o p U len st ∧ MdP σ o q V lem su ∧ (((0 ≤ p ∧ p < 3) ∧ (0 ≤ q ∧ q < 3) ∧ (0 ≤ x ∧ x < 40)) → k (some (vI (cntZ (fun i => decide (srt V (su 2 i) = 0 ∧ kdv V (su 2 i) = x)) (su 0 7).toNat - cntZ (fun i => decide (srt U (st 2 i) = 0 ∧ kdv U (st 2 i) = x)) (st 0 7).toNat))) (sz, sl, lay, ρ, σ, τ)) ∧ (¬ ((0 ≤ p ∧ p < 3) ∧ (0 ≤ q ∧ q < 3) ∧ (0 ≤ x ∧ x < 40)) → k (some (vI (-100000))) (sz, sl, lay, ρ, σ, τ))
def T_Model_grown : Tr := mkT 11 fun o as M k => pI as fun p as => pI as fun q as => pI as fun x as => as = [] ∧ TF_Model_grown o p q x M.1 M.2.1 M.2.2.1 M.2.2.2.1 M.2.2.2.2.1 M.2.2.2.2.2 k
theorem T_Model_grown_e {o : Nat} {p : Int} {q : Int} {x : Int} {sz sl : Nat} {lay : Nat → Nat × Int} {ρ : Nat → Int → Nat} {σ : Nat → Int → Int} {τ : Nat → Int → Int64} {k : Option AV → Mm → Prop} : T_Model_grown [vR o, vI p, vI q, vI x] (sz, sl, lay, ρ, σ, τ) k = (lay o = (21, 0) ∧ TF_Model_grown o p q x sz sl lay ρ σ τ k) := by simp [T_Model_grown, mkT_e, pI_e, pR_e, pL_e]
theorem T_Model_grown_r (as : List AV) (M : Mm) (k : Option AV → Mm → Prop) (h : T_Model_grown as M k) : ∃ b As, as = vR b :: As ∧ M.2.2.1 b = (10 + 11, 0) := by
  obtain ⟨b, As, h1, h2, -⟩ := mkT_r h
  exact ⟨b, As, h1, h2⟩
def tb_Model_grown : List (Nat × Option (List Nat) × Instr × List Nat) := [(0, none, .iload_n 1, []), (1, none, .invokestatic 161, []), (4, none, .ifCond .eq 36, [40]), (7, none, .iload_n 2, []), (8, none, .invokestatic 161, []), (11, none, .ifCond .eq 29, [40]), (14, none, .iload_n 3, []), (15, none, .ifCond .lt 25, [40]), (18, none, .iload_n 3, []), (19, none, .bipush 40, []), (21, none, .if_icmp .ge 19, [40]), (24, none, .aload_n 0, []), (25, none, .iload_n 2, []), (26, none, .iload_n 3, []), (27, none, .invokevirtual 228, []), (30, none, .aload_n 0, []), (31, none, .iload_n 1, []), (32, none, .iload_n 3, []), (33, none, .invokevirtual 228, []), (36, none, .isub, []), (37, none, .goto 5, [42]), (40, none, .ldc 231, []), (42, none, .ireturn, [])]
def P_Model_grown : Nat → Option (List Nat) × Instr × List Nat := plk tb_Model_grown
theorem r_Model_grown_0 : P_Model_grown 0 = (none, .iload_n 1, []) := by decide +kernel
theorem r_Model_grown_1 : P_Model_grown 1 = (none, .invokestatic 161, []) := by decide +kernel
theorem r_Model_grown_4 : P_Model_grown 4 = (none, .ifCond .eq 36, [40]) := by decide +kernel
theorem r_Model_grown_7 : P_Model_grown 7 = (none, .iload_n 2, []) := by decide +kernel
theorem r_Model_grown_8 : P_Model_grown 8 = (none, .invokestatic 161, []) := by decide +kernel
theorem r_Model_grown_11 : P_Model_grown 11 = (none, .ifCond .eq 29, [40]) := by decide +kernel
theorem r_Model_grown_14 : P_Model_grown 14 = (none, .iload_n 3, []) := by decide +kernel
theorem r_Model_grown_15 : P_Model_grown 15 = (none, .ifCond .lt 25, [40]) := by decide +kernel
theorem r_Model_grown_18 : P_Model_grown 18 = (none, .iload_n 3, []) := by decide +kernel
theorem r_Model_grown_19 : P_Model_grown 19 = (none, .bipush 40, []) := by decide +kernel
theorem r_Model_grown_21 : P_Model_grown 21 = (none, .if_icmp .ge 19, [40]) := by decide +kernel
theorem r_Model_grown_24 : P_Model_grown 24 = (none, .aload_n 0, []) := by decide +kernel
theorem r_Model_grown_25 : P_Model_grown 25 = (none, .iload_n 2, []) := by decide +kernel
theorem r_Model_grown_26 : P_Model_grown 26 = (none, .iload_n 3, []) := by decide +kernel
theorem r_Model_grown_27 : P_Model_grown 27 = (none, .invokevirtual 228, []) := by decide +kernel
theorem r_Model_grown_30 : P_Model_grown 30 = (none, .aload_n 0, []) := by decide +kernel
theorem r_Model_grown_31 : P_Model_grown 31 = (none, .iload_n 1, []) := by decide +kernel
theorem r_Model_grown_32 : P_Model_grown 32 = (none, .iload_n 3, []) := by decide +kernel
theorem r_Model_grown_33 : P_Model_grown 33 = (none, .invokevirtual 228, []) := by decide +kernel
theorem r_Model_grown_36 : P_Model_grown 36 = (none, .isub, []) := by decide +kernel
theorem r_Model_grown_37 : P_Model_grown 37 = (none, .goto 5, [42]) := by decide +kernel
theorem r_Model_grown_40 : P_Model_grown 40 = (none, .ldc 231, []) := by decide +kernel
theorem r_Model_grown_42 : P_Model_grown 42 = (none, .ireturn, []) := by decide +kernel
def E_Model_grown : List (Nat × Ent) := [(646, (1, 0, 0, 0, T_Model_isPicture)), (912, (3, 2, 0, 0, T_Model_ofKind))]
def X_Model_grown : Cx := (llk (0, 0, 9) ftX11, llk 99 ntX11, llk none kcX11, llk none klX11, llk dEnt E_Model_grown, 3, 0, false)
theorem xok_Model_grown : Xok RX11 X_Model_grown := xok_of ftX11_ok ntX11_ok kcX11_ok klX11_ok (E := E_Model_grown) (List.forall_mem_cons.mpr ⟨co_X11_646, List.forall_mem_cons.mpr ⟨co_X11_912, fun _ h => absurd h List.not_mem_nil⟩⟩)
theorem xk_Model_grown_231 : xkc X_Model_grown 231 = some (-100000) := by decide +kernel
theorem xe_Model_grown_646 : xE X_Model_grown (4 * 161 + 2) = (1, 0, 0, 0, T_Model_isPicture) := rfl
theorem xe_Model_grown_912 : xE X_Model_grown (4 * 228 + 0) = (3, 2, 0, 0, T_Model_ofKind) := rfl
theorem xd_Model_grown : xd X_Model_grown = 3 := rfl
theorem xrb_Model_grown : xrb X_Model_grown = 0 := rfl
theorem xin_Model_grown : xin X_Model_grown = false := rfl
set_option maxHeartbeats 4000000 in
set_option maxRecDepth 100000 in
theorem S_Model_grown : Snd yX11_grown cX11_grown 4 (some .int) T_Model_grown 3 0 0 := by
  refine snd_of (X := X_Model_grown) (P := P_Model_grown) (tb := tb_Model_grown) (own := RX11) (by decide) rfl rfl (by decide +kernel) xok_Model_grown rfl rk0 (fun h => by first | rfl | cases h) ?_
  intro as M k has hM hT0
  obtain ⟨sz, sl, lay, ρ, σ, τ⟩ := M
  obtain ⟨o, as1, e, hlo, hT1⟩ := mkT_r hT0
  clear hT0
  subst e
  obtain ⟨p, as2, e, hT2⟩ := pI_x hT1
  clear hT1
  subst e
  obtain ⟨q, as3, e, hT3⟩ := pI_x hT2
  clear hT2
  subst e
  obtain ⟨x, as4, e, hT4⟩ := pI_x hT3
  clear hT3
  subst e
  obtain ⟨e, hT⟩ := hT4
  subst e
  replace hlo : lay o = (21, 0) := hlo
  have r_p : -2147483648 ≤ p ∧ p ≤ 2147483647 := has (vI p) (by simp)
  have r_q : -2147483648 ≤ q ∧ q ≤ 2147483647 := has (vI q) (by simp)
  have r_x : -2147483648 ≤ x ∧ x ≤ 2147483647 := has (vI x) (by simp)
  clear has
  replace hM : ∀ a i, -2147483648 ≤ σ a i ∧ σ a i ≤ 2147483647 := hM
  replace hT : TF_Model_grown o p q x sz sl lay ρ σ τ k := hT
  unfold TF_Model_grown at hT
  obtain ⟨hL, U, len, st, V, lem, su, hM1, hM2, h1, h0⟩ := hT
  refine ⟨Nat.le_of_ble_eq_true rfl, fun _ _ _ => False, fun _ _ _ => 0, 31, ?_, fun _ _ _ _ _ _ h => h.elim⟩
  obtain ⟨mh, mp0, mp2, mp3, mp4, mp5, mp6, mp7, mp8, mp9, mp10, mp11, mp12, mp13, mp14, mp15, mp16, mp17, mp18, mp19, mp20, mp21, mp22, mp24, mp25, mp26, mp27, mq0, mq2, mq3, mq4, mq5, mq6, mq7, mq8, mq9, mq10, mq11, mq12, mq13, mq14, mq15, mq16, mq17, mq18, mq19, mq20, mq21, mq22, mq24, mq25, mq26, mq27⟩ := (show LModel lay ρ _ from hL)
  unfold wps
  simp only [si_iload_n0, si_iload_n1, si_iload_n2, si_iload_n3, si_iload, si_lload_n0, si_lload_n1, si_lload_n2, si_lload_n3, si_lload, si_aload_n0, si_aload_n1, si_aload_n2, si_aload_n3, si_aload, si_istore_n0, si_istore_n1, si_istore_n2, si_istore_n3, si_istore, si_astore_n0, si_astore_n1, si_astore_n2, si_astore_n3, si_astore, si_lstore_n0, si_lstore_n1, si_lstore_n2, si_lstore_n3, si_lstore, si_iconst, si_bipush, si_sipush, si_ldc, si_ldc2_w, si_lconst0, si_lconst1, si_aconst_null, si_iinc, si_dup, si_dup2, si_iadd, si_isub, si_imul, si_idiv, si_irem, si_iand, si_ior, si_ishl, si_ishr, si_ladd, si_lmul, si_lor, si_lxor, si_lshl, si_lushr, si_lcmp, si_i2b, si_i2l, si_l2i, si_icmp_eq, si_icmp_ne, si_icmp_lt, si_icmp_ge, si_icmp_gt, si_icmp_le, si_if_eq, si_if_ne, si_if_lt, si_if_ge, si_if_gt, si_if_le, si_ifnull, si_ifnonnull, si_goto, si_tableswitch, si_lookupswitch, si_getfield, si_putfield, si_getstatic, si_iaload, si_baload, si_laload, si_aaload, si_iastore, si_bastore, si_lastore, si_aastore, si_arraylength, si_new, si_newarray, si_anewarray, si_invokevirtual, si_invokespecial, si_invokestatic, si_ireturn, si_lreturn, si_areturn, si_return_, pI_e, pL_e, pR_e, pA_r, pA_n, pN_n, pN_r, oI_e, oL_e, oA_r, oA_n, lget_e, lrm1_0, lrm2_0, lrm1_i, lrm1_r, lrm1_n, lrm1_l, lrm2_i, lrm2_r, lrm2_n, lrm2_l, popN_0, popN_s, acat_i, acat_l, acat_r, acat_n, stw_0, stw_s, psh_s, psh_n, wgf_r, wgf_i, wgf_b, wgf_n, wgf_m, wpf_i, wpf_r, wpf_b, wnew_e, callE_e, rbk_0, rbk_1, tsw_0, tsw_s, lsw_0, lsw_s, wp_s, wq_t, wq_f, oV_e, pick_0, pick_s, oZ_e, oY_e, r_Model_grown_0, r_Model_grown_1, r_Model_grown_4, r_Model_grown_7, r_Model_grown_8, r_Model_grown_11, r_Model_grown_14, r_Model_grown_15, r_Model_grown_18, r_Model_grown_19, r_Model_grown_21, r_Model_grown_24, r_Model_grown_25, r_Model_grown_26, r_Model_grown_27, r_Model_grown_30, r_Model_grown_31, r_Model_grown_32, r_Model_grown_33, r_Model_grown_36, r_Model_grown_37, r_Model_grown_40, r_Model_grown_42, xk_Model_grown_231, xe_Model_grown_646, xe_Model_grown_912, xd_Model_grown, xrb_Model_grown, xin_Model_grown, T_Model_isPicture_e, TF_Model_isPicture, T_Model_ofKind_e, TF_Model_ofKind, mh, mp0, mp2, mp3, mp4, mp5, mp6, mp7, mp8, mp9, mp10, mp11, mp12, mp13, mp14, mp15, mp16, mp17, mp18, mp19, mp20, mp21, mp22, mp24, mp25, mp26, mp27, mq0, mq2, mq3, mq4, mq5, mq6, mq7, mq8, mq9, mq10, mq11, mq12, mq13, mq14, mq15, mq16, mq17, mq18, mq19, mq20, mq21, mq22, mq24, mq25, mq26, mq27, Nat.reduceAdd, Nat.reduceMul, Nat.reduceEqDiff, reduceIte, Int.reduceNeg, Int.reduceLE, Int.reduceLT, Int.reduceAdd, Int.reduceSub, Int.reduceToNat, true_and, and_true, inR_e, Nat.reduceLT, Nat.reduceLeDiff, reduceCtorEq, Nat.add_zero, Nat.zero_add, or_false, false_or, or_true, true_or, not_true_eq_false, not_false_eq_true, Classical.not_not, Nat.add_eq_zero_iff, and_false, false_and, Int.reduceEq, List.mem_cons, List.not_mem_nil, forall_eq_or_imp, forall_eq, false_implies, implies_true, forall_const, aargs_0, aargs_i, aargs_r, aargs_l, aargs_n, nfT_e, eq_self, and_self, Nat.le_refl, fu_s, fu_fu, iu_iu, iu_s, fu_am, fu_a0, fu_0a, iu_l, Nat.reduceBEq, Int.reduceBEq, T_objInit_e]
  clear mp0 mp2 mp3 mp4 mp5 mp6 mp7 mp8 mp9 mp10 mp11 mp12 mp13 mp14 mp15 mp16 mp17 mp18 mp19 mp20 mp21 mp22 mp24 mp25 mp26 mp27
  refine ⟨fun hp => ⟨fun hq => ⟨fun a => h0 (fun z => by omega), fun a => ⟨fun b => h0 (fun z => by omega), fun b => ?_⟩⟩, fun hq => h0 (fun z => hq z.2.1)⟩, fun hp => h0 (fun z => hp z.1)⟩
  have r1 := cntZ_R (fun i => decide (srt U (st 2 i) = 0 ∧ kdv U (st 2 i) = x)) (st 0 7).toNat
  have r2 := cntZ_R (fun i => decide (srt V (su 2 i) = 0 ∧ kdv V (su 2 i) = x)) (su 0 7).toNat
  have w9 := (hM1 hp).1.2.2.2.2.2.2.2.2.2.1
  have x9 := (hM2 hq).1.2.2.2.2.2.2.2.2.2.1
  exact ⟨hL, V, lem, su, (hM2 hq).1, (hM2 hq).2, hL, U, len, st, (hM1 hp).1, (hM1 hp).2, by omega, h1 ⟨hp, hq, by omega⟩⟩
def TF_Model_change (o : Nat) (p : Int) (q : Int) (x : Int) (sz sl : Nat) (lay : Nat → Nat × Int) (ρ : Nat → Int → Nat) (σ : Nat → Int → Int) (τ : Nat → Int → Int64) (k : Option AV → Mm → Prop) : Prop := LModel lay ρ o ∧ ∃ (U : Int → Int) (len : Int) (st : Nat → Int → Int) (V : Int → Int) (lem : Int) (su : Nat → Int → Int), (SW U len st ∧ MR σ o p U len st) ∧ (SW V lem su ∧ MR σ o q V lem su) ∧ (0 ≤ fn U st x ∨ 0 ≤ fn V su x) ∧ ∀ c : Int → Int, k (some (vI (relP U st V su x))) (sz, sl, lay, ρ, fu σ (o + 23) c, τ)
def T_Model_change : Tr := mkT 11 fun o as M k => pI as fun p as => pI as fun q as => pI as fun x as => as = [] ∧ TF_Model_change o p q x M.1 M.2.1 M.2.2.1 M.2.2.2.1 M.2.2.2.2.1 M.2.2.2.2.2 k
theorem T_Model_change_e {o : Nat} {p : Int} {q : Int} {x : Int} {sz sl : Nat} {lay : Nat → Nat × Int} {ρ : Nat → Int → Nat} {σ : Nat → Int → Int} {τ : Nat → Int → Int64} {k : Option AV → Mm → Prop} : T_Model_change [vR o, vI p, vI q, vI x] (sz, sl, lay, ρ, σ, τ) k = (lay o = (21, 0) ∧ TF_Model_change o p q x sz sl lay ρ σ τ k) := by simp [T_Model_change, mkT_e, pI_e, pR_e, pL_e]
theorem T_Model_change_r (as : List AV) (M : Mm) (k : Option AV → Mm → Prop) (h : T_Model_change as M k) : ∃ b As, as = vR b :: As ∧ M.2.2.1 b = (10 + 11, 0) := by
  obtain ⟨b, As, h1, h2, -⟩ := mkT_r h
  exact ⟨b, As, h1, h2⟩
def tb_Model_change : List (Nat × Option (List Nat) × Instr × List Nat) := [(0, none, .aload_n 0, []), (1, none, .iload_n 1, []), (2, none, .iload_n 3, []), (3, none, .invokevirtual 152, []), (6, none, .istore 4, []), (8, none, .aload_n 0, []), (9, none, .iload_n 2, []), (10, none, .iload_n 3, []), (11, none, .invokevirtual 152, []), (14, none, .istore 5, []), (16, none, .iload 4, []), (18, none, .ifCond .lt 8, [26]), (21, none, .iload 5, []), (23, none, .ifCond .ge 23, [46]), (26, none, .iload 4, []), (28, none, .ifCond .lt 7, [35]), (31, none, .iconst 1, []), (32, none, .goto 13, [45]), (35, none, .iload 5, []), (37, none, .ifCond .lt 7, [44]), (40, none, .iconst 0, []), (41, none, .goto 4, [45]), (44, none, .iconst (-1), []), (45, none, .ireturn, []), (46, none, .aload_n 0, []), (47, none, .getfield 47, []), (50, none, .sipush 600, []), (53, none, .iload_n 1, []), (54, none, .imul, []), (55, none, .iload 4, []), (57, none, .iadd, []), (58, none, .iaload, []), (59, none, .istore 6, []), (61, none, .aload_n 0, []), (62, none, .getfield 47, []), (65, none, .sipush 600, []), (68, none, .iload_n 2, []), (69, none, .imul, []), (70, none, .iload 5, []), (72, none, .iadd, []), (73, none, .iaload, []), (74, none, .istore 7, []), (76, none, .aload_n 0, []), (77, none, .iload_n 1, []), (78, none, .iload 4, []), (80, none, .invokevirtual 134, []), (83, none, .aload_n 0, []), (84, none, .iload_n 2, []), (85, none, .iload 5, []), (87, none, .invokevirtual 134, []), (90, none, .if_icmp .ne 35, [125]), (93, none, .aload_n 0, []), (94, none, .iload_n 1, []), (95, none, .iload 4, []), (97, none, .invokevirtual 134, []), (100, none, .iconst 2, []), (101, none, .if_icmp .ge 26, [127]), (104, none, .aload_n 0, []), (105, none, .iload_n 1, []), (106, none, .iload 6, []), (108, none, .iconst 3, []), (109, none, .iadd, []), (110, none, .invokevirtual 95, []), (113, none, .aload_n 0, []), (114, none, .iload_n 2, []), (115, none, .iload 7, []), (117, none, .iconst 3, []), (118, none, .iadd, []), (119, none, .invokevirtual 95, []), (122, none, .if_icmp .eq 5, [127]), (125, none, .iconst 2, []), (126, none, .ireturn, []), (127, some [0, 1, 2, 3, 4, 5, 6, 7], .aload_n 0, []), (128, none, .iload_n 1, []), (129, none, .iload 6, []), (131, none, .invokevirtual 131, []), (134, none, .istore 8, []), (136, none, .aload_n 0, []), (137, none, .iload_n 2, []), (138, none, .iload 7, []), (140, none, .invokevirtual 131, []), (143, none, .iload 8, []), (145, none, .if_icmp .ne 7, [152]), (148, none, .iconst 1, []), (149, none, .goto 4, [153]), (152, none, .iconst 0, []), (153, none, .istore 9, []), (155, none, .iconst 0, []), (156, none, .istore 10, []), (158, some [0, 1, 2, 3, 4, 5, 6, 7, 8, 9, 10], .iload 10, []), (160, none, .iload 8, []), (162, none, .if_icmp .ge 43, [205]), (165, none, .iload 9, []), (167, none, .ifCond .eq 38, [205]), (170, none, .aload_n 0, []), (171, none, .iload_n 1, []), (172, none, .iload 6, []), (174, none, .iload 10, []), (176, none, .invokevirtual 137, []), (179, none, .aload_n 0, []), (180, none, .iload_n 2, []), (181, none, .iload 7, []), (183, none, .iload 10, []), (185, none, .invokevirtual 137, []), (188, none, .lcmp, []), (189, none, .ifCond .ne 7, [196]), (192, none, .iconst 1, []), (193, none, .goto 4, [197]), (196, none, .iconst 0, []), (197, none, .istore 9, []), (199, none, .iinc 10 1, []), (202, none, .goto (-44), [158]), (205, none, .iload 9, []), (207, none, .ifCond .eq 7, [214]), (210, none, .iconst 4, []), (211, none, .goto 4, [215]), (214, none, .iconst 3, []), (215, none, .ireturn, [])]
def P_Model_change : Nat → Option (List Nat) × Instr × List Nat := plk tb_Model_change
theorem r_Model_change_0 : P_Model_change 0 = (none, .aload_n 0, []) := by decide +kernel
theorem r_Model_change_1 : P_Model_change 1 = (none, .iload_n 1, []) := by decide +kernel
theorem r_Model_change_2 : P_Model_change 2 = (none, .iload_n 3, []) := by decide +kernel
theorem r_Model_change_3 : P_Model_change 3 = (none, .invokevirtual 152, []) := by decide +kernel
theorem r_Model_change_6 : P_Model_change 6 = (none, .istore 4, []) := by decide +kernel
theorem r_Model_change_8 : P_Model_change 8 = (none, .aload_n 0, []) := by decide +kernel
theorem r_Model_change_9 : P_Model_change 9 = (none, .iload_n 2, []) := by decide +kernel
theorem r_Model_change_10 : P_Model_change 10 = (none, .iload_n 3, []) := by decide +kernel
theorem r_Model_change_11 : P_Model_change 11 = (none, .invokevirtual 152, []) := by decide +kernel
theorem r_Model_change_14 : P_Model_change 14 = (none, .istore 5, []) := by decide +kernel
theorem r_Model_change_16 : P_Model_change 16 = (none, .iload 4, []) := by decide +kernel
theorem r_Model_change_18 : P_Model_change 18 = (none, .ifCond .lt 8, [26]) := by decide +kernel
theorem r_Model_change_21 : P_Model_change 21 = (none, .iload 5, []) := by decide +kernel
theorem r_Model_change_23 : P_Model_change 23 = (none, .ifCond .ge 23, [46]) := by decide +kernel
theorem r_Model_change_26 : P_Model_change 26 = (none, .iload 4, []) := by decide +kernel
theorem r_Model_change_28 : P_Model_change 28 = (none, .ifCond .lt 7, [35]) := by decide +kernel
theorem r_Model_change_31 : P_Model_change 31 = (none, .iconst 1, []) := by decide +kernel
theorem r_Model_change_32 : P_Model_change 32 = (none, .goto 13, [45]) := by decide +kernel
theorem r_Model_change_35 : P_Model_change 35 = (none, .iload 5, []) := by decide +kernel
theorem r_Model_change_37 : P_Model_change 37 = (none, .ifCond .lt 7, [44]) := by decide +kernel
theorem r_Model_change_40 : P_Model_change 40 = (none, .iconst 0, []) := by decide +kernel
theorem r_Model_change_41 : P_Model_change 41 = (none, .goto 4, [45]) := by decide +kernel
theorem r_Model_change_44 : P_Model_change 44 = (none, .iconst (-1), []) := by decide +kernel
theorem r_Model_change_45 : P_Model_change 45 = (none, .ireturn, []) := by decide +kernel
theorem r_Model_change_46 : P_Model_change 46 = (none, .aload_n 0, []) := by decide +kernel
theorem r_Model_change_47 : P_Model_change 47 = (none, .getfield 47, []) := by decide +kernel
theorem r_Model_change_50 : P_Model_change 50 = (none, .sipush 600, []) := by decide +kernel
theorem r_Model_change_53 : P_Model_change 53 = (none, .iload_n 1, []) := by decide +kernel
theorem r_Model_change_54 : P_Model_change 54 = (none, .imul, []) := by decide +kernel
theorem r_Model_change_55 : P_Model_change 55 = (none, .iload 4, []) := by decide +kernel
theorem r_Model_change_57 : P_Model_change 57 = (none, .iadd, []) := by decide +kernel
theorem r_Model_change_58 : P_Model_change 58 = (none, .iaload, []) := by decide +kernel
theorem r_Model_change_59 : P_Model_change 59 = (none, .istore 6, []) := by decide +kernel
theorem r_Model_change_61 : P_Model_change 61 = (none, .aload_n 0, []) := by decide +kernel
theorem r_Model_change_62 : P_Model_change 62 = (none, .getfield 47, []) := by decide +kernel
theorem r_Model_change_65 : P_Model_change 65 = (none, .sipush 600, []) := by decide +kernel
theorem r_Model_change_68 : P_Model_change 68 = (none, .iload_n 2, []) := by decide +kernel
theorem r_Model_change_69 : P_Model_change 69 = (none, .imul, []) := by decide +kernel
theorem r_Model_change_70 : P_Model_change 70 = (none, .iload 5, []) := by decide +kernel
theorem r_Model_change_72 : P_Model_change 72 = (none, .iadd, []) := by decide +kernel
theorem r_Model_change_73 : P_Model_change 73 = (none, .iaload, []) := by decide +kernel
theorem r_Model_change_74 : P_Model_change 74 = (none, .istore 7, []) := by decide +kernel
theorem r_Model_change_76 : P_Model_change 76 = (none, .aload_n 0, []) := by decide +kernel
theorem r_Model_change_77 : P_Model_change 77 = (none, .iload_n 1, []) := by decide +kernel
theorem r_Model_change_78 : P_Model_change 78 = (none, .iload 4, []) := by decide +kernel
theorem r_Model_change_80 : P_Model_change 80 = (none, .invokevirtual 134, []) := by decide +kernel
theorem r_Model_change_83 : P_Model_change 83 = (none, .aload_n 0, []) := by decide +kernel
theorem r_Model_change_84 : P_Model_change 84 = (none, .iload_n 2, []) := by decide +kernel
theorem r_Model_change_85 : P_Model_change 85 = (none, .iload 5, []) := by decide +kernel
theorem r_Model_change_87 : P_Model_change 87 = (none, .invokevirtual 134, []) := by decide +kernel
theorem r_Model_change_90 : P_Model_change 90 = (none, .if_icmp .ne 35, [125]) := by decide +kernel
theorem r_Model_change_93 : P_Model_change 93 = (none, .aload_n 0, []) := by decide +kernel
theorem r_Model_change_94 : P_Model_change 94 = (none, .iload_n 1, []) := by decide +kernel
theorem r_Model_change_95 : P_Model_change 95 = (none, .iload 4, []) := by decide +kernel
theorem r_Model_change_97 : P_Model_change 97 = (none, .invokevirtual 134, []) := by decide +kernel
theorem r_Model_change_100 : P_Model_change 100 = (none, .iconst 2, []) := by decide +kernel
theorem r_Model_change_101 : P_Model_change 101 = (none, .if_icmp .ge 26, [127]) := by decide +kernel
theorem r_Model_change_104 : P_Model_change 104 = (none, .aload_n 0, []) := by decide +kernel
theorem r_Model_change_105 : P_Model_change 105 = (none, .iload_n 1, []) := by decide +kernel
theorem r_Model_change_106 : P_Model_change 106 = (none, .iload 6, []) := by decide +kernel
theorem r_Model_change_108 : P_Model_change 108 = (none, .iconst 3, []) := by decide +kernel
theorem r_Model_change_109 : P_Model_change 109 = (none, .iadd, []) := by decide +kernel
theorem r_Model_change_110 : P_Model_change 110 = (none, .invokevirtual 95, []) := by decide +kernel
theorem r_Model_change_113 : P_Model_change 113 = (none, .aload_n 0, []) := by decide +kernel
theorem r_Model_change_114 : P_Model_change 114 = (none, .iload_n 2, []) := by decide +kernel
theorem r_Model_change_115 : P_Model_change 115 = (none, .iload 7, []) := by decide +kernel
theorem r_Model_change_117 : P_Model_change 117 = (none, .iconst 3, []) := by decide +kernel
theorem r_Model_change_118 : P_Model_change 118 = (none, .iadd, []) := by decide +kernel
theorem r_Model_change_119 : P_Model_change 119 = (none, .invokevirtual 95, []) := by decide +kernel
theorem r_Model_change_122 : P_Model_change 122 = (none, .if_icmp .eq 5, [127]) := by decide +kernel
theorem r_Model_change_125 : P_Model_change 125 = (none, .iconst 2, []) := by decide +kernel
theorem r_Model_change_126 : P_Model_change 126 = (none, .ireturn, []) := by decide +kernel
theorem r_Model_change_127 : P_Model_change 127 = (some [0, 1, 2, 3, 4, 5, 6, 7], .aload_n 0, []) := by decide +kernel
theorem r_Model_change_128 : P_Model_change 128 = (none, .iload_n 1, []) := by decide +kernel
theorem r_Model_change_129 : P_Model_change 129 = (none, .iload 6, []) := by decide +kernel
theorem r_Model_change_131 : P_Model_change 131 = (none, .invokevirtual 131, []) := by decide +kernel
theorem r_Model_change_134 : P_Model_change 134 = (none, .istore 8, []) := by decide +kernel
theorem r_Model_change_136 : P_Model_change 136 = (none, .aload_n 0, []) := by decide +kernel
theorem r_Model_change_137 : P_Model_change 137 = (none, .iload_n 2, []) := by decide +kernel
theorem r_Model_change_138 : P_Model_change 138 = (none, .iload 7, []) := by decide +kernel
theorem r_Model_change_140 : P_Model_change 140 = (none, .invokevirtual 131, []) := by decide +kernel
theorem r_Model_change_143 : P_Model_change 143 = (none, .iload 8, []) := by decide +kernel
theorem r_Model_change_145 : P_Model_change 145 = (none, .if_icmp .ne 7, [152]) := by decide +kernel
theorem r_Model_change_148 : P_Model_change 148 = (none, .iconst 1, []) := by decide +kernel
theorem r_Model_change_149 : P_Model_change 149 = (none, .goto 4, [153]) := by decide +kernel
theorem r_Model_change_152 : P_Model_change 152 = (none, .iconst 0, []) := by decide +kernel
theorem r_Model_change_153 : P_Model_change 153 = (none, .istore 9, []) := by decide +kernel
theorem r_Model_change_155 : P_Model_change 155 = (none, .iconst 0, []) := by decide +kernel
theorem r_Model_change_156 : P_Model_change 156 = (none, .istore 10, []) := by decide +kernel
theorem r_Model_change_158 : P_Model_change 158 = (some [0, 1, 2, 3, 4, 5, 6, 7, 8, 9, 10], .iload 10, []) := by decide +kernel
theorem r_Model_change_160 : P_Model_change 160 = (none, .iload 8, []) := by decide +kernel
theorem r_Model_change_162 : P_Model_change 162 = (none, .if_icmp .ge 43, [205]) := by decide +kernel
theorem r_Model_change_165 : P_Model_change 165 = (none, .iload 9, []) := by decide +kernel
theorem r_Model_change_167 : P_Model_change 167 = (none, .ifCond .eq 38, [205]) := by decide +kernel
theorem r_Model_change_170 : P_Model_change 170 = (none, .aload_n 0, []) := by decide +kernel
theorem r_Model_change_171 : P_Model_change 171 = (none, .iload_n 1, []) := by decide +kernel
theorem r_Model_change_172 : P_Model_change 172 = (none, .iload 6, []) := by decide +kernel
theorem r_Model_change_174 : P_Model_change 174 = (none, .iload 10, []) := by decide +kernel
theorem r_Model_change_176 : P_Model_change 176 = (none, .invokevirtual 137, []) := by decide +kernel
theorem r_Model_change_179 : P_Model_change 179 = (none, .aload_n 0, []) := by decide +kernel
theorem r_Model_change_180 : P_Model_change 180 = (none, .iload_n 2, []) := by decide +kernel
theorem r_Model_change_181 : P_Model_change 181 = (none, .iload 7, []) := by decide +kernel
theorem r_Model_change_183 : P_Model_change 183 = (none, .iload 10, []) := by decide +kernel
theorem r_Model_change_185 : P_Model_change 185 = (none, .invokevirtual 137, []) := by decide +kernel
theorem r_Model_change_188 : P_Model_change 188 = (none, .lcmp, []) := by decide +kernel
theorem r_Model_change_189 : P_Model_change 189 = (none, .ifCond .ne 7, [196]) := by decide +kernel
theorem r_Model_change_192 : P_Model_change 192 = (none, .iconst 1, []) := by decide +kernel
theorem r_Model_change_193 : P_Model_change 193 = (none, .goto 4, [197]) := by decide +kernel
theorem r_Model_change_196 : P_Model_change 196 = (none, .iconst 0, []) := by decide +kernel
theorem r_Model_change_197 : P_Model_change 197 = (none, .istore 9, []) := by decide +kernel
theorem r_Model_change_199 : P_Model_change 199 = (none, .iinc 10 1, []) := by decide +kernel
theorem r_Model_change_202 : P_Model_change 202 = (none, .goto (-44), [158]) := by decide +kernel
theorem r_Model_change_205 : P_Model_change 205 = (none, .iload 9, []) := by decide +kernel
theorem r_Model_change_207 : P_Model_change 207 = (none, .ifCond .eq 7, [214]) := by decide +kernel
theorem r_Model_change_210 : P_Model_change 210 = (none, .iconst 4, []) := by decide +kernel
theorem r_Model_change_211 : P_Model_change 211 = (none, .goto 4, [215]) := by decide +kernel
theorem r_Model_change_214 : P_Model_change 214 = (none, .iconst 3, []) := by decide +kernel
theorem r_Model_change_215 : P_Model_change 215 = (none, .ireturn, []) := by decide +kernel
def E_Model_change : List (Nat × Ent) := [(524, (3, 3, 0, 0, T_Model_valuesAt)), (536, (3, 1, 0, 0, T_Model_sort)), (548, (4, 5, 0, 0, T_Model_valueAt)), (608, (3, 0, 0, 0, T_Model_find)), (380, (3, 0, 0, 0, T_Model_at))]
def X_Model_change : Cx := (llk (0, 0, 9) ftX11, llk 99 ntX11, llk none kcX11, llk none klX11, llk dEnt E_Model_change, 6, 0, false)
theorem xok_Model_change : Xok RX11 X_Model_change := xok_of ftX11_ok ntX11_ok kcX11_ok klX11_ok (E := E_Model_change) (List.forall_mem_cons.mpr ⟨co_X11_524, List.forall_mem_cons.mpr ⟨co_X11_536, List.forall_mem_cons.mpr ⟨co_X11_548, List.forall_mem_cons.mpr ⟨co_X11_608, List.forall_mem_cons.mpr ⟨co_X11_380, fun _ h => absurd h List.not_mem_nil⟩⟩⟩⟩⟩)
theorem xf_Model_change_47 : xfl X_Model_change 47 = (11, 13, 1) := by decide +kernel
theorem xe_Model_change_524 : xE X_Model_change (4 * 131 + 0) = (3, 3, 0, 0, T_Model_valuesAt) := rfl
theorem xe_Model_change_536 : xE X_Model_change (4 * 134 + 0) = (3, 1, 0, 0, T_Model_sort) := rfl
theorem xe_Model_change_548 : xE X_Model_change (4 * 137 + 0) = (4, 5, 0, 0, T_Model_valueAt) := rfl
theorem xe_Model_change_608 : xE X_Model_change (4 * 152 + 0) = (3, 0, 0, 0, T_Model_find) := rfl
theorem xe_Model_change_380 : xE X_Model_change (4 * 95 + 0) = (3, 0, 0, 0, T_Model_at) := rfl
theorem xd_Model_change : xd X_Model_change = 6 := rfl
theorem xrb_Model_change : xrb X_Model_change = 0 := rfl
theorem xin_Model_change : xin X_Model_change = false := rfl
set_option maxHeartbeats 4000000 in
set_option maxRecDepth 100000 in
theorem S_Model_change : Snd yX11_change cX11_change 11 (some .int) T_Model_change 6 0 0 := by
  refine snd_of (X := X_Model_change) (P := P_Model_change) (tb := tb_Model_change) (own := RX11) (by decide) rfl rfl (by decide +kernel) xok_Model_change rfl rk0 (fun h => by first | rfl | cases h) ?_
  intro as M k has hM hT0
  obtain ⟨sz, sl, lay, ρ, σ, τ⟩ := M
  obtain ⟨o, as1, e, hlo, hT1⟩ := mkT_r hT0
  clear hT0
  subst e
  obtain ⟨p, as2, e, hT2⟩ := pI_x hT1
  clear hT1
  subst e
  obtain ⟨q, as3, e, hT3⟩ := pI_x hT2
  clear hT2
  subst e
  obtain ⟨x, as4, e, hT4⟩ := pI_x hT3
  clear hT3
  subst e
  obtain ⟨e, hT⟩ := hT4
  subst e
  replace hlo : lay o = (21, 0) := hlo
  have r_p : -2147483648 ≤ p ∧ p ≤ 2147483647 := has (vI p) (by simp)
  have r_q : -2147483648 ≤ q ∧ q ≤ 2147483647 := has (vI q) (by simp)
  have r_x : -2147483648 ≤ x ∧ x ≤ 2147483647 := has (vI x) (by simp)
  clear has
  replace hM : ∀ a i, -2147483648 ≤ σ a i ∧ σ a i ≤ 2147483647 := hM
  replace hT : TF_Model_change o p q x sz sl lay ρ σ τ k := hT
  unfold TF_Model_change at hT
  obtain ⟨hL, U, len, st, V, lem, su, ⟨hS, hR⟩, ⟨hS2, hR2⟩, hin, hT⟩ := hT
  obtain ⟨hB, hl3, ⟨m4, m5, m6⟩, ⟨m7, m8, m9⟩, m12, ⟨m14, m13⟩, m15, ⟨m17, m16⟩, m26⟩ := (show MR σ o p U len st from hR)
  obtain ⟨b1, b2, b3, b4, b5, b6, b7⟩ := (show MB σ o p U len (st 1) from hB)
  obtain ⟨nB, nl3, ⟨n4, n5, n6⟩, ⟨n7, n8, n9⟩, n12, ⟨n14, n13⟩, n15, ⟨n17, n16⟩, n26⟩ := (show MR σ o q V lem su from hR2)
  obtain ⟨c1, c2, c3, c4, c5, c6, c7⟩ := (show MB σ o q V lem (su 1) from nB)
  have w9 := hS.2.2.2.2.2.2.2.2.2.1
  have x9 := hS2.2.2.2.2.2.2.2.2.2.1
  obtain ⟨J, hJd⟩ : ∃ J : Nat → List AV → Mm → Prop, J = (fun c vs M1 => (c = 127 ∧ ((0 ≤ fn U st x ∧ fn U st x < st 0 7) ∧ (0 ≤ fn V su x ∧ fn V su x < su 0 7)) ∧ kindP U st V su (fn U st x) (fn V su x) ∧ vs = [vR o, vI p, vI q, vI x, vI (fn U st x), vI (fn V su x), vI (st 2 (fn U st x)), vI (su 2 (fn V su x))] ∧ M1 = (sz, sl, lay, ρ, σ, τ)) ∨ (c = 158 ∧ ((0 ≤ fn U st x ∧ fn U st x < st 0 7) ∧ (0 ≤ fn V su x ∧ fn V su x < su 0 7)) ∧ kindP U st V su (fn U st x) (fn V su x) ∧ ∃ (c : Int → Int) (i : Nat) (r : Int), (i : Int) ≤ nV U (st 1) (st 2 (fn U st x)) ∧ ((r = 1 ∧ nV U (st 1) (st 2 (fn U st x)) = nV V (su 1) (su 2 (fn V su x)) ∧ ∀ k : Int, 0 ≤ k ∧ k < i → Int64.ofInt (vZ U (st 1) (st 2 (fn U st x)) k) = Int64.ofInt (vZ V (su 1) (su 2 (fn V su x)) k)) ∨ (r = 0 ∧ ¬ sameP U st V su (fn U st x) (fn V su x))) ∧ vs = [vR o, vI p, vI q, vI x, vI (fn U st x), vI (fn V su x), vI (st 2 (fn U st x)), vI (su 2 (fn V su x)), vI (nV U (st 1) (st 2 (fn U st x))), vI r, vI (i : Int)] ∧ M1 = (sz, sl, lay, ρ, fu σ (o + 23) c, τ))) := ⟨_, rfl⟩
  obtain ⟨μ, hμ⟩ : ∃ μ : Nat → List AV → Mm → Nat, μ = (fun c vs _ => if c = 127 then 2000 else (1500 - gI (vs.getD 10 vN)).toNat) := ⟨_, rfl⟩
  refine ⟨Nat.le_of_ble_eq_true rfl, J, μ, 126, ?_, ?_⟩
  · skip
    have fR := hS.fnR x
    have gR := hS2.fnR x
    have h' : ∀ r : Int, relP U st V su x = r → k (some (vI r)) (sz, sl, lay, ρ, σ, τ) := fun r e => by
      have := hT (σ (o + 23))
      rw [fu_self, e] at this
      exact this
    (obtain ⟨mh, mp0, mp2, mp3, mp4, mp5, mp6, mp7, mp8, mp9, mp10, mp11, mp12, mp13, mp14, mp15, mp16, mp17, mp18, mp19, mp20, mp21, mp22, mp24, mp25, mp26, mp27, mq0, mq2, mq3, mq4, mq5, mq6, mq7, mq8, mq9, mq10, mq11, mq12, mq13, mq14, mq15, mq16, mq17, mq18, mq19, mq20, mq21, mq22, mq24, mq25, mq26, mq27⟩ := (show LModel lay ρ _ from hL); unfold wps; simp only [find_e hL hS hR, find_e hL hS2 hR2, si_iload_n0, si_iload_n1, si_iload_n2, si_iload_n3, si_iload, si_lload_n0, si_lload_n1, si_lload_n2, si_lload_n3, si_lload, si_aload_n0, si_aload_n1, si_aload_n2, si_aload_n3, si_aload, si_istore_n0, si_istore_n1, si_istore_n2, si_istore_n3, si_istore, si_astore_n0, si_astore_n1, si_astore_n2, si_astore_n3, si_astore, si_lstore_n0, si_lstore_n1, si_lstore_n2, si_lstore_n3, si_lstore, si_iconst, si_bipush, si_sipush, si_ldc, si_ldc2_w, si_lconst0, si_lconst1, si_aconst_null, si_iinc, si_dup, si_dup2, si_iadd, si_isub, si_imul, si_idiv, si_irem, si_iand, si_ior, si_ishl, si_ishr, si_ladd, si_lmul, si_lor, si_lxor, si_lshl, si_lushr, si_lcmp, si_i2b, si_i2l, si_l2i, si_icmp_eq, si_icmp_ne, si_icmp_lt, si_icmp_ge, si_icmp_gt, si_icmp_le, si_if_eq, si_if_ne, si_if_lt, si_if_ge, si_if_gt, si_if_le, si_ifnull, si_ifnonnull, si_goto, si_tableswitch, si_lookupswitch, si_getfield, si_putfield, si_getstatic, si_iaload, si_baload, si_laload, si_aaload, si_iastore, si_bastore, si_lastore, si_aastore, si_arraylength, si_new, si_newarray, si_anewarray, si_invokevirtual, si_invokespecial, si_invokestatic, si_ireturn, si_lreturn, si_areturn, si_return_, pI_e, pL_e, pR_e, pA_r, pA_n, pN_n, pN_r, oI_e, oL_e, oA_r, oA_n, lget_e, lrm1_0, lrm2_0, lrm1_i, lrm1_r, lrm1_n, lrm1_l, lrm2_i, lrm2_r, lrm2_n, lrm2_l, popN_0, popN_s, acat_i, acat_l, acat_r, acat_n, stw_0, stw_s, psh_s, psh_n, wgf_r, wgf_i, wgf_b, wgf_n, wgf_m, wpf_i, wpf_r, wpf_b, wnew_e, callE_e, rbk_0, rbk_1, tsw_0, tsw_s, lsw_0, lsw_s, wp_s, wq_t, wq_f, oV_e, pick_0, pick_s, oZ_e, oY_e, r_Model_change_0, r_Model_change_1, r_Model_change_2, r_Model_change_3, r_Model_change_6, r_Model_change_8, r_Model_change_9, r_Model_change_10, r_Model_change_11, r_Model_change_14, r_Model_change_16, r_Model_change_18, r_Model_change_21, r_Model_change_23, r_Model_change_26, r_Model_change_28, r_Model_change_31, r_Model_change_32, r_Model_change_35, r_Model_change_37, r_Model_change_40, r_Model_change_41, r_Model_change_44, r_Model_change_45, r_Model_change_46, r_Model_change_47, r_Model_change_50, r_Model_change_53, r_Model_change_54, r_Model_change_55, r_Model_change_57, r_Model_change_58, r_Model_change_59, r_Model_change_61, r_Model_change_62, r_Model_change_65, r_Model_change_68, r_Model_change_69, r_Model_change_70, r_Model_change_72, r_Model_change_73, r_Model_change_74, r_Model_change_76, r_Model_change_77, r_Model_change_78, r_Model_change_80, r_Model_change_83, r_Model_change_84, r_Model_change_85, r_Model_change_87, r_Model_change_90, r_Model_change_93, r_Model_change_94, r_Model_change_95, r_Model_change_97, r_Model_change_100, r_Model_change_101, r_Model_change_104, r_Model_change_105, r_Model_change_106, r_Model_change_108, r_Model_change_109, r_Model_change_110, r_Model_change_113, r_Model_change_114, r_Model_change_115, r_Model_change_117, r_Model_change_118, r_Model_change_119, r_Model_change_122, r_Model_change_125, r_Model_change_126, r_Model_change_127, r_Model_change_128, r_Model_change_129, r_Model_change_131, r_Model_change_134, r_Model_change_136, r_Model_change_137, r_Model_change_138, r_Model_change_140, r_Model_change_143, r_Model_change_145, r_Model_change_148, r_Model_change_149, r_Model_change_152, r_Model_change_153, r_Model_change_155, r_Model_change_156, r_Model_change_158, r_Model_change_160, r_Model_change_162, r_Model_change_165, r_Model_change_167, r_Model_change_170, r_Model_change_171, r_Model_change_172, r_Model_change_174, r_Model_change_176, r_Model_change_179, r_Model_change_180, r_Model_change_181, r_Model_change_183, r_Model_change_185, r_Model_change_188, r_Model_change_189, r_Model_change_192, r_Model_change_193, r_Model_change_196, r_Model_change_197, r_Model_change_199, r_Model_change_202, r_Model_change_205, r_Model_change_207, r_Model_change_210, r_Model_change_211, r_Model_change_214, r_Model_change_215, xf_Model_change_47, xe_Model_change_524, xe_Model_change_536, xe_Model_change_548, xe_Model_change_608, xe_Model_change_380, xd_Model_change, xrb_Model_change, xin_Model_change, T_Model_valuesAt_e, TF_Model_valuesAt, T_Model_sort_e, TF_Model_sort, T_Model_valueAt_e, TF_Model_valueAt, T_Model_find_e, T_Model_at_e, TF_Model_at, MB_fu, mh, mp0, mp2, mp3, mp4, mp5, mp6, mp7, mp8, mp9, mp10, mp11, mp12, mp13, mp14, mp15, mp16, mp17, mp18, mp19, mp20, mp21, mp22, mp24, mp25, mp26, mp27, mq0, mq2, mq3, mq4, mq5, mq6, mq7, mq8, mq9, mq10, mq11, mq12, mq13, mq14, mq15, mq16, mq17, mq18, mq19, mq20, mq21, mq22, mq24, mq25, mq26, mq27, Nat.reduceAdd, Nat.reduceMul, Nat.reduceEqDiff, reduceIte, Int.reduceNeg, Int.reduceLE, Int.reduceLT, Int.reduceAdd, Int.reduceSub, Int.reduceToNat, true_and, and_true, inR_e, Nat.reduceLT, Nat.reduceLeDiff, reduceCtorEq, Nat.add_zero, Nat.zero_add, or_false, false_or, or_true, true_or, not_true_eq_false, not_false_eq_true, Classical.not_not, Nat.add_eq_zero_iff, and_false, false_and, Int.reduceEq, List.mem_cons, List.not_mem_nil, forall_eq_or_imp, forall_eq, false_implies, implies_true, forall_const, aargs_0, aargs_i, aargs_r, aargs_l, aargs_n, nfT_e, eq_self, and_self, Nat.le_refl, fu_s, fu_fu, iu_iu, iu_s, fu_am, fu_a0, fu_0a, iu_l, Nat.reduceBEq, Int.reduceBEq, T_objInit_e]; clear mp0 mp2 mp3 mp4 mp5 mp6 mp7 mp8 mp9 mp10 mp11 mp12 mp13 mp14 mp15 mp16 mp17 mp18 mp19 mp20 mp21 mp22 mp24 mp25 mp26 mp27)
    have rl : fn U st x < 0 → relP U st V su x = 0 := fun a => by
      unfold relP
      rw [if_pos (by omega)]
    refine ⟨fun a => ⟨fun b => ⟨fun d => by omega, fun d => h' 0 (rl a)⟩, fun b => absurd a b⟩, fun a => ⟨fun b => ?_, fun b => ⟨fun d => absurd d a, fun d => ?_⟩⟩⟩
    · have tv := hS.tv (i := fn U st x) (by omega)
      have tw := hS2.tv (i := fn V su x) (by omega)
      have t0 := tv.1.2.1
      have t4 := tv.1.2.2.1
      have y0 := tw.1.2.1
      have y4 := tw.1.2.2.1
      rw [m13 (fn U st x) (by omega), n13 (fn V su x) (by omega)]
      have r2 : ¬ kindP U st V su (fn U st x) (fn V su x) → relP U st V su x = 2 := fun z => by
        unfold relP
        rw [if_neg (by omega), if_neg (by omega), if_neg (by rw [bP_e]; exact z)]
      have j127 : kindP U st V su (fn U st x) (fn V su x) → J 127 [vR o, vI p, vI q, vI x, vI (fn U st x), vI (fn V su x), vI (st 2 (fn U st x)), vI (su 2 (fn V su x))] (sz, sl, lay, ρ, σ, τ) := fun z => by
        rw [hJd]
        exact Or.inl ⟨rfl, by omega, z, rfl, rfl⟩
      have k2 : ∀ {U A : Int → Int} {q : Int}, TOK U A q → (srt U q = 2 → kdv U q = 0) ∧ (srt U q < 2 → kdv U q = U (q + 3)) := by
        intro U A q t
        unfold srt kdv
        rcases t with ⟨z, -⟩ | ⟨z, -⟩ | z
        · rw [if_pos z, if_neg (by omega)]; omega
        · rw [if_neg (by omega), if_pos z, if_neg (by omega)]; omega
        · rw [if_neg (by omega), if_neg (by omega), if_pos z]; omega
      have k3 := k2 tv.1.1
      have k4 := k2 tw.1.1
      refine ⟨by omega, by omega, by omega, by omega, by omega, by omega, by omega, by omega, hL, U, len, st 1, hB, by omega, by omega, hL, V, lem, su 1, nB, by omega, by omega, fun d => h' 2 (r2 (fun z => d z.1)), fun d => ⟨hL, U, len, st 1, hB, by omega, by omega, fun e => j127 ⟨d, ?_⟩, fun e => ⟨by omega, hL, b1, by omega, by omega, hL, c1, by omega, ?_⟩⟩⟩
      · have : srt U (st 2 (fn U st x)) ≤ 2 := by
          unfold srt
          repeat' split
          all_goals omega
        rw [k3.1 (by omega), k4.1 (by omega)]
      · rw [b3 (st 2 (fn U st x) + 3) (by omega), c3 (su 2 (fn V su x) + 3) (by omega), ← k3.2 (by omega), ← k4.2 (by omega)]
        exact ⟨fun f => j127 ⟨d, f⟩, fun f => h' 2 (r2 (fun z => f z.2))⟩
    · refine h' 1 ?_
      unfold relP
      rw [if_neg (by omega), if_pos (by omega)]
  · intro cp vs M1 hvs hM1 hlen hJ
    rw [hJd] at hJ
    rcases hJ with ⟨rfl, hf, hk, rfl, rfl⟩ | ⟨rfl, hf, hk, c, i, r, hi, hr, rfl, rfl⟩
    · have tv := hS.tv hf.1
      have tw := hS2.tv hf.2
      have nv := tv.1.1.nv b5
      (obtain ⟨mh, mp0, mp2, mp3, mp4, mp5, mp6, mp7, mp8, mp9, mp10, mp11, mp12, mp13, mp14, mp15, mp16, mp17, mp18, mp19, mp20, mp21, mp22, mp24, mp25, mp26, mp27, mq0, mq2, mq3, mq4, mq5, mq6, mq7, mq8, mq9, mq10, mq11, mq12, mq13, mq14, mq15, mq16, mq17, mq18, mq19, mq20, mq21, mq22, mq24, mq25, mq26, mq27⟩ := (show LModel lay ρ _ from hL); unfold wps; simp only [Option.getD_some, List.zip_cons_cons, List.zip_nil_left, List.zip_nil_right, List.zip_nil_right, MB_fu, si_iload_n0, si_iload_n1, si_iload_n2, si_iload_n3, si_iload, si_lload_n0, si_lload_n1, si_lload_n2, si_lload_n3, si_lload, si_aload_n0, si_aload_n1, si_aload_n2, si_aload_n3, si_aload, si_istore_n0, si_istore_n1, si_istore_n2, si_istore_n3, si_istore, si_astore_n0, si_astore_n1, si_astore_n2, si_astore_n3, si_astore, si_lstore_n0, si_lstore_n1, si_lstore_n2, si_lstore_n3, si_lstore, si_iconst, si_bipush, si_sipush, si_ldc, si_ldc2_w, si_lconst0, si_lconst1, si_aconst_null, si_iinc, si_dup, si_dup2, si_iadd, si_isub, si_imul, si_idiv, si_irem, si_iand, si_ior, si_ishl, si_ishr, si_ladd, si_lmul, si_lor, si_lxor, si_lshl, si_lushr, si_lcmp, si_i2b, si_i2l, si_l2i, si_icmp_eq, si_icmp_ne, si_icmp_lt, si_icmp_ge, si_icmp_gt, si_icmp_le, si_if_eq, si_if_ne, si_if_lt, si_if_ge, si_if_gt, si_if_le, si_ifnull, si_ifnonnull, si_goto, si_tableswitch, si_lookupswitch, si_getfield, si_putfield, si_getstatic, si_iaload, si_baload, si_laload, si_aaload, si_iastore, si_bastore, si_lastore, si_aastore, si_arraylength, si_new, si_newarray, si_anewarray, si_invokevirtual, si_invokespecial, si_invokestatic, si_ireturn, si_lreturn, si_areturn, si_return_, pI_e, pL_e, pR_e, pA_r, pA_n, pN_n, pN_r, oI_e, oL_e, oA_r, oA_n, lget_e, lrm1_0, lrm2_0, lrm1_i, lrm1_r, lrm1_n, lrm1_l, lrm2_i, lrm2_r, lrm2_n, lrm2_l, popN_0, popN_s, acat_i, acat_l, acat_r, acat_n, stw_0, stw_s, psh_s, psh_n, wgf_r, wgf_i, wgf_b, wgf_n, wgf_m, wpf_i, wpf_r, wpf_b, wnew_e, callE_e, rbk_0, rbk_1, tsw_0, tsw_s, lsw_0, lsw_s, wp_s, wq_t, wq_f, oV_e, pick_0, pick_s, oZ_e, oY_e, r_Model_change_0, r_Model_change_1, r_Model_change_2, r_Model_change_3, r_Model_change_6, r_Model_change_8, r_Model_change_9, r_Model_change_10, r_Model_change_11, r_Model_change_14, r_Model_change_16, r_Model_change_18, r_Model_change_21, r_Model_change_23, r_Model_change_26, r_Model_change_28, r_Model_change_31, r_Model_change_32, r_Model_change_35, r_Model_change_37, r_Model_change_40, r_Model_change_41, r_Model_change_44, r_Model_change_45, r_Model_change_46, r_Model_change_47, r_Model_change_50, r_Model_change_53, r_Model_change_54, r_Model_change_55, r_Model_change_57, r_Model_change_58, r_Model_change_59, r_Model_change_61, r_Model_change_62, r_Model_change_65, r_Model_change_68, r_Model_change_69, r_Model_change_70, r_Model_change_72, r_Model_change_73, r_Model_change_74, r_Model_change_76, r_Model_change_77, r_Model_change_78, r_Model_change_80, r_Model_change_83, r_Model_change_84, r_Model_change_85, r_Model_change_87, r_Model_change_90, r_Model_change_93, r_Model_change_94, r_Model_change_95, r_Model_change_97, r_Model_change_100, r_Model_change_101, r_Model_change_104, r_Model_change_105, r_Model_change_106, r_Model_change_108, r_Model_change_109, r_Model_change_110, r_Model_change_113, r_Model_change_114, r_Model_change_115, r_Model_change_117, r_Model_change_118, r_Model_change_119, r_Model_change_122, r_Model_change_125, r_Model_change_126, r_Model_change_127, r_Model_change_128, r_Model_change_129, r_Model_change_131, r_Model_change_134, r_Model_change_136, r_Model_change_137, r_Model_change_138, r_Model_change_140, r_Model_change_143, r_Model_change_145, r_Model_change_148, r_Model_change_149, r_Model_change_152, r_Model_change_153, r_Model_change_155, r_Model_change_156, r_Model_change_158, r_Model_change_160, r_Model_change_162, r_Model_change_165, r_Model_change_167, r_Model_change_170, r_Model_change_171, r_Model_change_172, r_Model_change_174, r_Model_change_176, r_Model_change_179, r_Model_change_180, r_Model_change_181, r_Model_change_183, r_Model_change_185, r_Model_change_188, r_Model_change_189, r_Model_change_192, r_Model_change_193, r_Model_change_196, r_Model_change_197, r_Model_change_199, r_Model_change_202, r_Model_change_205, r_Model_change_207, r_Model_change_210, r_Model_change_211, r_Model_change_214, r_Model_change_215, xf_Model_change_47, xe_Model_change_524, xe_Model_change_536, xe_Model_change_548, xe_Model_change_608, xe_Model_change_380, xd_Model_change, xrb_Model_change, xin_Model_change, T_Model_valuesAt_e, TF_Model_valuesAt, T_Model_sort_e, TF_Model_sort, T_Model_valueAt_e, TF_Model_valueAt, T_Model_find_e, T_Model_at_e, TF_Model_at, MB_fu, mh, mp0, mp2, mp3, mp4, mp5, mp6, mp7, mp8, mp9, mp10, mp11, mp12, mp13, mp14, mp15, mp16, mp17, mp18, mp19, mp20, mp21, mp22, mp24, mp25, mp26, mp27, mq0, mq2, mq3, mq4, mq5, mq6, mq7, mq8, mq9, mq10, mq11, mq12, mq13, mq14, mq15, mq16, mq17, mq18, mq19, mq20, mq21, mq22, mq24, mq25, mq26, mq27, Nat.reduceAdd, Nat.reduceMul, Nat.reduceEqDiff, reduceIte, Int.reduceNeg, Int.reduceLE, Int.reduceLT, Int.reduceAdd, Int.reduceSub, Int.reduceToNat, true_and, and_true, inR_e, Nat.reduceLT, Nat.reduceLeDiff, reduceCtorEq, Nat.add_zero, Nat.zero_add, or_false, false_or, or_true, true_or, not_true_eq_false, not_false_eq_true, Classical.not_not, Nat.add_eq_zero_iff, and_false, false_and, Int.reduceEq, List.mem_cons, List.not_mem_nil, forall_eq_or_imp, forall_eq, false_implies, implies_true, forall_const, aargs_0, aargs_i, aargs_r, aargs_l, aargs_n, nfT_e, eq_self, and_self, Nat.le_refl, fu_s, fu_fu, iu_iu, iu_s, fu_am, fu_a0, fu_0a, iu_l, Nat.reduceBEq, Int.reduceBEq, T_objInit_e]; clear mp0 mp2 mp3 mp4 mp5 mp6 mp7 mp8 mp9 mp10 mp11 mp12 mp13 mp14 mp15 mp16 mp17 mp18 mp19 mp20 mp21 mp22 mp24 mp25 mp26 mp27)
      refine ⟨hL, U, len, st 1, hB, tv.1, hL, V, lem, su 1, nB, tw.1, fun d => ⟨fun a => ⟨?_, (by rw [hμ]; simp only [gI_e, List.getD_cons_succ, List.getD_cons_zero, Nat.reduceEqDiff, reduceIte]; omega)⟩, fun a => ⟨?_, (by rw [hμ]; simp only [gI_e, List.getD_cons_succ, List.getD_cons_zero, Nat.reduceEqDiff, reduceIte]; omega)⟩⟩⟩
      · rw [hJd]
        exact Or.inr ⟨rfl, hf, hk, d, 0, 0, by omega, Or.inr ⟨rfl, fun z => a z.1.symm⟩, rfl, rfl⟩
      · rw [hJd]
        exact Or.inr ⟨rfl, hf, hk, d, 0, 1, by omega, Or.inl ⟨rfl, a.symm, fun k hk => by omega⟩, rfl, rfl⟩
    · have tv := hS.tv hf.1
      have tw := hS2.tv hf.2
      have nv := tv.1.1.nv b5
      have rel : relP U st V su x = if bP (sameP U st V su (fn U st x) (fn V su x)) = true then 4 else 3 := by
        unfold relP
        rw [if_neg (by omega), if_neg (by omega), if_pos (bP_e.mpr hk)]
      have e3 : ¬ sameP U st V su (fn U st x) (fn V su x) → ∀ d, k (some (vI 3)) (sz, sl, lay, ρ, fu σ (o + 23) d, τ) := fun z d => by
        have := hT d
        rw [rel, if_neg (by rw [bP_e]; exact z)] at this
        exact this
      have e4 : sameP U st V su (fn U st x) (fn V su x) → ∀ d, k (some (vI 4)) (sz, sl, lay, ρ, fu σ (o + 23) d, τ) := fun z d => by
        have := hT d
        rw [rel, if_pos (bP_e.mpr z)] at this
        exact this
      (obtain ⟨mh, mp0, mp2, mp3, mp4, mp5, mp6, mp7, mp8, mp9, mp10, mp11, mp12, mp13, mp14, mp15, mp16, mp17, mp18, mp19, mp20, mp21, mp22, mp24, mp25, mp26, mp27, mq0, mq2, mq3, mq4, mq5, mq6, mq7, mq8, mq9, mq10, mq11, mq12, mq13, mq14, mq15, mq16, mq17, mq18, mq19, mq20, mq21, mq22, mq24, mq25, mq26, mq27⟩ := (show LModel lay ρ _ from hL); unfold wps; simp only [Option.getD_some, List.zip_cons_cons, List.zip_nil_left, List.zip_nil_right, List.zip_nil_right, MB_fu, si_iload_n0, si_iload_n1, si_iload_n2, si_iload_n3, si_iload, si_lload_n0, si_lload_n1, si_lload_n2, si_lload_n3, si_lload, si_aload_n0, si_aload_n1, si_aload_n2, si_aload_n3, si_aload, si_istore_n0, si_istore_n1, si_istore_n2, si_istore_n3, si_istore, si_astore_n0, si_astore_n1, si_astore_n2, si_astore_n3, si_astore, si_lstore_n0, si_lstore_n1, si_lstore_n2, si_lstore_n3, si_lstore, si_iconst, si_bipush, si_sipush, si_ldc, si_ldc2_w, si_lconst0, si_lconst1, si_aconst_null, si_iinc, si_dup, si_dup2, si_iadd, si_isub, si_imul, si_idiv, si_irem, si_iand, si_ior, si_ishl, si_ishr, si_ladd, si_lmul, si_lor, si_lxor, si_lshl, si_lushr, si_lcmp, si_i2b, si_i2l, si_l2i, si_icmp_eq, si_icmp_ne, si_icmp_lt, si_icmp_ge, si_icmp_gt, si_icmp_le, si_if_eq, si_if_ne, si_if_lt, si_if_ge, si_if_gt, si_if_le, si_ifnull, si_ifnonnull, si_goto, si_tableswitch, si_lookupswitch, si_getfield, si_putfield, si_getstatic, si_iaload, si_baload, si_laload, si_aaload, si_iastore, si_bastore, si_lastore, si_aastore, si_arraylength, si_new, si_newarray, si_anewarray, si_invokevirtual, si_invokespecial, si_invokestatic, si_ireturn, si_lreturn, si_areturn, si_return_, pI_e, pL_e, pR_e, pA_r, pA_n, pN_n, pN_r, oI_e, oL_e, oA_r, oA_n, lget_e, lrm1_0, lrm2_0, lrm1_i, lrm1_r, lrm1_n, lrm1_l, lrm2_i, lrm2_r, lrm2_n, lrm2_l, popN_0, popN_s, acat_i, acat_l, acat_r, acat_n, stw_0, stw_s, psh_s, psh_n, wgf_r, wgf_i, wgf_b, wgf_n, wgf_m, wpf_i, wpf_r, wpf_b, wnew_e, callE_e, rbk_0, rbk_1, tsw_0, tsw_s, lsw_0, lsw_s, wp_s, wq_t, wq_f, oV_e, pick_0, pick_s, oZ_e, oY_e, r_Model_change_0, r_Model_change_1, r_Model_change_2, r_Model_change_3, r_Model_change_6, r_Model_change_8, r_Model_change_9, r_Model_change_10, r_Model_change_11, r_Model_change_14, r_Model_change_16, r_Model_change_18, r_Model_change_21, r_Model_change_23, r_Model_change_26, r_Model_change_28, r_Model_change_31, r_Model_change_32, r_Model_change_35, r_Model_change_37, r_Model_change_40, r_Model_change_41, r_Model_change_44, r_Model_change_45, r_Model_change_46, r_Model_change_47, r_Model_change_50, r_Model_change_53, r_Model_change_54, r_Model_change_55, r_Model_change_57, r_Model_change_58, r_Model_change_59, r_Model_change_61, r_Model_change_62, r_Model_change_65, r_Model_change_68, r_Model_change_69, r_Model_change_70, r_Model_change_72, r_Model_change_73, r_Model_change_74, r_Model_change_76, r_Model_change_77, r_Model_change_78, r_Model_change_80, r_Model_change_83, r_Model_change_84, r_Model_change_85, r_Model_change_87, r_Model_change_90, r_Model_change_93, r_Model_change_94, r_Model_change_95, r_Model_change_97, r_Model_change_100, r_Model_change_101, r_Model_change_104, r_Model_change_105, r_Model_change_106, r_Model_change_108, r_Model_change_109, r_Model_change_110, r_Model_change_113, r_Model_change_114, r_Model_change_115, r_Model_change_117, r_Model_change_118, r_Model_change_119, r_Model_change_122, r_Model_change_125, r_Model_change_126, r_Model_change_127, r_Model_change_128, r_Model_change_129, r_Model_change_131, r_Model_change_134, r_Model_change_136, r_Model_change_137, r_Model_change_138, r_Model_change_140, r_Model_change_143, r_Model_change_145, r_Model_change_148, r_Model_change_149, r_Model_change_152, r_Model_change_153, r_Model_change_155, r_Model_change_156, r_Model_change_158, r_Model_change_160, r_Model_change_162, r_Model_change_165, r_Model_change_167, r_Model_change_170, r_Model_change_171, r_Model_change_172, r_Model_change_174, r_Model_change_176, r_Model_change_179, r_Model_change_180, r_Model_change_181, r_Model_change_183, r_Model_change_185, r_Model_change_188, r_Model_change_189, r_Model_change_192, r_Model_change_193, r_Model_change_196, r_Model_change_197, r_Model_change_199, r_Model_change_202, r_Model_change_205, r_Model_change_207, r_Model_change_210, r_Model_change_211, r_Model_change_214, r_Model_change_215, xf_Model_change_47, xe_Model_change_524, xe_Model_change_536, xe_Model_change_548, xe_Model_change_608, xe_Model_change_380, xd_Model_change, xrb_Model_change, xin_Model_change, T_Model_valuesAt_e, TF_Model_valuesAt, T_Model_sort_e, TF_Model_sort, T_Model_valueAt_e, TF_Model_valueAt, T_Model_find_e, T_Model_at_e, TF_Model_at, MB_fu, mh, mp0, mp2, mp3, mp4, mp5, mp6, mp7, mp8, mp9, mp10, mp11, mp12, mp13, mp14, mp15, mp16, mp17, mp18, mp19, mp20, mp21, mp22, mp24, mp25, mp26, mp27, mq0, mq2, mq3, mq4, mq5, mq6, mq7, mq8, mq9, mq10, mq11, mq12, mq13, mq14, mq15, mq16, mq17, mq18, mq19, mq20, mq21, mq22, mq24, mq25, mq26, mq27, Nat.reduceAdd, Nat.reduceMul, Nat.reduceEqDiff, reduceIte, Int.reduceNeg, Int.reduceLE, Int.reduceLT, Int.reduceAdd, Int.reduceSub, Int.reduceToNat, true_and, and_true, inR_e, Nat.reduceLT, Nat.reduceLeDiff, reduceCtorEq, Nat.add_zero, Nat.zero_add, or_false, false_or, or_true, true_or, not_true_eq_false, not_false_eq_true, Classical.not_not, Nat.add_eq_zero_iff, and_false, false_and, Int.reduceEq, List.mem_cons, List.not_mem_nil, forall_eq_or_imp, forall_eq, false_implies, implies_true, forall_const, aargs_0, aargs_i, aargs_r, aargs_l, aargs_n, nfT_e, eq_self, and_self, Nat.le_refl, fu_s, fu_fu, iu_iu, iu_s, fu_am, fu_a0, fu_0a, iu_l, Nat.reduceBEq, Int.reduceBEq, T_objInit_e]; clear mp0 mp2 mp3 mp4 mp5 mp6 mp7 mp8 mp9 mp10 mp11 mp12 mp13 mp14 mp15 mp16 mp17 mp18 mp19 mp20 mp21 mp22 mp24 mp25 mp26 mp27)
      refine ⟨fun h => ⟨fun h2 => ?_, fun h2 => ?_⟩, fun h => ⟨fun h2 => ?_, fun h2 => ?_⟩⟩
      · rcases hr with q | q
        · omega
        · exact e3 q.2 c
      · rcases hr with q | q
        · exact e4 ⟨q.2.1, fun k hk => q.2.2 k (by omega)⟩ c
        · exact absurd q.1 h2
      · rcases hr with q | q
        · omega
        · exact ⟨fun _ => e3 q.2 c, fun z => absurd q.1 z⟩
      · rcases hr with q | q
        · refine ⟨hL, U, len, st 1, hB, tv, by omega, hL, V, lem, su 1, nB, tw, by omega, fun d => ?_⟩
          rw [cmpL_eq]
          refine ⟨fun a => ⟨by omega, ?_, (by rw [hμ]; simp only [gI_e, List.getD_cons_succ, List.getD_cons_zero, Nat.reduceEqDiff, reduceIte]; omega)⟩, fun a => ⟨by omega, ?_, (by rw [hμ]; simp only [gI_e, List.getD_cons_succ, List.getD_cons_zero, Nat.reduceEqDiff, reduceIte]; omega)⟩⟩
          · rw [hJd]
            exact Or.inr ⟨rfl, hf, hk, d, i + 1, 0, by omega, Or.inr ⟨rfl, fun z => a (z.2 i (by omega))⟩, rfl, rfl⟩
          · rw [hJd]
            refine Or.inr ⟨rfl, hf, hk, d, i + 1, 1, by omega, Or.inl ⟨rfl, q.2.1, fun k hk => ?_⟩, rfl, rfl⟩
            by_cases e : k = i
            · rw [e]; exact a
            · exact q.2.2 k (by omega)
        · exact absurd q.1 h2

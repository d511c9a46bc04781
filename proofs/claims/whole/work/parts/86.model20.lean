def TF_Model_hole (o : Nat) (p : Int) (i : Int) (w : Int) (sz sl : Nat) (lay : Nat → Nat × Int) (ρ : Nat → Int → Nat) (σ : Nat → Int → Int) (τ : Nat → Int → Int64) (k : Option AV → Mm → Prop) : Prop := LModel lay ρ o ∧ ∃ (U : Int → Int) (len : Int) (st : Nat → Int → Int), MdP σ o p U len st ∧ (0 ≤ p ∧ p < 3 → (0 ≤ i ∧ i < st 0 4 ∧ w = 0 → k (some (vI (st 4 i))) (sz, sl, lay, ρ, σ, τ)) ∧ (0 ≤ i ∧ i < st 0 4 ∧ w = 1 → k (some (vI (st 5 i))) (sz, sl, lay, ρ, σ, τ)) ∧ (¬ (0 ≤ i ∧ i < st 0 4 ∧ 0 ≤ w ∧ w ≤ 1) → k (some (vI (-1))) (sz, sl, lay, ρ, σ, τ))) ∧ (¬ (0 ≤ p ∧ p < 3) → k (some (vI (-1))) (sz, sl, lay, ρ, σ, τ))
def T_Model_hole : Tr := mkT 11 fun o as M k => pI as fun p as => pI as fun i as => pI as fun w as => as = [] ∧ TF_Model_hole o p i w M.1 M.2.1 M.2.2.1 M.2.2.2.1 M.2.2.2.2.1 M.2.2.2.2.2 k
theorem T_Model_hole_e {o : Nat} {p : Int} {i : Int} {w : Int} {sz sl : Nat} {lay : Nat → Nat × Int} {ρ : Nat → Int → Nat} {σ : Nat → Int → Int} {τ : Nat → Int → Int64} {k : Option AV → Mm → Prop} : T_Model_hole [vR o, vI p, vI i, vI w] (sz, sl, lay, ρ, σ, τ) k = (lay o = (21, 0) ∧ TF_Model_hole o p i w sz sl lay ρ σ τ k) := by simp [T_Model_hole, mkT_e, pI_e, pR_e, pL_e]
theorem T_Model_hole_r (as : List AV) (M : Mm) (k : Option AV → Mm → Prop) (h : T_Model_hole as M k) : ∃ b As, as = vR b :: As ∧ M.2.2.1 b = (10 + 11, 0) := by
  obtain ⟨b, As, h1, h2, -⟩ := mkT_r h
  exact ⟨b, As, h1, h2⟩
def tb_Model_hole : List (Nat × Option (List Nat) × Instr × List Nat) := [(0, none, .iload_n 1, []), (1, none, .invokestatic 161, []), (4, none, .ifCond .eq 26, [30]), (7, none, .iload_n 2, []), (8, none, .ifCond .lt 22, [30]), (11, none, .iload_n 2, []), (12, none, .aload_n 0, []), (13, none, .getfield 29, []), (16, none, .iload_n 1, []), (17, none, .iaload, []), (18, none, .if_icmp .ge 12, [30]), (21, none, .iload_n 3, []), (22, none, .ifCond .lt 8, [30]), (25, none, .iload_n 3, []), (26, none, .iconst 1, []), (27, none, .if_icmp .le 5, [32]), (30, none, .iconst (-1), []), (31, none, .ireturn, []), (32, none, .iload_n 3, []), (33, none, .ifCond .ne 18, [51]), (36, none, .aload_n 0, []), (37, none, .getfield 35, []), (40, none, .sipush 8000, []), (43, none, .iload_n 1, []), (44, none, .imul, []), (45, none, .iload_n 2, []), (46, none, .iadd, []), (47, none, .iaload, []), (48, none, .goto 15, [63]), (51, none, .aload_n 0, []), (52, none, .getfield 38, []), (55, none, .sipush 8000, []), (58, none, .iload_n 1, []), (59, none, .imul, []), (60, none, .iload_n 2, []), (61, none, .iadd, []), (62, none, .iaload, []), (63, none, .ireturn, [])]
def P_Model_hole : Nat → Option (List Nat) × Instr × List Nat := plk tb_Model_hole
theorem r_Model_hole_0 : P_Model_hole 0 = (none, .iload_n 1, []) := by decide +kernel
theorem r_Model_hole_1 : P_Model_hole 1 = (none, .invokestatic 161, []) := by decide +kernel
theorem r_Model_hole_4 : P_Model_hole 4 = (none, .ifCond .eq 26, [30]) := by decide +kernel
theorem r_Model_hole_7 : P_Model_hole 7 = (none, .iload_n 2, []) := by decide +kernel
theorem r_Model_hole_8 : P_Model_hole 8 = (none, .ifCond .lt 22, [30]) := by decide +kernel
theorem r_Model_hole_11 : P_Model_hole 11 = (none, .iload_n 2, []) := by decide +kernel
theorem r_Model_hole_12 : P_Model_hole 12 = (none, .aload_n 0, []) := by decide +kernel
theorem r_Model_hole_13 : P_Model_hole 13 = (none, .getfield 29, []) := by decide +kernel
theorem r_Model_hole_16 : P_Model_hole 16 = (none, .iload_n 1, []) := by decide +kernel
theorem r_Model_hole_17 : P_Model_hole 17 = (none, .iaload, []) := by decide +kernel
theorem r_Model_hole_18 : P_Model_hole 18 = (none, .if_icmp .ge 12, [30]) := by decide +kernel
theorem r_Model_hole_21 : P_Model_hole 21 = (none, .iload_n 3, []) := by decide +kernel
theorem r_Model_hole_22 : P_Model_hole 22 = (none, .ifCond .lt 8, [30]) := by decide +kernel
theorem r_Model_hole_25 : P_Model_hole 25 = (none, .iload_n 3, []) := by decide +kernel
theorem r_Model_hole_26 : P_Model_hole 26 = (none, .iconst 1, []) := by decide +kernel
theorem r_Model_hole_27 : P_Model_hole 27 = (none, .if_icmp .le 5, [32]) := by decide +kernel
theorem r_Model_hole_30 : P_Model_hole 30 = (none, .iconst (-1), []) := by decide +kernel
theorem r_Model_hole_31 : P_Model_hole 31 = (none, .ireturn, []) := by decide +kernel
theorem r_Model_hole_32 : P_Model_hole 32 = (none, .iload_n 3, []) := by decide +kernel
theorem r_Model_hole_33 : P_Model_hole 33 = (none, .ifCond .ne 18, [51]) := by decide +kernel
theorem r_Model_hole_36 : P_Model_hole 36 = (none, .aload_n 0, []) := by decide +kernel
theorem r_Model_hole_37 : P_Model_hole 37 = (none, .getfield 35, []) := by decide +kernel
theorem r_Model_hole_40 : P_Model_hole 40 = (none, .sipush 8000, []) := by decide +kernel
theorem r_Model_hole_43 : P_Model_hole 43 = (none, .iload_n 1, []) := by decide +kernel
theorem r_Model_hole_44 : P_Model_hole 44 = (none, .imul, []) := by decide +kernel
theorem r_Model_hole_45 : P_Model_hole 45 = (none, .iload_n 2, []) := by decide +kernel
theorem r_Model_hole_46 : P_Model_hole 46 = (none, .iadd, []) := by decide +kernel
theorem r_Model_hole_47 : P_Model_hole 47 = (none, .iaload, []) := by decide +kernel
theorem r_Model_hole_48 : P_Model_hole 48 = (none, .goto 15, [63]) := by decide +kernel
theorem r_Model_hole_51 : P_Model_hole 51 = (none, .aload_n 0, []) := by decide +kernel
theorem r_Model_hole_52 : P_Model_hole 52 = (none, .getfield 38, []) := by decide +kernel
theorem r_Model_hole_55 : P_Model_hole 55 = (none, .sipush 8000, []) := by decide +kernel
theorem r_Model_hole_58 : P_Model_hole 58 = (none, .iload_n 1, []) := by decide +kernel
theorem r_Model_hole_59 : P_Model_hole 59 = (none, .imul, []) := by decide +kernel
theorem r_Model_hole_60 : P_Model_hole 60 = (none, .iload_n 2, []) := by decide +kernel
theorem r_Model_hole_61 : P_Model_hole 61 = (none, .iadd, []) := by decide +kernel
theorem r_Model_hole_62 : P_Model_hole 62 = (none, .iaload, []) := by decide +kernel
theorem r_Model_hole_63 : P_Model_hole 63 = (none, .ireturn, []) := by decide +kernel
def E_Model_hole : List (Nat × Ent) := [(646, (1, 0, 0, 0, T_Model_isPicture))]
def X_Model_hole : Cx := (llk (0, 0, 9) ftX11, llk 99 ntX11, llk none kcX11, llk none klX11, llk dEnt E_Model_hole, 1, 0, false)
theorem xok_Model_hole : Xok RX11 X_Model_hole := xok_of ftX11_ok ntX11_ok kcX11_ok klX11_ok (E := E_Model_hole) (List.forall_mem_cons.mpr ⟨co_X11_646, fun _ h => absurd h List.not_mem_nil⟩)
theorem xf_Model_hole_29 : xfl X_Model_hole 29 = (11, 7, 1) := by decide +kernel
theorem xf_Model_hole_35 : xfl X_Model_hole 35 = (11, 9, 1) := by decide +kernel
theorem xf_Model_hole_38 : xfl X_Model_hole 38 = (11, 10, 1) := by decide +kernel
theorem xe_Model_hole_646 : xE X_Model_hole (4 * 161 + 2) = (1, 0, 0, 0, T_Model_isPicture) := rfl
theorem xd_Model_hole : xd X_Model_hole = 1 := rfl
theorem xrb_Model_hole : xrb X_Model_hole = 0 := rfl
theorem xin_Model_hole : xin X_Model_hole = false := rfl
set_option maxHeartbeats 4000000 in
set_option maxRecDepth 100000 in
theorem S_Model_hole : Snd yX11_hole cX11_hole 4 (some .int) T_Model_hole 1 0 0 := by
  refine snd_of (X := X_Model_hole) (P := P_Model_hole) (tb := tb_Model_hole) (own := RX11) (by decide) rfl rfl (by decide +kernel) xok_Model_hole rfl rk0 (fun h => by first | rfl | cases h) ?_
  intro as M k has hM hT0
  obtain ⟨sz, sl, lay, ρ, σ, τ⟩ := M
  obtain ⟨o, as1, e, hlo, hT1⟩ := mkT_r hT0
  clear hT0
  subst e
  obtain ⟨p, as2, e, hT2⟩ := pI_x hT1
  clear hT1
  subst e
  obtain ⟨i, as3, e, hT3⟩ := pI_x hT2
  clear hT2
  subst e
  obtain ⟨w, as4, e, hT4⟩ := pI_x hT3
  clear hT3
  subst e
  obtain ⟨e, hT⟩ := hT4
  subst e
  replace hlo : lay o = (21, 0) := hlo
  have r_p : -2147483648 ≤ p ∧ p ≤ 2147483647 := has (vI p) (by simp)
  have r_i : -2147483648 ≤ i ∧ i ≤ 2147483647 := has (vI i) (by simp)
  have r_w : -2147483648 ≤ w ∧ w ≤ 2147483647 := has (vI w) (by simp)
  clear has
  replace hM : ∀ a i, -2147483648 ≤ σ a i ∧ σ a i ≤ 2147483647 := hM
  replace hT : TF_Model_hole o p i w sz sl lay ρ σ τ k := hT
  unfold TF_Model_hole at hT
  obtain ⟨hL, U, len, st, hMP, h1, h0⟩ := hT
  refine ⟨Nat.le_of_ble_eq_true rfl, fun _ _ _ => False, fun _ _ _ => 0, 46, ?_, fun _ _ _ _ _ _ h => h.elim⟩
  by_cases hp : 0 ≤ p ∧ p < 3
  · have hpE : (0 ≤ p ∧ p < 3) = True := eq_true hp
    replace h1 := h1 hp
    obtain ⟨hS, hR⟩ := hMP hp
    obtain ⟨hB, hl3, ⟨m4, m5, m6⟩, ⟨m7, m8, m9⟩, m12, ⟨m14, m13⟩, m15, ⟨m17, m16⟩, m26⟩ := (show MR σ o p U len st from hR)
    obtain ⟨b1, b2, b3, b4, b5, b6, b7⟩ := (show MB σ o p U len (st 1) from hB)
    obtain ⟨w0, w1, w2, w3, w4, w5, w6, w7, w8, w9, w10, w11, w12, w13, w14⟩ := (show SW U len st from hS)
    (obtain ⟨mh, mp0, mp2, mp3, mp4, mp5, mp6, mp7, mp8, mp9, mp10, mp11, mp12, mp13, mp14, mp15, mp16, mp17, mp18, mp19, mp20, mp21, mp22, mp24, mp25, mp26, mp27, mq0, mq2, mq3, mq4, mq5, mq6, mq7, mq8, mq9, mq10, mq11, mq12, mq13, mq14, mq15, mq16, mq17, mq18, mq19, mq20, mq21, mq22, mq24, mq25, mq26, mq27⟩ := (show LModel lay ρ _ from hL); unfold wps; simp only [hpE, find_e hL hS hR, m7, si_iload_n0, si_iload_n1, si_iload_n2, si_iload_n3, si_iload, si_lload_n0, si_lload_n1, si_lload_n2, si_lload_n3, si_lload, si_aload_n0, si_aload_n1, si_aload_n2, si_aload_n3, si_aload, si_istore_n0, si_istore_n1, si_istore_n2, si_istore_n3, si_istore, si_astore_n0, si_astore_n1, si_astore_n2, si_astore_n3, si_astore, si_lstore_n0, si_lstore_n1, si_lstore_n2, si_lstore_n3, si_lstore, si_iconst, si_bipush, si_sipush, si_ldc, si_ldc2_w, si_lconst0, si_lconst1, si_aconst_null, si_iinc, si_dup, si_dup2, si_iadd, si_isub, si_imul, si_idiv, si_irem, si_iand, si_ior, si_ishl, si_ishr, si_ladd, si_lmul, si_lor, si_lxor, si_lshl, si_lushr, si_lcmp, si_i2b, si_i2l, si_l2i, si_icmp_eq, si_icmp_ne, si_icmp_lt, si_icmp_ge, si_icmp_gt, si_icmp_le, si_if_eq, si_if_ne, si_if_lt, si_if_ge, si_if_gt, si_if_le, si_ifnull, si_ifnonnull, si_goto, si_tableswitch, si_lookupswitch, si_getfield, si_putfield, si_getstatic, si_iaload, si_baload, si_laload, si_aaload, si_iastore, si_bastore, si_lastore, si_aastore, si_arraylength, si_new, si_newarray, si_anewarray, si_invokevirtual, si_invokespecial, si_invokestatic, si_ireturn, si_lreturn, si_areturn, si_return_, pI_e, pL_e, pR_e, pA_r, pA_n, pN_n, pN_r, oI_e, oL_e, oA_r, oA_n, lget_e, lrm1_0, lrm2_0, lrm1_i, lrm1_r, lrm1_n, lrm1_l, lrm2_i, lrm2_r, lrm2_n, lrm2_l, popN_0, popN_s, acat_i, acat_l, acat_r, acat_n, stw_0, stw_s, psh_s, psh_n, wgf_r, wgf_i, wgf_b, wgf_n, wgf_m, wpf_i, wpf_r, wpf_b, wnew_e, callE_e, rbk_0, rbk_1, tsw_0, tsw_s, lsw_0, lsw_s, wp_s, wq_t, wq_f, oV_e, pick_0, pick_s, oZ_e, oY_e, r_Model_hole_0, r_Model_hole_1, r_Model_hole_4, r_Model_hole_7, r_Model_hole_8, r_Model_hole_11, r_Model_hole_12, r_Model_hole_13, r_Model_hole_16, r_Model_hole_17, r_Model_hole_18, r_Model_hole_21, r_Model_hole_22, r_Model_hole_25, r_Model_hole_26, r_Model_hole_27, r_Model_hole_30, r_Model_hole_31, r_Model_hole_32, r_Model_hole_33, r_Model_hole_36, r_Model_hole_37, r_Model_hole_40, r_Model_hole_43, r_Model_hole_44, r_Model_hole_45, r_Model_hole_46, r_Model_hole_47, r_Model_hole_48, r_Model_hole_51, r_Model_hole_52, r_Model_hole_55, r_Model_hole_58, r_Model_hole_59, r_Model_hole_60, r_Model_hole_61, r_Model_hole_62, r_Model_hole_63, xf_Model_hole_29, xf_Model_hole_35, xf_Model_hole_38, xe_Model_hole_646, xd_Model_hole, xrb_Model_hole, xin_Model_hole, T_Model_isPicture_e, TF_Model_isPicture, mh, mp0, mp2, mp3, mp4, mp5, mp6, mp7, mp8, mp9, mp10, mp11, mp12, mp13, mp14, mp15, mp16, mp17, mp18, mp19, mp20, mp21, mp22, mp24, mp25, mp26, mp27, mq0, mq2, mq3, mq4, mq5, mq6, mq7, mq8, mq9, mq10, mq11, mq12, mq13, mq14, mq15, mq16, mq17, mq18, mq19, mq20, mq21, mq22, mq24, mq25, mq26, mq27, Nat.reduceAdd, Nat.reduceMul, Nat.reduceEqDiff, reduceIte, Int.reduceNeg, Int.reduceLE, Int.reduceLT, Int.reduceAdd, Int.reduceSub, Int.reduceToNat, true_and, and_true, inR_e, Nat.reduceLT, Nat.reduceLeDiff, reduceCtorEq, Nat.add_zero, Nat.zero_add, or_false, false_or, or_true, true_or, not_true_eq_false, not_false_eq_true, Classical.not_not, Nat.add_eq_zero_iff, and_false, false_and, Int.reduceEq, List.mem_cons, List.not_mem_nil, forall_eq_or_imp, forall_eq, false_implies, implies_true, forall_const, aargs_0, aargs_i, aargs_r, aargs_l, aargs_n, nfT_e, eq_self, and_self, Nat.le_refl, fu_s, fu_fu, iu_iu, iu_s, fu_am, fu_a0, fu_0a, iu_l, Nat.reduceBEq, Int.reduceBEq, T_objInit_e]; clear mp0 mp2 mp3 mp4 mp5 mp6 mp7 mp8 mp9 mp10 mp11 mp12 mp13 mp14 mp15 mp16 mp17 mp18 mp19 mp20 mp21 mp22 mp24 mp25 mp26 mp27)
    obtain ⟨z0, z1, z2⟩ := h1
    refine ⟨fun a => z2 (by omega), fun a => ⟨by omega, by omega, fun b => z2 (by omega), fun b => ⟨fun c => z2 (by omega), fun c => ⟨fun d => ?_, fun d => z2 (by omega)⟩⟩⟩⟩
    have q := m9 i (by omega)
    rw [q.1, q.2]
    have h8 := w6.2
    exact ⟨fun e => ⟨by omega, by omega, by omega, by omega, z1 (by omega)⟩, fun e => ⟨by omega, by omega, by omega, by omega, z0 (by omega)⟩⟩
  · have hpE : (0 ≤ p ∧ p < 3) = False := eq_false hp
    (obtain ⟨mh, mp0, mp2, mp3, mp4, mp5, mp6, mp7, mp8, mp9, mp10, mp11, mp12, mp13, mp14, mp15, mp16, mp17, mp18, mp19, mp20, mp21, mp22, mp24, mp25, mp26, mp27, mq0, mq2, mq3, mq4, mq5, mq6, mq7, mq8, mq9, mq10, mq11, mq12, mq13, mq14, mq15, mq16, mq17, mq18, mq19, mq20, mq21, mq22, mq24, mq25, mq26, mq27⟩ := (show LModel lay ρ _ from hL); unfold wps; simp only [hpE, si_iload_n0, si_iload_n1, si_iload_n2, si_iload_n3, si_iload, si_lload_n0, si_lload_n1, si_lload_n2, si_lload_n3, si_lload, si_aload_n0, si_aload_n1, si_aload_n2, si_aload_n3, si_aload, si_istore_n0, si_istore_n1, si_istore_n2, si_istore_n3, si_istore, si_astore_n0, si_astore_n1, si_astore_n2, si_astore_n3, si_astore, si_lstore_n0, si_lstore_n1, si_lstore_n2, si_lstore_n3, si_lstore, si_iconst, si_bipush, si_sipush, si_ldc, si_ldc2_w, si_lconst0, si_lconst1, si_aconst_null, si_iinc, si_dup, si_dup2, si_iadd, si_isub, si_imul, si_idiv, si_irem, si_iand, si_ior, si_ishl, si_ishr, si_ladd, si_lmul, si_lor, si_lxor, si_lshl, si_lushr, si_lcmp, si_i2b, si_i2l, si_l2i, si_icmp_eq, si_icmp_ne, si_icmp_lt, si_icmp_ge, si_icmp_gt, si_icmp_le, si_if_eq, si_if_ne, si_if_lt, si_if_ge, si_if_gt, si_if_le, si_ifnull, si_ifnonnull, si_goto, si_tableswitch, si_lookupswitch, si_getfield, si_putfield, si_getstatic, si_iaload, si_baload, si_laload, si_aaload, si_iastore, si_bastore, si_lastore, si_aastore, si_arraylength, si_new, si_newarray, si_anewarray, si_invokevirtual, si_invokespecial, si_invokestatic, si_ireturn, si_lreturn, si_areturn, si_return_, pI_e, pL_e, pR_e, pA_r, pA_n, pN_n, pN_r, oI_e, oL_e, oA_r, oA_n, lget_e, lrm1_0, lrm2_0, lrm1_i, lrm1_r, lrm1_n, lrm1_l, lrm2_i, lrm2_r, lrm2_n, lrm2_l, popN_0, popN_s, acat_i, acat_l, acat_r, acat_n, stw_0, stw_s, psh_s, psh_n, wgf_r, wgf_i, wgf_b, wgf_n, wgf_m, wpf_i, wpf_r, wpf_b, wnew_e, callE_e, rbk_0, rbk_1, tsw_0, tsw_s, lsw_0, lsw_s, wp_s, wq_t, wq_f, oV_e, pick_0, pick_s, oZ_e, oY_e, r_Model_hole_0, r_Model_hole_1, r_Model_hole_4, r_Model_hole_7, r_Model_hole_8, r_Model_hole_11, r_Model_hole_12, r_Model_hole_13, r_Model_hole_16, r_Model_hole_17, r_Model_hole_18, r_Model_hole_21, r_Model_hole_22, r_Model_hole_25, r_Model_hole_26, r_Model_hole_27, r_Model_hole_30, r_Model_hole_31, r_Model_hole_32, r_Model_hole_33, r_Model_hole_36, r_Model_hole_37, r_Model_hole_40, r_Model_hole_43, r_Model_hole_44, r_Model_hole_45, r_Model_hole_46, r_Model_hole_47, r_Model_hole_48, r_Model_hole_51, r_Model_hole_52, r_Model_hole_55, r_Model_hole_58, r_Model_hole_59, r_Model_hole_60, r_Model_hole_61, r_Model_hole_62, r_Model_hole_63, xf_Model_hole_29, xf_Model_hole_35, xf_Model_hole_38, xe_Model_hole_646, xd_Model_hole, xrb_Model_hole, xin_Model_hole, T_Model_isPicture_e, TF_Model_isPicture, mh, mp0, mp2, mp3, mp4, mp5, mp6, mp7, mp8, mp9, mp10, mp11, mp12, mp13, mp14, mp15, mp16, mp17, mp18, mp19, mp20, mp21, mp22, mp24, mp25, mp26, mp27, mq0, mq2, mq3, mq4, mq5, mq6, mq7, mq8, mq9, mq10, mq11, mq12, mq13, mq14, mq15, mq16, mq17, mq18, mq19, mq20, mq21, mq22, mq24, mq25, mq26, mq27, Nat.reduceAdd, Nat.reduceMul, Nat.reduceEqDiff, reduceIte, Int.reduceNeg, Int.reduceLE, Int.reduceLT, Int.reduceAdd, Int.reduceSub, Int.reduceToNat, true_and, and_true, inR_e, Nat.reduceLT, Nat.reduceLeDiff, reduceCtorEq, Nat.add_zero, Nat.zero_add, or_false, false_or, or_true, true_or, not_true_eq_false, not_false_eq_true, Classical.not_not, Nat.add_eq_zero_iff, and_false, false_and, Int.reduceEq, List.mem_cons, List.not_mem_nil, forall_eq_or_imp, forall_eq, false_implies, implies_true, forall_const, aargs_0, aargs_i, aargs_r, aargs_l, aargs_n, nfT_e, eq_self, and_self, Nat.le_refl, fu_s, fu_fu, iu_iu, iu_s, fu_am, fu_a0, fu_0a, iu_l, Nat.reduceBEq, Int.reduceBEq, T_objInit_e]; clear mp0 mp2 mp3 mp4 mp5 mp6 mp7 mp8 mp9 mp10 mp11 mp12 mp13 mp14 mp15 mp16 mp17 mp18 mp19 mp20 mp21 mp22 mp24 mp25 mp26 mp27)
    exact h0 hp
def TF_Model_thing (o : Nat) (p : Int) (i : Int) (sz sl : Nat) (lay : Nat → Nat × Int) (ρ : Nat → Int → Nat) (σ : Nat → Int → Int) (τ : Nat → Int → Int64) (k : Option AV → Mm → Prop) : Prop := LModel lay ρ o ∧ ∃ (U : Int → Int) (len : Int) (st : Nat → Int → Int), MdP σ o p U len st ∧ (0 ≤ p ∧ p < 3 → (0 ≤ i ∧ i < st 0 7 → k (some (vI (numA U (st 2) i))) (sz, sl, lay, ρ, σ, τ)) ∧ (¬ (0 ≤ i ∧ i < st 0 7) → k (some (vI (-1))) (sz, sl, lay, ρ, σ, τ))) ∧ (¬ (0 ≤ p ∧ p < 3) → k (some (vI (-1))) (sz, sl, lay, ρ, σ, τ))
def T_Model_thing : Tr := mkT 11 fun o as M k => pI as fun p as => pI as fun i as => as = [] ∧ TF_Model_thing o p i M.1 M.2.1 M.2.2.1 M.2.2.2.1 M.2.2.2.2.1 M.2.2.2.2.2 k
theorem T_Model_thing_e {o : Nat} {p : Int} {i : Int} {sz sl : Nat} {lay : Nat → Nat × Int} {ρ : Nat → Int → Nat} {σ : Nat → Int → Int} {τ : Nat → Int → Int64} {k : Option AV → Mm → Prop} : T_Model_thing [vR o, vI p, vI i] (sz, sl, lay, ρ, σ, τ) k = (lay o = (21, 0) ∧ TF_Model_thing o p i sz sl lay ρ σ τ k) := by simp [T_Model_thing, mkT_e, pI_e, pR_e, pL_e]
theorem T_Model_thing_r (as : List AV) (M : Mm) (k : Option AV → Mm → Prop) (h : T_Model_thing as M k) : ∃ b As, as = vR b :: As ∧ M.2.2.1 b = (10 + 11, 0) := by
  obtain ⟨b, As, h1, h2, -⟩ := mkT_r h
  exact ⟨b, As, h1, h2⟩
def tb_Model_thing : List (Nat × Option (List Nat) × Instr × List Nat) := [(0, none, .iload_n 1, []), (1, none, .invokestatic 161, []), (4, none, .ifCond .eq 26, [30]), (7, none, .iload_n 2, []), (8, none, .ifCond .lt 22, [30]), (11, none, .iload_n 2, []), (12, none, .aload_n 0, []), (13, none, .getfield 50, []), (16, none, .iload_n 1, []), (17, none, .iaload, []), (18, none, .if_icmp .ge 12, [30]), (21, none, .aload_n 0, []), (22, none, .iload_n 1, []), (23, none, .iload_n 2, []), (24, none, .invokevirtual 165, []), (27, none, .goto 4, [31]), (30, none, .iconst (-1), []), (31, none, .ireturn, [])]
def P_Model_thing : Nat → Option (List Nat) × Instr × List Nat := plk tb_Model_thing
theorem r_Model_thing_0 : P_Model_thing 0 = (none, .iload_n 1, []) := by decide +kernel
theorem r_Model_thing_1 : P_Model_thing 1 = (none, .invokestatic 161, []) := by decide +kernel
theorem r_Model_thing_4 : P_Model_thing 4 = (none, .ifCond .eq 26, [30]) := by decide +kernel
theorem r_Model_thing_7 : P_Model_thing 7 = (none, .iload_n 2, []) := by decide +kernel
theorem r_Model_thing_8 : P_Model_thing 8 = (none, .ifCond .lt 22, [30]) := by decide +kernel
theorem r_Model_thing_11 : P_Model_thing 11 = (none, .iload_n 2, []) := by decide +kernel
theorem r_Model_thing_12 : P_Model_thing 12 = (none, .aload_n 0, []) := by decide +kernel
theorem r_Model_thing_13 : P_Model_thing 13 = (none, .getfield 50, []) := by decide +kernel
theorem r_Model_thing_16 : P_Model_thing 16 = (none, .iload_n 1, []) := by decide +kernel
theorem r_Model_thing_17 : P_Model_thing 17 = (none, .iaload, []) := by decide +kernel
theorem r_Model_thing_18 : P_Model_thing 18 = (none, .if_icmp .ge 12, [30]) := by decide +kernel
theorem r_Model_thing_21 : P_Model_thing 21 = (none, .aload_n 0, []) := by decide +kernel
theorem r_Model_thing_22 : P_Model_thing 22 = (none, .iload_n 1, []) := by decide +kernel
theorem r_Model_thing_23 : P_Model_thing 23 = (none, .iload_n 2, []) := by decide +kernel
theorem r_Model_thing_24 : P_Model_thing 24 = (none, .invokevirtual 165, []) := by decide +kernel
theorem r_Model_thing_27 : P_Model_thing 27 = (none, .goto 4, [31]) := by decide +kernel
theorem r_Model_thing_30 : P_Model_thing 30 = (none, .iconst (-1), []) := by decide +kernel
theorem r_Model_thing_31 : P_Model_thing 31 = (none, .ireturn, []) := by decide +kernel
def E_Model_thing : List (Nat × Ent) := [(646, (1, 0, 0, 0, T_Model_isPicture)), (660, (3, 2, 0, 0, T_Model_numberOf))]
def X_Model_thing : Cx := (llk (0, 0, 9) ftX11, llk 99 ntX11, llk none kcX11, llk none klX11, llk dEnt E_Model_thing, 3, 0, false)
theorem xok_Model_thing : Xok RX11 X_Model_thing := xok_of ftX11_ok ntX11_ok kcX11_ok klX11_ok (E := E_Model_thing) (List.forall_mem_cons.mpr ⟨co_X11_646, List.forall_mem_cons.mpr ⟨co_X11_660, fun _ h => absurd h List.not_mem_nil⟩⟩)
theorem xf_Model_thing_50 : xfl X_Model_thing 50 = (11, 14, 1) := by decide +kernel
theorem xe_Model_thing_646 : xE X_Model_thing (4 * 161 + 2) = (1, 0, 0, 0, T_Model_isPicture) := rfl
theorem xe_Model_thing_660 : xE X_Model_thing (4 * 165 + 0) = (3, 2, 0, 0, T_Model_numberOf) := rfl
theorem xd_Model_thing : xd X_Model_thing = 3 := rfl
theorem xrb_Model_thing : xrb X_Model_thing = 0 := rfl
theorem xin_Model_thing : xin X_Model_thing = false := rfl
set_option maxHeartbeats 4000000 in
set_option maxRecDepth 100000 in
theorem S_Model_thing : Snd yX11_thing cX11_thing 3 (some .int) T_Model_thing 3 0 0 := by
  refine snd_of (X := X_Model_thing) (P := P_Model_thing) (tb := tb_Model_thing) (own := RX11) (by decide) rfl rfl (by decide +kernel) xok_Model_thing rfl rk0 (fun h => by first | rfl | cases h) ?_
  intro as M k has hM hT0
  obtain ⟨sz, sl, lay, ρ, σ, τ⟩ := M
  obtain ⟨o, as1, e, hlo, hT1⟩ := mkT_r hT0
  clear hT0
  subst e
  obtain ⟨p, as2, e, hT2⟩ := pI_x hT1
  clear hT1
  subst e
  obtain ⟨i, as3, e, hT3⟩ := pI_x hT2
  clear hT2
  subst e
  obtain ⟨e, hT⟩ := hT3
  subst e
  replace hlo : lay o = (21, 0) := hlo
  have r_p : -2147483648 ≤ p ∧ p ≤ 2147483647 := has (vI p) (by simp)
  have r_i : -2147483648 ≤ i ∧ i ≤ 2147483647 := has (vI i) (by simp)
  clear has
  replace hM : ∀ a i, -2147483648 ≤ σ a i ∧ σ a i ≤ 2147483647 := hM
  replace hT : TF_Model_thing o p i sz sl lay ρ σ τ k := hT
  unfold TF_Model_thing at hT
  obtain ⟨hL, U, len, st, hMP, h1, h0⟩ := hT
  refine ⟨Nat.le_of_ble_eq_true rfl, fun _ _ _ => False, fun _ _ _ => 0, 26, ?_, fun _ _ _ _ _ _ h => h.elim⟩
  by_cases hp : 0 ≤ p ∧ p < 3
  · have hpE : (0 ≤ p ∧ p < 3) = True := eq_true hp
    replace h1 := h1 hp
    obtain ⟨hS, hR⟩ := hMP hp
    obtain ⟨hB, hl3, ⟨m4, m5, m6⟩, ⟨m7, m8, m9⟩, m12, ⟨m14, m13⟩, m15, ⟨m17, m16⟩, m26⟩ := (show MR σ o p U len st from hR)
    obtain ⟨b1, b2, b3, b4, b5, b6, b7⟩ := (show MB σ o p U len (st 1) from hB)
    obtain ⟨w0, w1, w2, w3, w4, w5, w6, w7, w8, w9, w10, w11, w12, w13, w14⟩ := (show SW U len st from hS)
    (obtain ⟨mh, mp0, mp2, mp3, mp4, mp5, mp6, mp7, mp8, mp9, mp10, mp11, mp12, mp13, mp14, mp15, mp16, mp17, mp18, mp19, mp20, mp21, mp22, mp24, mp25, mp26, mp27, mq0, mq2, mq3, mq4, mq5, mq6, mq7, mq8, mq9, mq10, mq11, mq12, mq13, mq14, mq15, mq16, mq17, mq18, mq19, mq20, mq21, mq22, mq24, mq25, mq26, mq27⟩ := (show LModel lay ρ _ from hL); unfold wps; simp only [hpE, find_e hL hS hR, m14, si_iload_n0, si_iload_n1, si_iload_n2, si_iload_n3, si_iload, si_lload_n0, si_lload_n1, si_lload_n2, si_lload_n3, si_lload, si_aload_n0, si_aload_n1, si_aload_n2, si_aload_n3, si_aload, si_istore_n0, si_istore_n1, si_istore_n2, si_istore_n3, si_istore, si_astore_n0, si_astore_n1, si_astore_n2, si_astore_n3, si_astore, si_lstore_n0, si_lstore_n1, si_lstore_n2, si_lstore_n3, si_lstore, si_iconst, si_bipush, si_sipush, si_ldc, si_ldc2_w, si_lconst0, si_lconst1, si_aconst_null, si_iinc, si_dup, si_dup2, si_iadd, si_isub, si_imul, si_idiv, si_irem, si_iand, si_ior, si_ishl, si_ishr, si_ladd, si_lmul, si_lor, si_lxor, si_lshl, si_lushr, si_lcmp, si_i2b, si_i2l, si_l2i, si_icmp_eq, si_icmp_ne, si_icmp_lt, si_icmp_ge, si_icmp_gt, si_icmp_le, si_if_eq, si_if_ne, si_if_lt, si_if_ge, si_if_gt, si_if_le, si_ifnull, si_ifnonnull, si_goto, si_tableswitch, si_lookupswitch, si_getfield, si_putfield, si_getstatic, si_iaload, si_baload, si_laload, si_aaload, si_iastore, si_bastore, si_lastore, si_aastore, si_arraylength, si_new, si_newarray, si_anewarray, si_invokevirtual, si_invokespecial, si_invokestatic, si_ireturn, si_lreturn, si_areturn, si_return_, pI_e, pL_e, pR_e, pA_r, pA_n, pN_n, pN_r, oI_e, oL_e, oA_r, oA_n, lget_e, lrm1_0, lrm2_0, lrm1_i, lrm1_r, lrm1_n, lrm1_l, lrm2_i, lrm2_r, lrm2_n, lrm2_l, popN_0, popN_s, acat_i, acat_l, acat_r, acat_n, stw_0, stw_s, psh_s, psh_n, wgf_r, wgf_i, wgf_b, wgf_n, wgf_m, wpf_i, wpf_r, wpf_b, wnew_e, callE_e, rbk_0, rbk_1, tsw_0, tsw_s, lsw_0, lsw_s, wp_s, wq_t, wq_f, oV_e, pick_0, pick_s, oZ_e, oY_e, r_Model_thing_0, r_Model_thing_1, r_Model_thing_4, r_Model_thing_7, r_Model_thing_8, r_Model_thing_11, r_Model_thing_12, r_Model_thing_13, r_Model_thing_16, r_Model_thing_17, r_Model_thing_18, r_Model_thing_21, r_Model_thing_22, r_Model_thing_23, r_Model_thing_24, r_Model_thing_27, r_Model_thing_30, r_Model_thing_31, xf_Model_thing_50, xe_Model_thing_646, xe_Model_thing_660, xd_Model_thing, xrb_Model_thing, xin_Model_thing, T_Model_isPicture_e, TF_Model_isPicture, T_Model_numberOf_e, TF_Model_numberOf, mh, mp0, mp2, mp3, mp4, mp5, mp6, mp7, mp8, mp9, mp10, mp11, mp12, mp13, mp14, mp15, mp16, mp17, mp18, mp19, mp20, mp21, mp22, mp24, mp25, mp26, mp27, mq0, mq2, mq3, mq4, mq5, mq6, mq7, mq8, mq9, mq10, mq11, mq12, mq13, mq14, mq15, mq16, mq17, mq18, mq19, mq20, mq21, mq22, mq24, mq25, mq26, mq27, Nat.reduceAdd, Nat.reduceMul, Nat.reduceEqDiff, reduceIte, Int.reduceNeg, Int.reduceLE, Int.reduceLT, Int.reduceAdd, Int.reduceSub, Int.reduceToNat, true_and, and_true, inR_e, Nat.reduceLT, Nat.reduceLeDiff, reduceCtorEq, Nat.add_zero, Nat.zero_add, or_false, false_or, or_true, true_or, not_true_eq_false, not_false_eq_true, Classical.not_not, Nat.add_eq_zero_iff, and_false, false_and, Int.reduceEq, List.mem_cons, List.not_mem_nil, forall_eq_or_imp, forall_eq, false_implies, implies_true, forall_const, aargs_0, aargs_i, aargs_r, aargs_l, aargs_n, nfT_e, eq_self, and_self, Nat.le_refl, fu_s, fu_fu, iu_iu, iu_s, fu_am, fu_a0, fu_0a, iu_l, Nat.reduceBEq, Int.reduceBEq, T_objInit_e]; clear mp0 mp2 mp3 mp4 mp5 mp6 mp7 mp8 mp9 mp10 mp11 mp12 mp13 mp14 mp15 mp16 mp17 mp18 mp19 mp20 mp21 mp22 mp24 mp25 mp26 mp27)
    refine ⟨fun a => h1.2 (by omega), fun a => ⟨by omega, by omega, fun b => h1.2 (by omega), fun b => ?_⟩⟩
    have tv := hS.tv (i := i) (by omega)
    have t0 := tv.1.2.1
    have t4 := tv.1.2.2.1
    rw [m13 i (by omega)]
    exact ⟨hL, U, len, st 1, hB, by omega, by omega, h1.1 (by omega)⟩
  · have hpE : (0 ≤ p ∧ p < 3) = False := eq_false hp
    (obtain ⟨mh, mp0, mp2, mp3, mp4, mp5, mp6, mp7, mp8, mp9, mp10, mp11, mp12, mp13, mp14, mp15, mp16, mp17, mp18, mp19, mp20, mp21, mp22, mp24, mp25, mp26, mp27, mq0, mq2, mq3, mq4, mq5, mq6, mq7, mq8, mq9, mq10, mq11, mq12, mq13, mq14, mq15, mq16, mq17, mq18, mq19, mq20, mq21, mq22, mq24, mq25, mq26, mq27⟩ := (show LModel lay ρ _ from hL); unfold wps; simp only [hpE, si_iload_n0, si_iload_n1, si_iload_n2, si_iload_n3, si_iload, si_lload_n0, si_lload_n1, si_lload_n2, si_lload_n3, si_lload, si_aload_n0, si_aload_n1, si_aload_n2, si_aload_n3, si_aload, si_istore_n0, si_istore_n1, si_istore_n2, si_istore_n3, si_istore, si_astore_n0, si_astore_n1, si_astore_n2, si_astore_n3, si_astore, si_lstore_n0, si_lstore_n1, si_lstore_n2, si_lstore_n3, si_lstore, si_iconst, si_bipush, si_sipush, si_ldc, si_ldc2_w, si_lconst0, si_lconst1, si_aconst_null, si_iinc, si_dup, si_dup2, si_iadd, si_isub, si_imul, si_idiv, si_irem, si_iand, si_ior, si_ishl, si_ishr, si_ladd, si_lmul, si_lor, si_lxor, si_lshl, si_lushr, si_lcmp, si_i2b, si_i2l, si_l2i, si_icmp_eq, si_icmp_ne, si_icmp_lt, si_icmp_ge, si_icmp_gt, si_icmp_le, si_if_eq, si_if_ne, si_if_lt, si_if_ge, si_if_gt, si_if_le, si_ifnull, si_ifnonnull, si_goto, si_tableswitch, si_lookupswitch, si_getfield, si_putfield, si_getstatic, si_iaload, si_baload, si_laload, si_aaload, si_iastore, si_bastore, si_lastore, si_aastore, si_arraylength, si_new, si_newarray, si_anewarray, si_invokevirtual, si_invokespecial, si_invokestatic, si_ireturn, si_lreturn, si_areturn, si_return_, pI_e, pL_e, pR_e, pA_r, pA_n, pN_n, pN_r, oI_e, oL_e, oA_r, oA_n, lget_e, lrm1_0, lrm2_0, lrm1_i, lrm1_r, lrm1_n, lrm1_l, lrm2_i, lrm2_r, lrm2_n, lrm2_l, popN_0, popN_s, acat_i, acat_l, acat_r, acat_n, stw_0, stw_s, psh_s, psh_n, wgf_r, wgf_i, wgf_b, wgf_n, wgf_m, wpf_i, wpf_r, wpf_b, wnew_e, callE_e, rbk_0, rbk_1, tsw_0, tsw_s, lsw_0, lsw_s, wp_s, wq_t, wq_f, oV_e, pick_0, pick_s, oZ_e, oY_e, r_Model_thing_0, r_Model_thing_1, r_Model_thing_4, r_Model_thing_7, r_Model_thing_8, r_Model_thing_11, r_Model_thing_12, r_Model_thing_13, r_Model_thing_16, r_Model_thing_17, r_Model_thing_18, r_Model_thing_21, r_Model_thing_22, r_Model_thing_23, r_Model_thing_24, r_Model_thing_27, r_Model_thing_30, r_Model_thing_31, xf_Model_thing_50, xe_Model_thing_646, xe_Model_thing_660, xd_Model_thing, xrb_Model_thing, xin_Model_thing, T_Model_isPicture_e, TF_Model_isPicture, T_Model_numberOf_e, TF_Model_numberOf, mh, mp0, mp2, mp3, mp4, mp5, mp6, mp7, mp8, mp9, mp10, mp11, mp12, mp13, mp14, mp15, mp16, mp17, mp18, mp19, mp20, mp21, mp22, mp24, mp25, mp26, mp27, mq0, mq2, mq3, mq4, mq5, mq6, mq7, mq8, mq9, mq10, mq11, mq12, mq13, mq14, mq15, mq16, mq17, mq18, mq19, mq20, mq21, mq22, mq24, mq25, mq26, mq27, Nat.reduceAdd, Nat.reduceMul, Nat.reduceEqDiff, reduceIte, Int.reduceNeg, Int.reduceLE, Int.reduceLT, Int.reduceAdd, Int.reduceSub, Int.reduceToNat, true_and, and_true, inR_e, Nat.reduceLT, Nat.reduceLeDiff, reduceCtorEq, Nat.add_zero, Nat.zero_add, or_false, false_or, or_true, true_or, not_true_eq_false, not_false_eq_true, Classical.not_not, Nat.add_eq_zero_iff, and_false, false_and, Int.reduceEq, List.mem_cons, List.not_mem_nil, forall_eq_or_imp, forall_eq, false_implies, implies_true, forall_const, aargs_0, aargs_i, aargs_r, aargs_l, aargs_n, nfT_e, eq_self, and_self, Nat.le_refl, fu_s, fu_fu, iu_iu, iu_s, fu_am, fu_a0, fu_0a, iu_l, Nat.reduceBEq, Int.reduceBEq, T_objInit_e]; clear mp0 mp2 mp3 mp4 mp5 mp6 mp7 mp8 mp9 mp10 mp11 mp12 mp13 mp14 mp15 mp16 mp17 mp18 mp19 mp20 mp21 mp22 mp24 mp25 mp26 mp27)
    exact h0 hp
def TF_Model_refsOf (o : Nat) (p : Int) (i : Int) (sz sl : Nat) (lay : Nat → Nat × Int) (ρ : Nat → Int → Nat) (σ : Nat → Int → Int) (τ : Nat → Int → Int64) (k : Option AV → Mm → Prop) : Prop := LModel lay ρ o ∧ ∃ (U : Int → Int) (len : Int) (st : Nat → Int → Int), SW U len st ∧ MR σ o p U len st ∧ (0 ≤ i ∧ i < st 0 7) ∧ ∀ c : Int → Int, k (some (vI (r5 U (st 1) (st 2 i) (nV U (st 1) (st 2 i)).toNat))) (sz, sl, lay, ρ, fu σ (o + 23) c, τ)
def T_Model_refsOf : Tr := mkT 11 fun o as M k => pI as fun p as => pI as fun i as => as = [] ∧ TF_Model_refsOf o p i M.1 M.2.1 M.2.2.1 M.2.2.2.1 M.2.2.2.2.1 M.2.2.2.2.2 k
theorem T_Model_refsOf_e {o : Nat} {p : Int} {i : Int} {sz sl : Nat} {lay : Nat → Nat × Int} {ρ : Nat → Int → Nat} {σ : Nat → Int → Int} {τ : Nat → Int → Int64} {k : Option AV → Mm → Prop} : T_Model_refsOf [vR o, vI p, vI i] (sz, sl, lay, ρ, σ, τ) k = (lay o = (21, 0) ∧ TF_Model_refsOf o p i sz sl lay ρ σ τ k) := by simp [T_Model_refsOf, mkT_e, pI_e, pR_e, pL_e]
theorem T_Model_refsOf_r (as : List AV) (M : Mm) (k : Option AV → Mm → Prop) (h : T_Model_refsOf as M k) : ∃ b As, as = vR b :: As ∧ M.2.2.1 b = (10 + 11, 0) := by
  obtain ⟨b, As, h1, h2, -⟩ := mkT_r h
  exact ⟨b, As, h1, h2⟩
def tb_Model_refsOf : List (Nat × Option (List Nat) × Instr × List Nat) := [(0, none, .aload_n 0, []), (1, none, .getfield 47, []), (4, none, .sipush 600, []), (7, none, .iload_n 1, []), (8, none, .imul, []), (9, none, .iload_n 2, []), (10, none, .iadd, []), (11, none, .iaload, []), (12, none, .istore_n 3, []), (13, none, .aload_n 0, []), (14, none, .iload_n 1, []), (15, none, .iload_n 3, []), (16, none, .invokevirtual 131, []), (19, none, .istore 4, []), (21, none, .iconst 0, []), (22, none, .istore 5, []), (24, none, .iconst 0, []), (25, none, .istore 6, []), (27, some [0, 1, 2, 3, 4, 5, 6], .iload 6, []), (29, none, .iload 4, []), (31, none, .if_icmp .ge 31, [62]), (34, none, .iload 5, []), (36, none, .aload_n 0, []), (37, none, .iload_n 1, []), (38, none, .iload_n 3, []), (39, none, .iload 6, []), (41, none, .invokevirtual 121, []), (44, none, .iconst 5, []), (45, none, .if_icmp .ne 7, [52]), (48, none, .iconst 1, []), (49, none, .goto 4, [53]), (52, none, .iconst 0, []), (53, none, .iadd, []), (54, none, .istore 5, []), (56, none, .iinc 6 1, []), (59, none, .goto (-32), [27]), (62, none, .iload 5, []), (64, none, .ireturn, [])]
def P_Model_refsOf : Nat → Option (List Nat) × Instr × List Nat := plk tb_Model_refsOf
theorem r_Model_refsOf_0 : P_Model_refsOf 0 = (none, .aload_n 0, []) := by decide +kernel
theorem r_Model_refsOf_1 : P_Model_refsOf 1 = (none, .getfield 47, []) := by decide +kernel
theorem r_Model_refsOf_4 : P_Model_refsOf 4 = (none, .sipush 600, []) := by decide +kernel
theorem r_Model_refsOf_7 : P_Model_refsOf 7 = (none, .iload_n 1, []) := by decide +kernel
theorem r_Model_refsOf_8 : P_Model_refsOf 8 = (none, .imul, []) := by decide +kernel
theorem r_Model_refsOf_9 : P_Model_refsOf 9 = (none, .iload_n 2, []) := by decide +kernel
theorem r_Model_refsOf_10 : P_Model_refsOf 10 = (none, .iadd, []) := by decide +kernel
theorem r_Model_refsOf_11 : P_Model_refsOf 11 = (none, .iaload, []) := by decide +kernel
theorem r_Model_refsOf_12 : P_Model_refsOf 12 = (none, .istore_n 3, []) := by decide +kernel
theorem r_Model_refsOf_13 : P_Model_refsOf 13 = (none, .aload_n 0, []) := by decide +kernel
theorem r_Model_refsOf_14 : P_Model_refsOf 14 = (none, .iload_n 1, []) := by decide +kernel
theorem r_Model_refsOf_15 : P_Model_refsOf 15 = (none, .iload_n 3, []) := by decide +kernel
theorem r_Model_refsOf_16 : P_Model_refsOf 16 = (none, .invokevirtual 131, []) := by decide +kernel
theorem r_Model_refsOf_19 : P_Model_refsOf 19 = (none, .istore 4, []) := by decide +kernel
theorem r_Model_refsOf_21 : P_Model_refsOf 21 = (none, .iconst 0, []) := by decide +kernel
theorem r_Model_refsOf_22 : P_Model_refsOf 22 = (none, .istore 5, []) := by decide +kernel
theorem r_Model_refsOf_24 : P_Model_refsOf 24 = (none, .iconst 0, []) := by decide +kernel
theorem r_Model_refsOf_25 : P_Model_refsOf 25 = (none, .istore 6, []) := by decide +kernel
theorem r_Model_refsOf_27 : P_Model_refsOf 27 = (some [0, 1, 2, 3, 4, 5, 6], .iload 6, []) := by decide +kernel
theorem r_Model_refsOf_29 : P_Model_refsOf 29 = (none, .iload 4, []) := by decide +kernel
theorem r_Model_refsOf_31 : P_Model_refsOf 31 = (none, .if_icmp .ge 31, [62]) := by decide +kernel
theorem r_Model_refsOf_34 : P_Model_refsOf 34 = (none, .iload 5, []) := by decide +kernel
theorem r_Model_refsOf_36 : P_Model_refsOf 36 = (none, .aload_n 0, []) := by decide +kernel
theorem r_Model_refsOf_37 : P_Model_refsOf 37 = (none, .iload_n 1, []) := by decide +kernel
theorem r_Model_refsOf_38 : P_Model_refsOf 38 = (none, .iload_n 3, []) := by decide +kernel
theorem r_Model_refsOf_39 : P_Model_refsOf 39 = (none, .iload 6, []) := by decide +kernel
theorem r_Model_refsOf_41 : P_Model_refsOf 41 = (none, .invokevirtual 121, []) := by decide +kernel
theorem r_Model_refsOf_44 : P_Model_refsOf 44 = (none, .iconst 5, []) := by decide +kernel
theorem r_Model_refsOf_45 : P_Model_refsOf 45 = (none, .if_icmp .ne 7, [52]) := by decide +kernel
theorem r_Model_refsOf_48 : P_Model_refsOf 48 = (none, .iconst 1, []) := by decide +kernel
theorem r_Model_refsOf_49 : P_Model_refsOf 49 = (none, .goto 4, [53]) := by decide +kernel
theorem r_Model_refsOf_52 : P_Model_refsOf 52 = (none, .iconst 0, []) := by decide +kernel
theorem r_Model_refsOf_53 : P_Model_refsOf 53 = (none, .iadd, []) := by decide +kernel
theorem r_Model_refsOf_54 : P_Model_refsOf 54 = (none, .istore 5, []) := by decide +kernel
theorem r_Model_refsOf_56 : P_Model_refsOf 56 = (none, .iinc 6 1, []) := by decide +kernel
theorem r_Model_refsOf_59 : P_Model_refsOf 59 = (none, .goto (-32), [27]) := by decide +kernel
theorem r_Model_refsOf_62 : P_Model_refsOf 62 = (none, .iload 5, []) := by decide +kernel
theorem r_Model_refsOf_64 : P_Model_refsOf 64 = (none, .ireturn, []) := by decide +kernel
def E_Model_refsOf : List (Nat × Ent) := [(484, (4, 3, 0, 0, T_Model_sortAt)), (524, (3, 3, 0, 0, T_Model_valuesAt))]
def X_Model_refsOf : Cx := (llk (0, 0, 9) ftX11, llk 99 ntX11, llk none kcX11, llk none klX11, llk dEnt E_Model_refsOf, 4, 0, false)
theorem xok_Model_refsOf : Xok RX11 X_Model_refsOf := xok_of ftX11_ok ntX11_ok kcX11_ok klX11_ok (E := E_Model_refsOf) (List.forall_mem_cons.mpr ⟨co_X11_484, List.forall_mem_cons.mpr ⟨co_X11_524, fun _ h => absurd h List.not_mem_nil⟩⟩)
theorem xf_Model_refsOf_47 : xfl X_Model_refsOf 47 = (11, 13, 1) := by decide +kernel
theorem xe_Model_refsOf_484 : xE X_Model_refsOf (4 * 121 + 0) = (4, 3, 0, 0, T_Model_sortAt) := rfl
theorem xe_Model_refsOf_524 : xE X_Model_refsOf (4 * 131 + 0) = (3, 3, 0, 0, T_Model_valuesAt) := rfl
theorem xd_Model_refsOf : xd X_Model_refsOf = 4 := rfl
theorem xrb_Model_refsOf : xrb X_Model_refsOf = 0 := rfl
theorem xin_Model_refsOf : xin X_Model_refsOf = false := rfl
set_option maxHeartbeats 4000000 in
set_option maxRecDepth 100000 in
theorem S_Model_refsOf : Snd yX11_refsOf cX11_refsOf 7 (some .int) T_Model_refsOf 4 0 0 := by
  refine snd_of (X := X_Model_refsOf) (P := P_Model_refsOf) (tb := tb_Model_refsOf) (own := RX11) (by decide) rfl rfl (by decide +kernel) xok_Model_refsOf rfl rk0 (fun h => by first | rfl | cases h) ?_
  intro as M k has hM hT0
  obtain ⟨sz, sl, lay, ρ, σ, τ⟩ := M
  obtain ⟨o, as1, e, hlo, hT1⟩ := mkT_r hT0
  clear hT0
  subst e
  obtain ⟨p, as2, e, hT2⟩ := pI_x hT1
  clear hT1
  subst e
  obtain ⟨i, as3, e, hT3⟩ := pI_x hT2
  clear hT2
  subst e
  obtain ⟨e, hT⟩ := hT3
  subst e
  replace hlo : lay o = (21, 0) := hlo
  have r_p : -2147483648 ≤ p ∧ p ≤ 2147483647 := has (vI p) (by simp)
  have r_i : -2147483648 ≤ i ∧ i ≤ 2147483647 := has (vI i) (by simp)
  clear has
  replace hM : ∀ a i, -2147483648 ≤ σ a i ∧ σ a i ≤ 2147483647 := hM
  replace hT : TF_Model_refsOf o p i sz sl lay ρ σ τ k := hT
  unfold TF_Model_refsOf at hT
  obtain ⟨hL, U, len, st, hS, hR, hi, hT⟩ := hT
  obtain ⟨hB, hl3, ⟨m4, m5, m6⟩, ⟨m7, m8, m9⟩, m12, ⟨m14, m13⟩, m15, ⟨m17, m16⟩, m26⟩ := (show MR σ o p U len st from hR)
  obtain ⟨b1, b2, b3, b4, b5, b6, b7⟩ := (show MB σ o p U len (st 1) from hB)
  obtain ⟨w0, w1, w2, w3, w4, w5, w6, w7, w8, w9, w10, w11, w12, w13, w14⟩ := (show SW U len st from hS)
  obtain ⟨J, hJd⟩ : ∃ J : Nat → List AV → Mm → Prop, J = (fun c vs M1 => c = 27 ∧ ∃ (c : Int → Int) (j : Nat), (j : Int) ≤ nV U (st 1) (st 2 i) ∧ vs = [vR o, vI p, vI i, vI (st 2 i), vI (nV U (st 1) (st 2 i)), vI (r5 U (st 1) (st 2 i) j), vI (j : Int)] ∧ M1 = (sz, sl, lay, ρ, fu σ (o + 23) c, τ)) := ⟨_, rfl⟩
  obtain ⟨μ, hμ⟩ : ∃ μ : Nat → List AV → Mm → Nat, μ = (fun _ vs _ => (1000 - gI (vs.getD 6 vN)).toNat) := ⟨_, rfl⟩
  refine ⟨Nat.le_of_ble_eq_true rfl, J, μ, 46, ?_, ?_⟩
  · obtain ⟨mh, mp0, mp2, mp3, mp4, mp5, mp6, mp7, mp8, mp9, mp10, mp11, mp12, mp13, mp14, mp15, mp16, mp17, mp18, mp19, mp20, mp21, mp22, mp24, mp25, mp26, mp27, mq0, mq2, mq3, mq4, mq5, mq6, mq7, mq8, mq9, mq10, mq11, mq12, mq13, mq14, mq15, mq16, mq17, mq18, mq19, mq20, mq21, mq22, mq24, mq25, mq26, mq27⟩ := (show LModel lay ρ _ from hL)
    unfold wps
    simp only [si_iload_n0, si_iload_n1, si_iload_n2, si_iload_n3, si_iload, si_lload_n0, si_lload_n1, si_lload_n2, si_lload_n3, si_lload, si_aload_n0, si_aload_n1, si_aload_n2, si_aload_n3, si_aload, si_istore_n0, si_istore_n1, si_istore_n2, si_istore_n3, si_istore, si_astore_n0, si_astore_n1, si_astore_n2, si_astore_n3, si_astore, si_lstore_n0, si_lstore_n1, si_lstore_n2, si_lstore_n3, si_lstore, si_iconst, si_bipush, si_sipush, si_ldc, si_ldc2_w, si_lconst0, si_lconst1, si_aconst_null, si_iinc, si_dup, si_dup2, si_iadd, si_isub, si_imul, si_idiv, si_irem, si_iand, si_ior, si_ishl, si_ishr, si_ladd, si_lmul, si_lor, si_lxor, si_lshl, si_lushr, si_lcmp, si_i2b, si_i2l, si_l2i, si_icmp_eq, si_icmp_ne, si_icmp_lt, si_icmp_ge, si_icmp_gt, si_icmp_le, si_if_eq, si_if_ne, si_if_lt, si_if_ge, si_if_gt, si_if_le, si_ifnull, si_ifnonnull, si_goto, si_tableswitch, si_lookupswitch, si_getfield, si_putfield, si_getstatic, si_iaload, si_baload, si_laload, si_aaload, si_iastore, si_bastore, si_lastore, si_aastore, si_arraylength, si_new, si_newarray, si_anewarray, si_invokevirtual, si_invokespecial, si_invokestatic, si_ireturn, si_lreturn, si_areturn, si_return_, pI_e, pL_e, pR_e, pA_r, pA_n, pN_n, pN_r, oI_e, oL_e, oA_r, oA_n, lget_e, lrm1_0, lrm2_0, lrm1_i, lrm1_r, lrm1_n, lrm1_l, lrm2_i, lrm2_r, lrm2_n, lrm2_l, popN_0, popN_s, acat_i, acat_l, acat_r, acat_n, stw_0, stw_s, psh_s, psh_n, wgf_r, wgf_i, wgf_b, wgf_n, wgf_m, wpf_i, wpf_r, wpf_b, wnew_e, callE_e, rbk_0, rbk_1, tsw_0, tsw_s, lsw_0, lsw_s, wp_s, wq_t, wq_f, oV_e, pick_0, pick_s, oZ_e, oY_e, r_Model_refsOf_0, r_Model_refsOf_1, r_Model_refsOf_4, r_Model_refsOf_7, r_Model_refsOf_8, r_Model_refsOf_9, r_Model_refsOf_10, r_Model_refsOf_11, r_Model_refsOf_12, r_Model_refsOf_13, r_Model_refsOf_14, r_Model_refsOf_15, r_Model_refsOf_16, r_Model_refsOf_19, r_Model_refsOf_21, r_Model_refsOf_22, r_Model_refsOf_24, r_Model_refsOf_25, r_Model_refsOf_27, r_Model_refsOf_29, r_Model_refsOf_31, r_Model_refsOf_34, r_Model_refsOf_36, r_Model_refsOf_37, r_Model_refsOf_38, r_Model_refsOf_39, r_Model_refsOf_41, r_Model_refsOf_44, r_Model_refsOf_45, r_Model_refsOf_48, r_Model_refsOf_49, r_Model_refsOf_52, r_Model_refsOf_53, r_Model_refsOf_54, r_Model_refsOf_56, r_Model_refsOf_59, r_Model_refsOf_62, r_Model_refsOf_64, xf_Model_refsOf_47, xe_Model_refsOf_484, xe_Model_refsOf_524, xd_Model_refsOf, xrb_Model_refsOf, xin_Model_refsOf, T_Model_sortAt_e, TF_Model_sortAt, T_Model_valuesAt_e, TF_Model_valuesAt, mh, mp0, mp2, mp3, mp4, mp5, mp6, mp7, mp8, mp9, mp10, mp11, mp12, mp13, mp14, mp15, mp16, mp17, mp18, mp19, mp20, mp21, mp22, mp24, mp25, mp26, mp27, mq0, mq2, mq3, mq4, mq5, mq6, mq7, mq8, mq9, mq10, mq11, mq12, mq13, mq14, mq15, mq16, mq17, mq18, mq19, mq20, mq21, mq22, mq24, mq25, mq26, mq27, Nat.reduceAdd, Nat.reduceMul, Nat.reduceEqDiff, reduceIte, Int.reduceNeg, Int.reduceLE, Int.reduceLT, Int.reduceAdd, Int.reduceSub, Int.reduceToNat, true_and, and_true, inR_e, Nat.reduceLT, Nat.reduceLeDiff, reduceCtorEq, Nat.add_zero, Nat.zero_add, or_false, false_or, or_true, true_or, not_true_eq_false, not_false_eq_true, Classical.not_not, Nat.add_eq_zero_iff, and_false, false_and, Int.reduceEq, List.mem_cons, List.not_mem_nil, forall_eq_or_imp, forall_eq, false_implies, implies_true, forall_const, aargs_0, aargs_i, aargs_r, aargs_l, aargs_n, nfT_e, eq_self, and_self, Nat.le_refl, fu_s, fu_fu, iu_iu, iu_s, fu_am, fu_a0, fu_0a, iu_l, Nat.reduceBEq, Int.reduceBEq, T_objInit_e]
    clear mp0 mp2 mp3 mp4 mp5 mp6 mp7 mp8 mp9 mp10 mp11 mp12 mp13 mp14 mp15 mp16 mp17 mp18 mp19 mp20 mp21 mp22 mp24 mp25 mp26 mp27
    have tv := hS.tv hi
    rw [m13 i hi]
    refine ⟨by omega, by omega, by omega, by omega, hL, U, len, st 1, hB, tv.1, fun c => ?_⟩
    have nv := tv.1.1.nv b5
    rw [hJd]
    exact ⟨rfl, c, 0, by omega, rfl, rfl⟩
  · intro cp vs M1 hvs hM1 hlen hJ
    rw [hJd] at hJ
    obtain ⟨rfl, c, j, hj, rfl, rfl⟩ := hJ
    have tv := hS.tv hi
    have nv := tv.1.1.nv b5
    have cz := cntZ_R (fun k => decide (sA U (st 1) (st 2 i) k = 5)) j
    have cz2 : 0 ≤ r5 U (st 1) (st 2 i) j ∧ r5 U (st 1) (st 2 i) j ≤ j := cz
    (obtain ⟨mh, mp0, mp2, mp3, mp4, mp5, mp6, mp7, mp8, mp9, mp10, mp11, mp12, mp13, mp14, mp15, mp16, mp17, mp18, mp19, mp20, mp21, mp22, mp24, mp25, mp26, mp27, mq0, mq2, mq3, mq4, mq5, mq6, mq7, mq8, mq9, mq10, mq11, mq12, mq13, mq14, mq15, mq16, mq17, mq18, mq19, mq20, mq21, mq22, mq24, mq25, mq26, mq27⟩ := (show LModel lay ρ _ from hL); unfold wps; simp only [Option.getD_some, List.zip_cons_cons, List.zip_nil_left, List.zip_nil_right, List.zip_nil_right, MB_fu, si_iload_n0, si_iload_n1, si_iload_n2, si_iload_n3, si_iload, si_lload_n0, si_lload_n1, si_lload_n2, si_lload_n3, si_lload, si_aload_n0, si_aload_n1, si_aload_n2, si_aload_n3, si_aload, si_istore_n0, si_istore_n1, si_istore_n2, si_istore_n3, si_istore, si_astore_n0, si_astore_n1, si_astore_n2, si_astore_n3, si_astore, si_lstore_n0, si_lstore_n1, si_lstore_n2, si_lstore_n3, si_lstore, si_iconst, si_bipush, si_sipush, si_ldc, si_ldc2_w, si_lconst0, si_lconst1, si_aconst_null, si_iinc, si_dup, si_dup2, si_iadd, si_isub, si_imul, si_idiv, si_irem, si_iand, si_ior, si_ishl, si_ishr, si_ladd, si_lmul, si_lor, si_lxor, si_lshl, si_lushr, si_lcmp, si_i2b, si_i2l, si_l2i, si_icmp_eq, si_icmp_ne, si_icmp_lt, si_icmp_ge, si_icmp_gt, si_icmp_le, si_if_eq, si_if_ne, si_if_lt, si_if_ge, si_if_gt, si_if_le, si_ifnull, si_ifnonnull, si_goto, si_tableswitch, si_lookupswitch, si_getfield, si_putfield, si_getstatic, si_iaload, si_baload, si_laload, si_aaload, si_iastore, si_bastore, si_lastore, si_aastore, si_arraylength, si_new, si_newarray, si_anewarray, si_invokevirtual, si_invokespecial, si_invokestatic, si_ireturn, si_lreturn, si_areturn, si_return_, pI_e, pL_e, pR_e, pA_r, pA_n, pN_n, pN_r, oI_e, oL_e, oA_r, oA_n, lget_e, lrm1_0, lrm2_0, lrm1_i, lrm1_r, lrm1_n, lrm1_l, lrm2_i, lrm2_r, lrm2_n, lrm2_l, popN_0, popN_s, acat_i, acat_l, acat_r, acat_n, stw_0, stw_s, psh_s, psh_n, wgf_r, wgf_i, wgf_b, wgf_n, wgf_m, wpf_i, wpf_r, wpf_b, wnew_e, callE_e, rbk_0, rbk_1, tsw_0, tsw_s, lsw_0, lsw_s, wp_s, wq_t, wq_f, oV_e, pick_0, pick_s, oZ_e, oY_e, r_Model_refsOf_0, r_Model_refsOf_1, r_Model_refsOf_4, r_Model_refsOf_7, r_Model_refsOf_8, r_Model_refsOf_9, r_Model_refsOf_10, r_Model_refsOf_11, r_Model_refsOf_12, r_Model_refsOf_13, r_Model_refsOf_14, r_Model_refsOf_15, r_Model_refsOf_16, r_Model_refsOf_19, r_Model_refsOf_21, r_Model_refsOf_22, r_Model_refsOf_24, r_Model_refsOf_25, r_Model_refsOf_27, r_Model_refsOf_29, r_Model_refsOf_31, r_Model_refsOf_34, r_Model_refsOf_36, r_Model_refsOf_37, r_Model_refsOf_38, r_Model_refsOf_39, r_Model_refsOf_41, r_Model_refsOf_44, r_Model_refsOf_45, r_Model_refsOf_48, r_Model_refsOf_49, r_Model_refsOf_52, r_Model_refsOf_53, r_Model_refsOf_54, r_Model_refsOf_56, r_Model_refsOf_59, r_Model_refsOf_62, r_Model_refsOf_64, xf_Model_refsOf_47, xe_Model_refsOf_484, xe_Model_refsOf_524, xd_Model_refsOf, xrb_Model_refsOf, xin_Model_refsOf, T_Model_sortAt_e, TF_Model_sortAt, T_Model_valuesAt_e, TF_Model_valuesAt, mh, mp0, mp2, mp3, mp4, mp5, mp6, mp7, mp8, mp9, mp10, mp11, mp12, mp13, mp14, mp15, mp16, mp17, mp18, mp19, mp20, mp21, mp22, mp24, mp25, mp26, mp27, mq0, mq2, mq3, mq4, mq5, mq6, mq7, mq8, mq9, mq10, mq11, mq12, mq13, mq14, mq15, mq16, mq17, mq18, mq19, mq20, mq21, mq22, mq24, mq25, mq26, mq27, Nat.reduceAdd, Nat.reduceMul, Nat.reduceEqDiff, reduceIte, Int.reduceNeg, Int.reduceLE, Int.reduceLT, Int.reduceAdd, Int.reduceSub, Int.reduceToNat, true_and, and_true, inR_e, Nat.reduceLT, Nat.reduceLeDiff, reduceCtorEq, Nat.add_zero, Nat.zero_add, or_false, false_or, or_true, true_or, not_true_eq_false, not_false_eq_true, Classical.not_not, Nat.add_eq_zero_iff, and_false, false_and, Int.reduceEq, List.mem_cons, List.not_mem_nil, forall_eq_or_imp, forall_eq, false_implies, implies_true, forall_const, aargs_0, aargs_i, aargs_r, aargs_l, aargs_n, nfT_e, eq_self, and_self, Nat.le_refl, fu_s, fu_fu, iu_iu, iu_s, fu_am, fu_a0, fu_0a, iu_l, Nat.reduceBEq, Int.reduceBEq, T_objInit_e]; clear mp0 mp2 mp3 mp4 mp5 mp6 mp7 mp8 mp9 mp10 mp11 mp12 mp13 mp14 mp15 mp16 mp17 mp18 mp19 mp20 mp21 mp22 mp24 mp25 mp26 mp27)
    refine ⟨fun h => ?_, fun h => ⟨hL, U, len, st 1, hB, tv.1, by omega, fun d => ⟨fun a => ⟨by omega, by omega, ?_, (by rw [hμ]; simp only [gI_e, List.getD_cons_succ, List.getD_cons_zero]; omega)⟩, fun a => ⟨by omega, by omega, ?_, (by rw [hμ]; simp only [gI_e, List.getD_cons_succ, List.getD_cons_zero]; omega)⟩⟩⟩⟩
    · rw [show j = (nV U (st 1) (st 2 i)).toNat by omega]
      exact hT c
    · rw [hJd]
      refine ⟨rfl, d, j + 1, by omega, ?_, rfl⟩
      unfold r5
      rw [cntZ_f (by rw [decide_eq_true_eq]; exact a), Int.add_zero]
      rfl
    · rw [hJd]
      refine ⟨rfl, d, j + 1, by omega, ?_, rfl⟩
      unfold r5
      rw [cntZ_t (by rw [decide_eq_true_eq]; exact a)]
      rfl
def TF_Model_refsTo (o : Nat) (p : Int) (x : Int) (sz sl : Nat) (lay : Nat → Nat × Int) (ρ : Nat → Int → Nat) (σ : Nat → Int → Int) (τ : Nat → Int → Int64) (k : Option AV → Mm → Prop) : Prop := LModel lay ρ o ∧ ∃ (U : Int → Int) (len : Int) (st : Nat → Int → Int), SW U len st ∧ MR σ o p U len st ∧ ∀ c : Int → Int, k (some (vI (ptP U st x))) (sz, sl, lay, ρ, fu σ (o + 23) c, τ)
def T_Model_refsTo : Tr := mkT 11 fun o as M k => pI as fun p as => pI as fun x as => as = [] ∧ TF_Model_refsTo o p x M.1 M.2.1 M.2.2.1 M.2.2.2.1 M.2.2.2.2.1 M.2.2.2.2.2 k
theorem T_Model_refsTo_e {o : Nat} {p : Int} {x : Int} {sz sl : Nat} {lay : Nat → Nat × Int} {ρ : Nat → Int → Nat} {σ : Nat → Int → Int} {τ : Nat → Int → Int64} {k : Option AV → Mm → Prop} : T_Model_refsTo [vR o, vI p, vI x] (sz, sl, lay, ρ, σ, τ) k = (lay o = (21, 0) ∧ TF_Model_refsTo o p x sz sl lay ρ σ τ k) := by simp [T_Model_refsTo, mkT_e, pI_e, pR_e, pL_e]
theorem T_Model_refsTo_r (as : List AV) (M : Mm) (k : Option AV → Mm → Prop) (h : T_Model_refsTo as M k) : ∃ b As, as = vR b :: As ∧ M.2.2.1 b = (10 + 11, 0) := by
  obtain ⟨b, As, h1, h2, -⟩ := mkT_r h
  exact ⟨b, As, h1, h2⟩
def tb_Model_refsTo : List (Nat × Option (List Nat) × Instr × List Nat) := [(0, none, .iconst 0, []), (1, none, .istore_n 3, []), (2, none, .iconst 0, []), (3, none, .istore 4, []), (5, some [0, 1, 2, 3, 4], .iload 4, []), (7, none, .aload_n 0, []), (8, none, .getfield 50, []), (11, none, .iload_n 1, []), (12, none, .iaload, []), (13, none, .if_icmp .ge 66, [79]), (16, none, .aload_n 0, []), (17, none, .iload_n 1, []), (18, none, .aload_n 0, []), (19, none, .getfield 47, []), (22, none, .sipush 600, []), (25, none, .iload_n 1, []), (26, none, .imul, []), (27, none, .iload 4, []), (29, none, .iadd, []), (30, none, .iaload, []), (31, none, .invokevirtual 131, []), (34, none, .istore 5, []), (36, none, .iconst 0, []), (37, none, .istore 6, []), (39, some [0, 1, 2, 3, 4, 5, 6], .iload 6, []), (41, none, .iload 5, []), (43, none, .if_icmp .ge 30, [73]), (46, none, .iload_n 3, []), (47, none, .aload_n 0, []), (48, none, .iload_n 1, []), (49, none, .iload 4, []), (51, none, .iload 6, []), (53, none, .invokevirtual 175, []), (56, none, .iload_n 2, []), (57, none, .if_icmp .ne 7, [64]), (60, none, .iconst 1, []), (61, none, .goto 4, [65]), (64, none, .iconst 0, []), (65, none, .iadd, []), (66, none, .istore_n 3, []), (67, none, .iinc 6 1, []), (70, none, .goto (-31), [39]), (73, none, .iinc 4 1, []), (76, none, .goto (-71), [5]), (79, none, .iload_n 3, []), (80, none, .ireturn, [])]
def P_Model_refsTo : Nat → Option (List Nat) × Instr × List Nat := plk tb_Model_refsTo
theorem r_Model_refsTo_0 : P_Model_refsTo 0 = (none, .iconst 0, []) := by decide +kernel
theorem r_Model_refsTo_1 : P_Model_refsTo 1 = (none, .istore_n 3, []) := by decide +kernel
theorem r_Model_refsTo_2 : P_Model_refsTo 2 = (none, .iconst 0, []) := by decide +kernel
theorem r_Model_refsTo_3 : P_Model_refsTo 3 = (none, .istore 4, []) := by decide +kernel
theorem r_Model_refsTo_5 : P_Model_refsTo 5 = (some [0, 1, 2, 3, 4], .iload 4, []) := by decide +kernel
theorem r_Model_refsTo_7 : P_Model_refsTo 7 = (none, .aload_n 0, []) := by decide +kernel
theorem r_Model_refsTo_8 : P_Model_refsTo 8 = (none, .getfield 50, []) := by decide +kernel
theorem r_Model_refsTo_11 : P_Model_refsTo 11 = (none, .iload_n 1, []) := by decide +kernel
theorem r_Model_refsTo_12 : P_Model_refsTo 12 = (none, .iaload, []) := by decide +kernel
theorem r_Model_refsTo_13 : P_Model_refsTo 13 = (none, .if_icmp .ge 66, [79]) := by decide +kernel
theorem r_Model_refsTo_16 : P_Model_refsTo 16 = (none, .aload_n 0, []) := by decide +kernel
theorem r_Model_refsTo_17 : P_Model_refsTo 17 = (none, .iload_n 1, []) := by decide +kernel
theorem r_Model_refsTo_18 : P_Model_refsTo 18 = (none, .aload_n 0, []) := by decide +kernel
theorem r_Model_refsTo_19 : P_Model_refsTo 19 = (none, .getfield 47, []) := by decide +kernel
theorem r_Model_refsTo_22 : P_Model_refsTo 22 = (none, .sipush 600, []) := by decide +kernel
theorem r_Model_refsTo_25 : P_Model_refsTo 25 = (none, .iload_n 1, []) := by decide +kernel
theorem r_Model_refsTo_26 : P_Model_refsTo 26 = (none, .imul, []) := by decide +kernel
theorem r_Model_refsTo_27 : P_Model_refsTo 27 = (none, .iload 4, []) := by decide +kernel
theorem r_Model_refsTo_29 : P_Model_refsTo 29 = (none, .iadd, []) := by decide +kernel
theorem r_Model_refsTo_30 : P_Model_refsTo 30 = (none, .iaload, []) := by decide +kernel
theorem r_Model_refsTo_31 : P_Model_refsTo 31 = (none, .invokevirtual 131, []) := by decide +kernel
theorem r_Model_refsTo_34 : P_Model_refsTo 34 = (none, .istore 5, []) := by decide +kernel
theorem r_Model_refsTo_36 : P_Model_refsTo 36 = (none, .iconst 0, []) := by decide +kernel
theorem r_Model_refsTo_37 : P_Model_refsTo 37 = (none, .istore 6, []) := by decide +kernel
theorem r_Model_refsTo_39 : P_Model_refsTo 39 = (some [0, 1, 2, 3, 4, 5, 6], .iload 6, []) := by decide +kernel
theorem r_Model_refsTo_41 : P_Model_refsTo 41 = (none, .iload 5, []) := by decide +kernel
theorem r_Model_refsTo_43 : P_Model_refsTo 43 = (none, .if_icmp .ge 30, [73]) := by decide +kernel
theorem r_Model_refsTo_46 : P_Model_refsTo 46 = (none, .iload_n 3, []) := by decide +kernel
theorem r_Model_refsTo_47 : P_Model_refsTo 47 = (none, .aload_n 0, []) := by decide +kernel
theorem r_Model_refsTo_48 : P_Model_refsTo 48 = (none, .iload_n 1, []) := by decide +kernel
theorem r_Model_refsTo_49 : P_Model_refsTo 49 = (none, .iload 4, []) := by decide +kernel
theorem r_Model_refsTo_51 : P_Model_refsTo 51 = (none, .iload 6, []) := by decide +kernel
theorem r_Model_refsTo_53 : P_Model_refsTo 53 = (none, .invokevirtual 175, []) := by decide +kernel
theorem r_Model_refsTo_56 : P_Model_refsTo 56 = (none, .iload_n 2, []) := by decide +kernel
theorem r_Model_refsTo_57 : P_Model_refsTo 57 = (none, .if_icmp .ne 7, [64]) := by decide +kernel
theorem r_Model_refsTo_60 : P_Model_refsTo 60 = (none, .iconst 1, []) := by decide +kernel
theorem r_Model_refsTo_61 : P_Model_refsTo 61 = (none, .goto 4, [65]) := by decide +kernel
theorem r_Model_refsTo_64 : P_Model_refsTo 64 = (none, .iconst 0, []) := by decide +kernel
theorem r_Model_refsTo_65 : P_Model_refsTo 65 = (none, .iadd, []) := by decide +kernel
theorem r_Model_refsTo_66 : P_Model_refsTo 66 = (none, .istore_n 3, []) := by decide +kernel
theorem r_Model_refsTo_67 : P_Model_refsTo 67 = (none, .iinc 6 1, []) := by decide +kernel
theorem r_Model_refsTo_70 : P_Model_refsTo 70 = (none, .goto (-31), [39]) := by decide +kernel
theorem r_Model_refsTo_73 : P_Model_refsTo 73 = (none, .iinc 4 1, []) := by decide +kernel
theorem r_Model_refsTo_76 : P_Model_refsTo 76 = (none, .goto (-71), [5]) := by decide +kernel
theorem r_Model_refsTo_79 : P_Model_refsTo 79 = (none, .iload_n 3, []) := by decide +kernel
theorem r_Model_refsTo_80 : P_Model_refsTo 80 = (none, .ireturn, []) := by decide +kernel
def E_Model_refsTo : List (Nat × Ent) := [(524, (3, 3, 0, 0, T_Model_valuesAt)), (700, (4, 6, 0, 0, T_Model_target))]
def X_Model_refsTo : Cx := (llk (0, 0, 9) ftX11, llk 99 ntX11, llk none kcX11, llk none klX11, llk dEnt E_Model_refsTo, 7, 0, false)
theorem xok_Model_refsTo : Xok RX11 X_Model_refsTo := xok_of ftX11_ok ntX11_ok kcX11_ok klX11_ok (E := E_Model_refsTo) (List.forall_mem_cons.mpr ⟨co_X11_524, List.forall_mem_cons.mpr ⟨co_X11_700, fun _ h => absurd h List.not_mem_nil⟩⟩)
theorem xf_Model_refsTo_47 : xfl X_Model_refsTo 47 = (11, 13, 1) := by decide +kernel
theorem xf_Model_refsTo_50 : xfl X_Model_refsTo 50 = (11, 14, 1) := by decide +kernel
theorem xe_Model_refsTo_524 : xE X_Model_refsTo (4 * 131 + 0) = (3, 3, 0, 0, T_Model_valuesAt) := rfl
theorem xe_Model_refsTo_700 : xE X_Model_refsTo (4 * 175 + 0) = (4, 6, 0, 0, T_Model_target) := rfl
theorem xd_Model_refsTo : xd X_Model_refsTo = 7 := rfl
theorem xrb_Model_refsTo : xrb X_Model_refsTo = 0 := rfl
theorem xin_Model_refsTo : xin X_Model_refsTo = false := rfl
set_option maxHeartbeats 4000000 in
set_option maxRecDepth 100000 in
theorem S_Model_refsTo : Snd yX11_refsTo cX11_refsTo 7 (some .int) T_Model_refsTo 7 0 0 := by
  refine snd_of (X := X_Model_refsTo) (P := P_Model_refsTo) (tb := tb_Model_refsTo) (own := RX11) (by decide) rfl rfl (by decide +kernel) xok_Model_refsTo rfl rk0 (fun h => by first | rfl | cases h) ?_
  intro as M k has hM hT0
  obtain ⟨sz, sl, lay, ρ, σ, τ⟩ := M
  obtain ⟨o, as1, e, hlo, hT1⟩ := mkT_r hT0
  clear hT0
  subst e
  obtain ⟨p, as2, e, hT2⟩ := pI_x hT1
  clear hT1
  subst e
  obtain ⟨x, as3, e, hT3⟩ := pI_x hT2
  clear hT2
  subst e
  obtain ⟨e, hT⟩ := hT3
  subst e
  replace hlo : lay o = (21, 0) := hlo
  have r_p : -2147483648 ≤ p ∧ p ≤ 2147483647 := has (vI p) (by simp)
  have r_x : -2147483648 ≤ x ∧ x ≤ 2147483647 := has (vI x) (by simp)
  clear has
  replace hM : ∀ a i, -2147483648 ≤ σ a i ∧ σ a i ≤ 2147483647 := hM
  replace hT : TF_Model_refsTo o p x sz sl lay ρ σ τ k := hT
  unfold TF_Model_refsTo at hT
  obtain ⟨hL, U, len, st, hS, hR, hT⟩ := hT
  obtain ⟨hB, hl3, ⟨m4, m5, m6⟩, ⟨m7, m8, m9⟩, m12, ⟨m14, m13⟩, m15, ⟨m17, m16⟩, m26⟩ := (show MR σ o p U len st from hR)
  obtain ⟨b1, b2, b3, b4, b5, b6, b7⟩ := (show MB σ o p U len (st 1) from hB)
  obtain ⟨w0, w1, w2, w3, w4, w5, w6, w7, w8, w9, w10, w11, w12, w13, w14⟩ := (show SW U len st from hS)
  obtain ⟨J, hJd⟩ : ∃ J : Nat → List AV → Mm → Prop, J = (fun c vs M1 => (c = 5 ∧ ∃ (c : Int → Int) (i : Nat), (i : Int) ≤ st 0 7 ∧ vs = [vR o, vI p, vI x, vI (sumZ (fun j => cntZ (fun k => decide (tgt U st j k = x)) (nV U (st 1) (st 2 j)).toNat) i), vI (i : Int)] ∧ M1 = (sz, sl, lay, ρ, fu σ (o + 23) c, τ)) ∨ (c = 39 ∧ ∃ (c : Int → Int) (i j : Nat), ((i : Int) < st 0 7 ∧ (j : Int) ≤ nV U (st 1) (st 2 i)) ∧ vs = [vR o, vI p, vI x, vI (sumZ (fun j => cntZ (fun k => decide (tgt U st j k = x)) (nV U (st 1) (st 2 j)).toNat) i + cntZ (fun k => decide (tgt U st i k = x)) j), vI (i : Int), vI (nV U (st 1) (st 2 i)), vI (j : Int)] ∧ M1 = (sz, sl, lay, ρ, fu σ (o + 23) c, τ))) := ⟨_, rfl⟩
  obtain ⟨μ, hμ⟩ : ∃ μ : Nat → List AV → Mm → Nat, μ = (fun c vs _ => if c = 5 then (2000 * (1000 - gI (vs.getD 4 vN))).toNat else (2000 * (1000 - gI (vs.getD 4 vN)) - 1 - gI (vs.getD 6 vN)).toNat) := ⟨_, rfl⟩
  refine ⟨Nat.le_of_ble_eq_true rfl, J, μ, 54, ?_, ?_⟩
  · obtain ⟨mh, mp0, mp2, mp3, mp4, mp5, mp6, mp7, mp8, mp9, mp10, mp11, mp12, mp13, mp14, mp15, mp16, mp17, mp18, mp19, mp20, mp21, mp22, mp24, mp25, mp26, mp27, mq0, mq2, mq3, mq4, mq5, mq6, mq7, mq8, mq9, mq10, mq11, mq12, mq13, mq14, mq15, mq16, mq17, mq18, mq19, mq20, mq21, mq22, mq24, mq25, mq26, mq27⟩ := (show LModel lay ρ _ from hL)
    unfold wps
    simp only [si_iload_n0, si_iload_n1, si_iload_n2, si_iload_n3, si_iload, si_lload_n0, si_lload_n1, si_lload_n2, si_lload_n3, si_lload, si_aload_n0, si_aload_n1, si_aload_n2, si_aload_n3, si_aload, si_istore_n0, si_istore_n1, si_istore_n2, si_istore_n3, si_istore, si_astore_n0, si_astore_n1, si_astore_n2, si_astore_n3, si_astore, si_lstore_n0, si_lstore_n1, si_lstore_n2, si_lstore_n3, si_lstore, si_iconst, si_bipush, si_sipush, si_ldc, si_ldc2_w, si_lconst0, si_lconst1, si_aconst_null, si_iinc, si_dup, si_dup2, si_iadd, si_isub, si_imul, si_idiv, si_irem, si_iand, si_ior, si_ishl, si_ishr, si_ladd, si_lmul, si_lor, si_lxor, si_lshl, si_lushr, si_lcmp, si_i2b, si_i2l, si_l2i, si_icmp_eq, si_icmp_ne, si_icmp_lt, si_icmp_ge, si_icmp_gt, si_icmp_le, si_if_eq, si_if_ne, si_if_lt, si_if_ge, si_if_gt, si_if_le, si_ifnull, si_ifnonnull, si_goto, si_tableswitch, si_lookupswitch, si_getfield, si_putfield, si_getstatic, si_iaload, si_baload, si_laload, si_aaload, si_iastore, si_bastore, si_lastore, si_aastore, si_arraylength, si_new, si_newarray, si_anewarray, si_invokevirtual, si_invokespecial, si_invokestatic, si_ireturn, si_lreturn, si_areturn, si_return_, pI_e, pL_e, pR_e, pA_r, pA_n, pN_n, pN_r, oI_e, oL_e, oA_r, oA_n, lget_e, lrm1_0, lrm2_0, lrm1_i, lrm1_r, lrm1_n, lrm1_l, lrm2_i, lrm2_r, lrm2_n, lrm2_l, popN_0, popN_s, acat_i, acat_l, acat_r, acat_n, stw_0, stw_s, psh_s, psh_n, wgf_r, wgf_i, wgf_b, wgf_n, wgf_m, wpf_i, wpf_r, wpf_b, wnew_e, callE_e, rbk_0, rbk_1, tsw_0, tsw_s, lsw_0, lsw_s, wp_s, wq_t, wq_f, oV_e, pick_0, pick_s, oZ_e, oY_e, r_Model_refsTo_0, r_Model_refsTo_1, r_Model_refsTo_2, r_Model_refsTo_3, r_Model_refsTo_5, r_Model_refsTo_7, r_Model_refsTo_8, r_Model_refsTo_11, r_Model_refsTo_12, r_Model_refsTo_13, r_Model_refsTo_16, r_Model_refsTo_17, r_Model_refsTo_18, r_Model_refsTo_19, r_Model_refsTo_22, r_Model_refsTo_25, r_Model_refsTo_26, r_Model_refsTo_27, r_Model_refsTo_29, r_Model_refsTo_30, r_Model_refsTo_31, r_Model_refsTo_34, r_Model_refsTo_36, r_Model_refsTo_37, r_Model_refsTo_39, r_Model_refsTo_41, r_Model_refsTo_43, r_Model_refsTo_46, r_Model_refsTo_47, r_Model_refsTo_48, r_Model_refsTo_49, r_Model_refsTo_51, r_Model_refsTo_53, r_Model_refsTo_56, r_Model_refsTo_57, r_Model_refsTo_60, r_Model_refsTo_61, r_Model_refsTo_64, r_Model_refsTo_65, r_Model_refsTo_66, r_Model_refsTo_67, r_Model_refsTo_70, r_Model_refsTo_73, r_Model_refsTo_76, r_Model_refsTo_79, r_Model_refsTo_80, xf_Model_refsTo_47, xf_Model_refsTo_50, xe_Model_refsTo_524, xe_Model_refsTo_700, xd_Model_refsTo, xrb_Model_refsTo, xin_Model_refsTo, T_Model_valuesAt_e, TF_Model_valuesAt, T_Model_target_e, TF_Model_target, mh, mp0, mp2, mp3, mp4, mp5, mp6, mp7, mp8, mp9, mp10, mp11, mp12, mp13, mp14, mp15, mp16, mp17, mp18, mp19, mp20, mp21, mp22, mp24, mp25, mp26, mp27, mq0, mq2, mq3, mq4, mq5, mq6, mq7, mq8, mq9, mq10, mq11, mq12, mq13, mq14, mq15, mq16, mq17, mq18, mq19, mq20, mq21, mq22, mq24, mq25, mq26, mq27, Nat.reduceAdd, Nat.reduceMul, Nat.reduceEqDiff, reduceIte, Int.reduceNeg, Int.reduceLE, Int.reduceLT, Int.reduceAdd, Int.reduceSub, Int.reduceToNat, true_and, and_true, inR_e, Nat.reduceLT, Nat.reduceLeDiff, reduceCtorEq, Nat.add_zero, Nat.zero_add, or_false, false_or, or_true, true_or, not_true_eq_false, not_false_eq_true, Classical.not_not, Nat.add_eq_zero_iff, and_false, false_and, Int.reduceEq, List.mem_cons, List.not_mem_nil, forall_eq_or_imp, forall_eq, false_implies, implies_true, forall_const, aargs_0, aargs_i, aargs_r, aargs_l, aargs_n, nfT_e, eq_self, and_self, Nat.le_refl, fu_s, fu_fu, iu_iu, iu_s, fu_am, fu_a0, fu_0a, iu_l, Nat.reduceBEq, Int.reduceBEq, T_objInit_e]
    clear mp0 mp2 mp3 mp4 mp5 mp6 mp7 mp8 mp9 mp10 mp11 mp12 mp13 mp14 mp15 mp16 mp17 mp18 mp19 mp20 mp21 mp22 mp24 mp25 mp26 mp27
    rw [hJd]
    exact Or.inl ⟨rfl, σ (o + 23), 0, by omega, rfl, by rw [fu_self]⟩
  · intro cp vs M1 hvs hM1 hlen hJ
    rw [hJd] at hJ
    have sR : ∀ i : Nat, i ≤ st 0 7 → 0 ≤ sumZ (fun j => cntZ (fun k => decide (tgt U st j k = x)) (nV U (st 1) (st 2 j)).toNat) i ∧ sumZ (fun j => cntZ (fun k => decide (tgt U st j k = x)) (nV U (st 1) (st 2 j)).toNat) i ≤ i * 1000 := fun i hi => sumZ_R2 i (fun j hj => by
      have nv := (hS.tv (i := (j : Int)) (by omega)).1.1.nv b5
      have := cntZ_R (fun k => decide (tgt U st j k = x)) (nV U (st 1) (st 2 j)).toNat
      omega)
    rcases hJ with ⟨rfl, c, i, hi, rfl, rfl⟩ | ⟨rfl, c, i, j, hj, rfl, rfl⟩
    · have s1 := sR i hi
      (obtain ⟨mh, mp0, mp2, mp3, mp4, mp5, mp6, mp7, mp8, mp9, mp10, mp11, mp12, mp13, mp14, mp15, mp16, mp17, mp18, mp19, mp20, mp21, mp22, mp24, mp25, mp26, mp27, mq0, mq2, mq3, mq4, mq5, mq6, mq7, mq8, mq9, mq10, mq11, mq12, mq13, mq14, mq15, mq16, mq17, mq18, mq19, mq20, mq21, mq22, mq24, mq25, mq26, mq27⟩ := (show LModel lay ρ _ from hL); unfold wps; simp only [Option.getD_some, List.zip_cons_cons, List.zip_nil_left, List.zip_nil_right, List.zip_nil_right, MB_fu, MR_fu, si_iload_n0, si_iload_n1, si_iload_n2, si_iload_n3, si_iload, si_lload_n0, si_lload_n1, si_lload_n2, si_lload_n3, si_lload, si_aload_n0, si_aload_n1, si_aload_n2, si_aload_n3, si_aload, si_istore_n0, si_istore_n1, si_istore_n2, si_istore_n3, si_istore, si_astore_n0, si_astore_n1, si_astore_n2, si_astore_n3, si_astore, si_lstore_n0, si_lstore_n1, si_lstore_n2, si_lstore_n3, si_lstore, si_iconst, si_bipush, si_sipush, si_ldc, si_ldc2_w, si_lconst0, si_lconst1, si_aconst_null, si_iinc, si_dup, si_dup2, si_iadd, si_isub, si_imul, si_idiv, si_irem, si_iand, si_ior, si_ishl, si_ishr, si_ladd, si_lmul, si_lor, si_lxor, si_lshl, si_lushr, si_lcmp, si_i2b, si_i2l, si_l2i, si_icmp_eq, si_icmp_ne, si_icmp_lt, si_icmp_ge, si_icmp_gt, si_icmp_le, si_if_eq, si_if_ne, si_if_lt, si_if_ge, si_if_gt, si_if_le, si_ifnull, si_ifnonnull, si_goto, si_tableswitch, si_lookupswitch, si_getfield, si_putfield, si_getstatic, si_iaload, si_baload, si_laload, si_aaload, si_iastore, si_bastore, si_lastore, si_aastore, si_arraylength, si_new, si_newarray, si_anewarray, si_invokevirtual, si_invokespecial, si_invokestatic, si_ireturn, si_lreturn, si_areturn, si_return_, pI_e, pL_e, pR_e, pA_r, pA_n, pN_n, pN_r, oI_e, oL_e, oA_r, oA_n, lget_e, lrm1_0, lrm2_0, lrm1_i, lrm1_r, lrm1_n, lrm1_l, lrm2_i, lrm2_r, lrm2_n, lrm2_l, popN_0, popN_s, acat_i, acat_l, acat_r, acat_n, stw_0, stw_s, psh_s, psh_n, wgf_r, wgf_i, wgf_b, wgf_n, wgf_m, wpf_i, wpf_r, wpf_b, wnew_e, callE_e, rbk_0, rbk_1, tsw_0, tsw_s, lsw_0, lsw_s, wp_s, wq_t, wq_f, oV_e, pick_0, pick_s, oZ_e, oY_e, r_Model_refsTo_0, r_Model_refsTo_1, r_Model_refsTo_2, r_Model_refsTo_3, r_Model_refsTo_5, r_Model_refsTo_7, r_Model_refsTo_8, r_Model_refsTo_11, r_Model_refsTo_12, r_Model_refsTo_13, r_Model_refsTo_16, r_Model_refsTo_17, r_Model_refsTo_18, r_Model_refsTo_19, r_Model_refsTo_22, r_Model_refsTo_25, r_Model_refsTo_26, r_Model_refsTo_27, r_Model_refsTo_29, r_Model_refsTo_30, r_Model_refsTo_31, r_Model_refsTo_34, r_Model_refsTo_36, r_Model_refsTo_37, r_Model_refsTo_39, r_Model_refsTo_41, r_Model_refsTo_43, r_Model_refsTo_46, r_Model_refsTo_47, r_Model_refsTo_48, r_Model_refsTo_49, r_Model_refsTo_51, r_Model_refsTo_53, r_Model_refsTo_56, r_Model_refsTo_57, r_Model_refsTo_60, r_Model_refsTo_61, r_Model_refsTo_64, r_Model_refsTo_65, r_Model_refsTo_66, r_Model_refsTo_67, r_Model_refsTo_70, r_Model_refsTo_73, r_Model_refsTo_76, r_Model_refsTo_79, r_Model_refsTo_80, xf_Model_refsTo_47, xf_Model_refsTo_50, xe_Model_refsTo_524, xe_Model_refsTo_700, xd_Model_refsTo, xrb_Model_refsTo, xin_Model_refsTo, T_Model_valuesAt_e, TF_Model_valuesAt, T_Model_target_e, TF_Model_target, mh, mp0, mp2, mp3, mp4, mp5, mp6, mp7, mp8, mp9, mp10, mp11, mp12, mp13, mp14, mp15, mp16, mp17, mp18, mp19, mp20, mp21, mp22, mp24, mp25, mp26, mp27, mq0, mq2, mq3, mq4, mq5, mq6, mq7, mq8, mq9, mq10, mq11, mq12, mq13, mq14, mq15, mq16, mq17, mq18, mq19, mq20, mq21, mq22, mq24, mq25, mq26, mq27, Nat.reduceAdd, Nat.reduceMul, Nat.reduceEqDiff, reduceIte, Int.reduceNeg, Int.reduceLE, Int.reduceLT, Int.reduceAdd, Int.reduceSub, Int.reduceToNat, true_and, and_true, inR_e, Nat.reduceLT, Nat.reduceLeDiff, reduceCtorEq, Nat.add_zero, Nat.zero_add, or_false, false_or, or_true, true_or, not_true_eq_false, not_false_eq_true, Classical.not_not, Nat.add_eq_zero_iff, and_false, false_and, Int.reduceEq, List.mem_cons, List.not_mem_nil, forall_eq_or_imp, forall_eq, false_implies, implies_true, forall_const, aargs_0, aargs_i, aargs_r, aargs_l, aargs_n, nfT_e, eq_self, and_self, Nat.le_refl, fu_s, fu_fu, iu_iu, iu_s, fu_am, fu_a0, fu_0a, iu_l, Nat.reduceBEq, Int.reduceBEq, T_objInit_e]; clear mp0 mp2 mp3 mp4 mp5 mp6 mp7 mp8 mp9 mp10 mp11 mp12 mp13 mp14 mp15 mp16 mp17 mp18 mp19 mp20 mp21 mp22 mp24 mp25 mp26 mp27)
      rw [m14]
      refine ⟨by omega, by omega, fun h => ?_, fun h => ?_⟩
      · rw [show i = (st 0 7).toNat by omega]
        exact hT c
      · have tv := hS.tv (i := (i : Int)) (by omega)
        have nv := tv.1.1.nv b5
        rw [m13 i (by omega)]
        refine ⟨by omega, by omega, by omega, by omega, hL, U, len, st 1, hB, tv.1, fun d => ⟨?_, (by rw [hμ]; simp only [gI_e, List.getD_cons_succ, List.getD_cons_zero, Nat.reduceEqDiff, reduceIte]; omega)⟩⟩
        rw [hJd]
        refine Or.inr ⟨rfl, d, i, 0, by omega, ?_, rfl⟩
        rw [show cntZ (fun k => decide (tgt U st i k = x)) 0 = 0 from rfl, Int.add_zero]
        rfl
    · have s1 := sR i (by omega)
      have cR := cntZ_R (fun k => decide (tgt U st i k = x)) j
      have nv := (hS.tv (i := (i : Int)) (by omega)).1.1.nv b5
      (obtain ⟨mh, mp0, mp2, mp3, mp4, mp5, mp6, mp7, mp8, mp9, mp10, mp11, mp12, mp13, mp14, mp15, mp16, mp17, mp18, mp19, mp20, mp21, mp22, mp24, mp25, mp26, mp27, mq0, mq2, mq3, mq4, mq5, mq6, mq7, mq8, mq9, mq10, mq11, mq12, mq13, mq14, mq15, mq16, mq17, mq18, mq19, mq20, mq21, mq22, mq24, mq25, mq26, mq27⟩ := (show LModel lay ρ _ from hL); unfold wps; simp only [Option.getD_some, List.zip_cons_cons, List.zip_nil_left, List.zip_nil_right, List.zip_nil_right, MB_fu, MR_fu, si_iload_n0, si_iload_n1, si_iload_n2, si_iload_n3, si_iload, si_lload_n0, si_lload_n1, si_lload_n2, si_lload_n3, si_lload, si_aload_n0, si_aload_n1, si_aload_n2, si_aload_n3, si_aload, si_istore_n0, si_istore_n1, si_istore_n2, si_istore_n3, si_istore, si_astore_n0, si_astore_n1, si_astore_n2, si_astore_n3, si_astore, si_lstore_n0, si_lstore_n1, si_lstore_n2, si_lstore_n3, si_lstore, si_iconst, si_bipush, si_sipush, si_ldc, si_ldc2_w, si_lconst0, si_lconst1, si_aconst_null, si_iinc, si_dup, si_dup2, si_iadd, si_isub, si_imul, si_idiv, si_irem, si_iand, si_ior, si_ishl, si_ishr, si_ladd, si_lmul, si_lor, si_lxor, si_lshl, si_lushr, si_lcmp, si_i2b, si_i2l, si_l2i, si_icmp_eq, si_icmp_ne, si_icmp_lt, si_icmp_ge, si_icmp_gt, si_icmp_le, si_if_eq, si_if_ne, si_if_lt, si_if_ge, si_if_gt, si_if_le, si_ifnull, si_ifnonnull, si_goto, si_tableswitch, si_lookupswitch, si_getfield, si_putfield, si_getstatic, si_iaload, si_baload, si_laload, si_aaload, si_iastore, si_bastore, si_lastore, si_aastore, si_arraylength, si_new, si_newarray, si_anewarray, si_invokevirtual, si_invokespecial, si_invokestatic, si_ireturn, si_lreturn, si_areturn, si_return_, pI_e, pL_e, pR_e, pA_r, pA_n, pN_n, pN_r, oI_e, oL_e, oA_r, oA_n, lget_e, lrm1_0, lrm2_0, lrm1_i, lrm1_r, lrm1_n, lrm1_l, lrm2_i, lrm2_r, lrm2_n, lrm2_l, popN_0, popN_s, acat_i, acat_l, acat_r, acat_n, stw_0, stw_s, psh_s, psh_n, wgf_r, wgf_i, wgf_b, wgf_n, wgf_m, wpf_i, wpf_r, wpf_b, wnew_e, callE_e, rbk_0, rbk_1, tsw_0, tsw_s, lsw_0, lsw_s, wp_s, wq_t, wq_f, oV_e, pick_0, pick_s, oZ_e, oY_e, r_Model_refsTo_0, r_Model_refsTo_1, r_Model_refsTo_2, r_Model_refsTo_3, r_Model_refsTo_5, r_Model_refsTo_7, r_Model_refsTo_8, r_Model_refsTo_11, r_Model_refsTo_12, r_Model_refsTo_13, r_Model_refsTo_16, r_Model_refsTo_17, r_Model_refsTo_18, r_Model_refsTo_19, r_Model_refsTo_22, r_Model_refsTo_25, r_Model_refsTo_26, r_Model_refsTo_27, r_Model_refsTo_29, r_Model_refsTo_30, r_Model_refsTo_31, r_Model_refsTo_34, r_Model_refsTo_36, r_Model_refsTo_37, r_Model_refsTo_39, r_Model_refsTo_41, r_Model_refsTo_43, r_Model_refsTo_46, r_Model_refsTo_47, r_Model_refsTo_48, r_Model_refsTo_49, r_Model_refsTo_51, r_Model_refsTo_53, r_Model_refsTo_56, r_Model_refsTo_57, r_Model_refsTo_60, r_Model_refsTo_61, r_Model_refsTo_64, r_Model_refsTo_65, r_Model_refsTo_66, r_Model_refsTo_67, r_Model_refsTo_70, r_Model_refsTo_73, r_Model_refsTo_76, r_Model_refsTo_79, r_Model_refsTo_80, xf_Model_refsTo_47, xf_Model_refsTo_50, xe_Model_refsTo_524, xe_Model_refsTo_700, xd_Model_refsTo, xrb_Model_refsTo, xin_Model_refsTo, T_Model_valuesAt_e, TF_Model_valuesAt, T_Model_target_e, TF_Model_target, mh, mp0, mp2, mp3, mp4, mp5, mp6, mp7, mp8, mp9, mp10, mp11, mp12, mp13, mp14, mp15, mp16, mp17, mp18, mp19, mp20, mp21, mp22, mp24, mp25, mp26, mp27, mq0, mq2, mq3, mq4, mq5, mq6, mq7, mq8, mq9, mq10, mq11, mq12, mq13, mq14, mq15, mq16, mq17, mq18, mq19, mq20, mq21, mq22, mq24, mq25, mq26, mq27, Nat.reduceAdd, Nat.reduceMul, Nat.reduceEqDiff, reduceIte, Int.reduceNeg, Int.reduceLE, Int.reduceLT, Int.reduceAdd, Int.reduceSub, Int.reduceToNat, true_and, and_true, inR_e, Nat.reduceLT, Nat.reduceLeDiff, reduceCtorEq, Nat.add_zero, Nat.zero_add, or_false, false_or, or_true, true_or, not_true_eq_false, not_false_eq_true, Classical.not_not, Nat.add_eq_zero_iff, and_false, false_and, Int.reduceEq, List.mem_cons, List.not_mem_nil, forall_eq_or_imp, forall_eq, false_implies, implies_true, forall_const, aargs_0, aargs_i, aargs_r, aargs_l, aargs_n, nfT_e, eq_self, and_self, Nat.le_refl, fu_s, fu_fu, iu_iu, iu_s, fu_am, fu_a0, fu_0a, iu_l, Nat.reduceBEq, Int.reduceBEq, T_objInit_e]; clear mp0 mp2 mp3 mp4 mp5 mp6 mp7 mp8 mp9 mp10 mp11 mp12 mp13 mp14 mp15 mp16 mp17 mp18 mp19 mp20 mp21 mp22 mp24 mp25 mp26 mp27)
      refine ⟨fun h => ⟨by omega, ?_, (by rw [hμ]; simp only [gI_e, List.getD_cons_succ, List.getD_cons_zero, Nat.reduceEqDiff, reduceIte]; omega)⟩, fun h => ⟨hL, U, len, st, hS, hR, by omega, by omega, fun d => ⟨fun a => ⟨by omega, by omega, ?_, (by rw [hμ]; simp only [gI_e, List.getD_cons_succ, List.getD_cons_zero, Nat.reduceEqDiff, reduceIte]; omega)⟩, fun a => ⟨by omega, by omega, ?_, (by rw [hμ]; simp only [gI_e, List.getD_cons_succ, List.getD_cons_zero, Nat.reduceEqDiff, reduceIte]; omega)⟩⟩⟩⟩
      · rw [hJd]
        refine Or.inl ⟨rfl, c, i + 1, by omega, ?_, rfl⟩
        rw [show j = (nV U (st 1) (st 2 i)).toNat by omega]
        rfl
      · rw [hJd]
        refine Or.inr ⟨rfl, d, i, j + 1, by omega, ?_, rfl⟩
        rw [cntZ_f (by rw [decide_eq_true_eq]; exact a), Int.add_zero]
        rfl
      · rw [hJd]
        refine Or.inr ⟨rfl, d, i, j + 1, by omega, ?_, rfl⟩
        rw [cntZ_t (by rw [decide_eq_true_eq]; exact a), Int.add_assoc]
        rfl

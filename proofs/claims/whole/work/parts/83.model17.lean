def TF_Model_livingPlace (o : Nat) (p : Int) (x : Int) (sz sl : Nat) (lay : Nat → Nat × Int) (ρ : Nat → Int → Nat) (σ : Nat → Int → Int) (τ : Nat → Int → Int64) (k : Option AV → Mm → Prop) : Prop := LModel lay ρ o ∧ ∃ (U : Int → Int) (len : Int) (st : Nat → Int → Int), MdP σ o p U len st ∧ (0 ≤ p ∧ p < 3 → (fn U st x = -1 → k (some (vI (-1))) (sz, sl, lay, ρ, σ, τ)) ∧ (0 ≤ fn U st x → ∀ σ2 : Nat → Int → Int, LF σ σ2 o (o + 18) → (∀ x, 0 ≤ x ∧ x < st 0 7 → (σ2 (o + 18) x = 0 ∨ σ2 (o + 18) x = 1) ∧ (σ2 (o + 18) x = 1 ↔ lvP U st x)) → (lvP U st (fn U st x) → k (some (vI (fn U st x))) (sz, sl, lay, ρ, σ2, τ)) ∧ (¬ lvP U st (fn U st x) → k (some (vI (-1))) (sz, sl, lay, ρ, σ2, τ)))) ∧ (¬ (0 ≤ p ∧ p < 3) → k (some (vI (-1))) (sz, sl, lay, ρ, σ, τ))
def T_Model_livingPlace : Tr := mkT 11 fun o as M k => pI as fun p as => pI as fun x as => as = [] ∧ TF_Model_livingPlace o p x M.1 M.2.1 M.2.2.1 M.2.2.2.1 M.2.2.2.2.1 M.2.2.2.2.2 k
theorem T_Model_livingPlace_e {o : Nat} {p : Int} {x : Int} {sz sl : Nat} {lay : Nat → Nat × Int} {ρ : Nat → Int → Nat} {σ : Nat → Int → Int} {τ : Nat → Int → Int64} {k : Option AV → Mm → Prop} : T_Model_livingPlace [vR o, vI p, vI x] (sz, sl, lay, ρ, σ, τ) k = (lay o = (21, 0) ∧ TF_Model_livingPlace o p x sz sl lay ρ σ τ k) := by simp [T_Model_livingPlace, mkT_e, pI_e, pR_e, pL_e]
theorem T_Model_livingPlace_r (as : List AV) (M : Mm) (k : Option AV → Mm → Prop) (h : T_Model_livingPlace as M k) : ∃ b As, as = vR b :: As ∧ M.2.2.1 b = (10 + 11, 0) := by
  obtain ⟨b, As, h1, h2, -⟩ := mkT_r h
  exact ⟨b, As, h1, h2⟩
def tb_Model_livingPlace : List (Nat × Option (List Nat) × Instr × List Nat) := [(0, none, .iload_n 1, []), (1, none, .invokestatic 161, []), (4, none, .ifCond .eq 12, [16]), (7, none, .aload_n 0, []), (8, none, .iload_n 1, []), (9, none, .iload_n 2, []), (10, none, .invokevirtual 152, []), (13, none, .goto 4, [17]), (16, none, .iconst (-1), []), (17, none, .istore_n 3, []), (18, none, .iload_n 3, []), (19, none, .ifCond .ge 5, [24]), (22, none, .iconst (-1), []), (23, none, .ireturn, []), (24, none, .aload_n 0, []), (25, none, .iload_n 1, []), (26, none, .iconst (-1), []), (27, none, .aload_n 0, []), (28, none, .getfield 62, []), (31, none, .iconst 0, []), (32, none, .invokevirtual 178, []), (35, none, .aload_n 0, []), (36, none, .getfield 62, []), (39, none, .iload_n 3, []), (40, none, .baload, []), (41, none, .ifCond .eq 7, [48]), (44, none, .iload_n 3, []), (45, none, .goto 4, [49]), (48, none, .iconst (-1), []), (49, none, .ireturn, [])]
def P_Model_livingPlace : Nat → Option (List Nat) × Instr × List Nat := plk tb_Model_livingPlace
theorem r_Model_livingPlace_0 : P_Model_livingPlace 0 = (none, .iload_n 1, []) := by decide +kernel
theorem r_Model_livingPlace_1 : P_Model_livingPlace 1 = (none, .invokestatic 161, []) := by decide +kernel
theorem r_Model_livingPlace_4 : P_Model_livingPlace 4 = (none, .ifCond .eq 12, [16]) := by decide +kernel
theorem r_Model_livingPlace_7 : P_Model_livingPlace 7 = (none, .aload_n 0, []) := by decide +kernel
theorem r_Model_livingPlace_8 : P_Model_livingPlace 8 = (none, .iload_n 1, []) := by decide +kernel
theorem r_Model_livingPlace_9 : P_Model_livingPlace 9 = (none, .iload_n 2, []) := by decide +kernel
theorem r_Model_livingPlace_10 : P_Model_livingPlace 10 = (none, .invokevirtual 152, []) := by decide +kernel
theorem r_Model_livingPlace_13 : P_Model_livingPlace 13 = (none, .goto 4, [17]) := by decide +kernel
theorem r_Model_livingPlace_16 : P_Model_livingPlace 16 = (none, .iconst (-1), []) := by decide +kernel
theorem r_Model_livingPlace_17 : P_Model_livingPlace 17 = (none, .istore_n 3, []) := by decide +kernel
theorem r_Model_livingPlace_18 : P_Model_livingPlace 18 = (none, .iload_n 3, []) := by decide +kernel
theorem r_Model_livingPlace_19 : P_Model_livingPlace 19 = (none, .ifCond .ge 5, [24]) := by decide +kernel
theorem r_Model_livingPlace_22 : P_Model_livingPlace 22 = (none, .iconst (-1), []) := by decide +kernel
theorem r_Model_livingPlace_23 : P_Model_livingPlace 23 = (none, .ireturn, []) := by decide +kernel
theorem r_Model_livingPlace_24 : P_Model_livingPlace 24 = (none, .aload_n 0, []) := by decide +kernel
theorem r_Model_livingPlace_25 : P_Model_livingPlace 25 = (none, .iload_n 1, []) := by decide +kernel
theorem r_Model_livingPlace_26 : P_Model_livingPlace 26 = (none, .iconst (-1), []) := by decide +kernel
theorem r_Model_livingPlace_27 : P_Model_livingPlace 27 = (none, .aload_n 0, []) := by decide +kernel
theorem r_Model_livingPlace_28 : P_Model_livingPlace 28 = (none, .getfield 62, []) := by decide +kernel
theorem r_Model_livingPlace_31 : P_Model_livingPlace 31 = (none, .iconst 0, []) := by decide +kernel
theorem r_Model_livingPlace_32 : P_Model_livingPlace 32 = (none, .invokevirtual 178, []) := by decide +kernel
theorem r_Model_livingPlace_35 : P_Model_livingPlace 35 = (none, .aload_n 0, []) := by decide +kernel
theorem r_Model_livingPlace_36 : P_Model_livingPlace 36 = (none, .getfield 62, []) := by decide +kernel
theorem r_Model_livingPlace_39 : P_Model_livingPlace 39 = (none, .iload_n 3, []) := by decide +kernel
theorem r_Model_livingPlace_40 : P_Model_livingPlace 40 = (none, .baload, []) := by decide +kernel
theorem r_Model_livingPlace_41 : P_Model_livingPlace 41 = (none, .ifCond .eq 7, [48]) := by decide +kernel
theorem r_Model_livingPlace_44 : P_Model_livingPlace 44 = (none, .iload_n 3, []) := by decide +kernel
theorem r_Model_livingPlace_45 : P_Model_livingPlace 45 = (none, .goto 4, [49]) := by decide +kernel
theorem r_Model_livingPlace_48 : P_Model_livingPlace 48 = (none, .iconst (-1), []) := by decide +kernel
theorem r_Model_livingPlace_49 : P_Model_livingPlace 49 = (none, .ireturn, []) := by decide +kernel
def E_Model_livingPlace : List (Nat × Ent) := [(646, (1, 0, 0, 0, T_Model_isPicture)), (608, (3, 0, 0, 0, T_Model_find)), (712, (5, 7, 0, 0, T_Model_live))]
def X_Model_livingPlace : Cx := (llk (0, 0, 9) ftX11, llk 99 ntX11, llk none kcX11, llk none klX11, llk dEnt E_Model_livingPlace, 8, 0, false)
theorem xok_Model_livingPlace : Xok RX11 X_Model_livingPlace := xok_of ftX11_ok ntX11_ok kcX11_ok klX11_ok (E := E_Model_livingPlace) (List.forall_mem_cons.mpr ⟨co_X11_646, List.forall_mem_cons.mpr ⟨co_X11_608, List.forall_mem_cons.mpr ⟨co_X11_712, fun _ h => absurd h List.not_mem_nil⟩⟩⟩)
theorem xf_Model_livingPlace_62 : xfl X_Model_livingPlace 62 = (11, 18, 1) := by decide +kernel
theorem xe_Model_livingPlace_646 : xE X_Model_livingPlace (4 * 161 + 2) = (1, 0, 0, 0, T_Model_isPicture) := rfl
theorem xe_Model_livingPlace_608 : xE X_Model_livingPlace (4 * 152 + 0) = (3, 0, 0, 0, T_Model_find) := rfl
theorem xe_Model_livingPlace_712 : xE X_Model_livingPlace (4 * 178 + 0) = (5, 7, 0, 0, T_Model_live) := rfl
theorem xd_Model_livingPlace : xd X_Model_livingPlace = 8 := rfl
theorem xrb_Model_livingPlace : xrb X_Model_livingPlace = 0 := rfl
theorem xin_Model_livingPlace : xin X_Model_livingPlace = false := rfl
set_option maxHeartbeats 4000000 in
set_option maxRecDepth 100000 in
theorem S_Model_livingPlace : Snd yX11_livingPlace cX11_livingPlace 4 (some .int) T_Model_livingPlace 8 0 0 := by
  refine snd_of (X := X_Model_livingPlace) (P := P_Model_livingPlace) (tb := tb_Model_livingPlace) (own := RX11) (by decide) rfl rfl (by decide +kernel) xok_Model_livingPlace rfl rk0 (fun h => by first | rfl | cases h) ?_
  intro as M k has hM hT0
  obtain ⟨sz, sl, lay, ρ, σ, τ⟩ := M
  obtain ⟨o, as1, e, hlo, hT1⟩ := mkT_r hT0
  clear hT0
  subst e
  obtain ⟨p, as2, e, hT2⟩ := pI_x hT1
  clear hT1
  subst e
  obtain ⟨x, as3, e, hT3⟩ := pI_x hT2
  clear hT2
  subst e
  obtain ⟨e, hT⟩ := hT3
  subst e
  replace hlo : lay o = (21, 0) := hlo
  have r_p : -2147483648 ≤ p ∧ p ≤ 2147483647 := has (vI p) (by simp)
  have r_x : -2147483648 ≤ x ∧ x ≤ 2147483647 := has (vI x) (by simp)
  clear has
  replace hM : ∀ a i, -2147483648 ≤ σ a i ∧ σ a i ≤ 2147483647 := hM
  replace hT : TF_Model_livingPlace o p x sz sl lay ρ σ τ k := hT
  unfold TF_Model_livingPlace at hT
  obtain ⟨hL, U, len, st, hMP, h1, h0⟩ := hT
  refine ⟨Nat.le_of_ble_eq_true rfl, fun _ _ _ => False, fun _ _ _ => 0, 38, ?_, fun _ _ _ _ _ _ h => h.elim⟩
  by_cases hp : 0 ≤ p ∧ p < 3
  · have hpE : (0 ≤ p ∧ p < 3) = True := eq_true hp
    replace h1 := h1 hp
    obtain ⟨hS, hR⟩ := hMP hp
    obtain ⟨hB, hl3, ⟨m4, m5, m6⟩, ⟨m7, m8, m9⟩, m12, ⟨m14, m13⟩, m15, ⟨m17, m16⟩, m26⟩ := (show MR σ o p U len st from hR)
    obtain ⟨b1, b2, b3, b4, b5, b6, b7⟩ := (show MB σ o p U len (st 1) from hB)
    obtain ⟨w0, w1, w2, w3, w4, w5, w6, w7, w8, w9, w10, w11, w12, w13, w14⟩ := (show SW U len st from hS)
    (obtain ⟨mh, mp0, mp2, mp3, mp4, mp5, mp6, mp7, mp8, mp9, mp10, mp11, mp12, mp13, mp14, mp15, mp16, mp17, mp18, mp19, mp20, mp21, mp22, mp24, mp25, mp26, mp27, mq0, mq2, mq3, mq4, mq5, mq6, mq7, mq8, mq9, mq10, mq11, mq12, mq13, mq14, mq15, mq16, mq17, mq18, mq19, mq20, mq21, mq22, mq24, mq25, mq26, mq27⟩ := (show LModel lay ρ _ from hL); unfold wps; simp only [hpE, find_e hL hS hR, si_iload_n0, si_iload_n1, si_iload_n2, si_iload_n3, si_iload, si_lload_n0, si_lload_n1, si_lload_n2, si_lload_n3, si_lload, si_aload_n0, si_aload_n1, si_aload_n2, si_aload_n3, si_aload, si_istore_n0, si_istore_n1, si_istore_n2, si_istore_n3, si_istore, si_astore_n0, si_astore_n1, si_astore_n2, si_astore_n3, si_astore, si_lstore_n0, si_lstore_n1, si_lstore_n2, si_lstore_n3, si_lstore, si_iconst, si_bipush, si_sipush, si_ldc, si_ldc2_w, si_lconst0, si_lconst1, si_aconst_null, si_iinc, si_dup, si_dup2, si_iadd, si_isub, si_imul, si_idiv, si_irem, si_iand, si_ior, si_ishl, si_ishr, si_ladd, si_lmul, si_lor, si_lxor, si_lshl, si_lushr, si_lcmp, si_i2b, si_i2l, si_l2i, si_icmp_eq, si_icmp_ne, si_icmp_lt, si_icmp_ge, si_icmp_gt, si_icmp_le, si_if_eq, si_if_ne, si_if_lt, si_if_ge, si_if_gt, si_if_le, si_ifnull, si_ifnonnull, si_goto, si_tableswitch, si_lookupswitch, si_getfield, si_putfield, si_getstatic, si_iaload, si_baload, si_laload, si_aaload, si_iastore, si_bastore, si_lastore, si_aastore, si_arraylength, si_new, si_newarray, si_anewarray, si_invokevirtual, si_invokespecial, si_invokestatic, si_ireturn, si_lreturn, si_areturn, si_return_, pI_e, pL_e, pR_e, pA_r, pA_n, pN_n, pN_r, oI_e, oL_e, oA_r, oA_n, lget_e, lrm1_0, lrm2_0, lrm1_i, lrm1_r, lrm1_n, lrm1_l, lrm2_i, lrm2_r, lrm2_n, lrm2_l, popN_0, popN_s, acat_i, acat_l, acat_r, acat_n, stw_0, stw_s, psh_s, psh_n, wgf_r, wgf_i, wgf_b, wgf_n, wgf_m, wpf_i, wpf_r, wpf_b, wnew_e, callE_e, rbk_0, rbk_1, tsw_0, tsw_s, lsw_0, lsw_s, wp_s, wq_t, wq_f, oV_e, pick_0, pick_s, oZ_e, oY_e, r_Model_livingPlace_0, r_Model_livingPlace_1, r_Model_livingPlace_4, r_Model_livingPlace_7, r_Model_livingPlace_8, r_Model_livingPlace_9, r_Model_livingPlace_10, r_Model_livingPlace_13, r_Model_livingPlace_16, r_Model_livingPlace_17, r_Model_livingPlace_18, r_Model_livingPlace_19, r_Model_livingPlace_22, r_Model_livingPlace_23, r_Model_livingPlace_24, r_Model_livingPlace_25, r_Model_livingPlace_26, r_Model_livingPlace_27, r_Model_livingPlace_28, r_Model_livingPlace_31, r_Model_livingPlace_32, r_Model_livingPlace_35, r_Model_livingPlace_36, r_Model_livingPlace_39, r_Model_livingPlace_40, r_Model_livingPlace_41, r_Model_livingPlace_44, r_Model_livingPlace_45, r_Model_livingPlace_48, r_Model_livingPlace_49, xf_Model_livingPlace_62, xe_Model_livingPlace_646, xe_Model_livingPlace_608, xe_Model_livingPlace_712, xd_Model_livingPlace, xrb_Model_livingPlace, xin_Model_livingPlace, T_Model_isPicture_e, TF_Model_isPicture, T_Model_find_e, T_Model_live_e, TF_Model_live, mh, mp0, mp2, mp3, mp4, mp5, mp6, mp7, mp8, mp9, mp10, mp11, mp12, mp13, mp14, mp15, mp16, mp17, mp18, mp19, mp20, mp21, mp22, mp24, mp25, mp26, mp27, mq0, mq2, mq3, mq4, mq5, mq6, mq7, mq8, mq9, mq10, mq11, mq12, mq13, mq14, mq15, mq16, mq17, mq18, mq19, mq20, mq21, mq22, mq24, mq25, mq26, mq27, Nat.reduceAdd, Nat.reduceMul, Nat.reduceEqDiff, reduceIte, Int.reduceNeg, Int.reduceLE, Int.reduceLT, Int.reduceAdd, Int.reduceSub, Int.reduceToNat, true_and, and_true, inR_e, Nat.reduceLT, Nat.reduceLeDiff, reduceCtorEq, Nat.add_zero, Nat.zero_add, or_false, false_or, or_true, true_or, not_true_eq_false, not_false_eq_true, Classical.not_not, Nat.add_eq_zero_iff, and_false, false_and, Int.reduceEq, List.mem_cons, List.not_mem_nil, forall_eq_or_imp, forall_eq, false_implies, implies_true, forall_const, aargs_0, aargs_i, aargs_r, aargs_l, aargs_n, nfT_e, eq_self, and_self, Nat.le_refl, fu_s, fu_fu, iu_iu, iu_s, fu_am, fu_a0, fu_0a, iu_l, Nat.reduceBEq, Int.reduceBEq, T_objInit_e]; clear mp0 mp2 mp3 mp4 mp5 mp6 mp7 mp8 mp9 mp10 mp11 mp12 mp13 mp14 mp15 mp16 mp17 mp18 mp19 mp20 mp21 mp22 mp24 mp25 mp26 mp27)
    have fR := hS.fnR x
    refine ⟨fun a => ⟨hL, U, len, st, hS, hR, fun σ2 f1 f2 => ⟨by omega, by omega, fun z => ?_, fun z => ?_⟩⟩, fun a => h1.1 (by omega)⟩
    · exact (h1.2 a σ2 f1 f2).2 (fun q => by have := (f2 (fn U st x) (by omega)).2.mpr q; omega)
    · refine (h1.2 a σ2 f1 f2).1 ?_
      rcases (f2 (fn U st x) (by omega)).1 with q | q
      · exact absurd q z
      · exact (f2 (fn U st x) (by omega)).2.mp q
  · have hpE : (0 ≤ p ∧ p < 3) = False := eq_false hp
    (obtain ⟨mh, mp0, mp2, mp3, mp4, mp5, mp6, mp7, mp8, mp9, mp10, mp11, mp12, mp13, mp14, mp15, mp16, mp17, mp18, mp19, mp20, mp21, mp22, mp24, mp25, mp26, mp27, mq0, mq2, mq3, mq4, mq5, mq6, mq7, mq8, mq9, mq10, mq11, mq12, mq13, mq14, mq15, mq16, mq17, mq18, mq19, mq20, mq21, mq22, mq24, mq25, mq26, mq27⟩ := (show LModel lay ρ _ from hL); unfold wps; simp only [hpE, si_iload_n0, si_iload_n1, si_iload_n2, si_iload_n3, si_iload, si_lload_n0, si_lload_n1, si_lload_n2, si_lload_n3, si_lload, si_aload_n0, si_aload_n1, si_aload_n2, si_aload_n3, si_aload, si_istore_n0, si_istore_n1, si_istore_n2, si_istore_n3, si_istore, si_astore_n0, si_astore_n1, si_astore_n2, si_astore_n3, si_astore, si_lstore_n0, si_lstore_n1, si_lstore_n2, si_lstore_n3, si_lstore, si_iconst, si_bipush, si_sipush, si_ldc, si_ldc2_w, si_lconst0, si_lconst1, si_aconst_null, si_iinc, si_dup, si_dup2, si_iadd, si_isub, si_imul, si_idiv, si_irem, si_iand, si_ior, si_ishl, si_ishr, si_ladd, si_lmul, si_lor, si_lxor, si_lshl, si_lushr, si_lcmp, si_i2b, si_i2l, si_l2i, si_icmp_eq, si_icmp_ne, si_icmp_lt, si_icmp_ge, si_icmp_gt, si_icmp_le, si_if_eq, si_if_ne, si_if_lt, si_if_ge, si_if_gt, si_if_le, si_ifnull, si_ifnonnull, si_goto, si_tableswitch, si_lookupswitch, si_getfield, si_putfield, si_getstatic, si_iaload, si_baload, si_laload, si_aaload, si_iastore, si_bastore, si_lastore, si_aastore, si_arraylength, si_new, si_newarray, si_anewarray, si_invokevirtual, si_invokespecial, si_invokestatic, si_ireturn, si_lreturn, si_areturn, si_return_, pI_e, pL_e, pR_e, pA_r, pA_n, pN_n, pN_r, oI_e, oL_e, oA_r, oA_n, lget_e, lrm1_0, lrm2_0, lrm1_i, lrm1_r, lrm1_n, lrm1_l, lrm2_i, lrm2_r, lrm2_n, lrm2_l, popN_0, popN_s, acat_i, acat_l, acat_r, acat_n, stw_0, stw_s, psh_s, psh_n, wgf_r, wgf_i, wgf_b, wgf_n, wgf_m, wpf_i, wpf_r, wpf_b, wnew_e, callE_e, rbk_0, rbk_1, tsw_0, tsw_s, lsw_0, lsw_s, wp_s, wq_t, wq_f, oV_e, pick_0, pick_s, oZ_e, oY_e, r_Model_livingPlace_0, r_Model_livingPlace_1, r_Model_livingPlace_4, r_Model_livingPlace_7, r_Model_livingPlace_8, r_Model_livingPlace_9, r_Model_livingPlace_10, r_Model_livingPlace_13, r_Model_livingPlace_16, r_Model_livingPlace_17, r_Model_livingPlace_18, r_Model_livingPlace_19, r_Model_livingPlace_22, r_Model_livingPlace_23, r_Model_livingPlace_24, r_Model_livingPlace_25, r_Model_livingPlace_26, r_Model_livingPlace_27, r_Model_livingPlace_28, r_Model_livingPlace_31, r_Model_livingPlace_32, r_Model_livingPlace_35, r_Model_livingPlace_36, r_Model_livingPlace_39, r_Model_livingPlace_40, r_Model_livingPlace_41, r_Model_livingPlace_44, r_Model_livingPlace_45, r_Model_livingPlace_48, r_Model_livingPlace_49, xf_Model_livingPlace_62, xe_Model_livingPlace_646, xe_Model_livingPlace_608, xe_Model_livingPlace_712, xd_Model_livingPlace, xrb_Model_livingPlace, xin_Model_livingPlace, T_Model_isPicture_e, TF_Model_isPicture, T_Model_find_e, T_Model_live_e, TF_Model_live, mh, mp0, mp2, mp3, mp4, mp5, mp6, mp7, mp8, mp9, mp10, mp11, mp12, mp13, mp14, mp15, mp16, mp17, mp18, mp19, mp20, mp21, mp22, mp24, mp25, mp26, mp27, mq0, mq2, mq3, mq4, mq5, mq6, mq7, mq8, mq9, mq10, mq11, mq12, mq13, mq14, mq15, mq16, mq17, mq18, mq19, mq20, mq21, mq22, mq24, mq25, mq26, mq27, Nat.reduceAdd, Nat.reduceMul, Nat.reduceEqDiff, reduceIte, Int.reduceNeg, Int.reduceLE, Int.reduceLT, Int.reduceAdd, Int.reduceSub, Int.reduceToNat, true_and, and_true, inR_e, Nat.reduceLT, Nat.reduceLeDiff, reduceCtorEq, Nat.add_zero, Nat.zero_add, or_false, false_or, or_true, true_or, not_true_eq_false, not_false_eq_true, Classical.not_not, Nat.add_eq_zero_iff, and_false, false_and, Int.reduceEq, List.mem_cons, List.not_mem_nil, forall_eq_or_imp, forall_eq, false_implies, implies_true, forall_const, aargs_0, aargs_i, aargs_r, aargs_l, aargs_n, nfT_e, eq_self, and_self, Nat.le_refl, fu_s, fu_fu, iu_iu, iu_s, fu_am, fu_a0, fu_0a, iu_l, Nat.reduceBEq, Int.reduceBEq, T_objInit_e]; clear mp0 mp2 mp3 mp4 mp5 mp6 mp7 mp8 mp9 mp10 mp11 mp12 mp13 mp14 mp15 mp16 mp17 mp18 mp19 mp20 mp21 mp22 mp24 mp25 mp26 mp27)
    exact h0 hp
theorem co_X11_740 : CallOK RX11 (.invokevirtual 185) (3, 8, 0, 0, T_Model_livingPlace) := call_V S_Model_livingPlace (by decide) (ci := 11) rfl (by decide +kernel) (by decide +kernel) (by decide +kernel) (by decide +kernel) (by decide +kernel) (by decide +kernel) T_Model_livingPlace_r
def TF_Model_alive (o : Nat) (p : Int) (x : Int) (sz sl : Nat) (lay : Nat → Nat × Int) (ρ : Nat → Int → Nat) (σ : Nat → Int → Int) (τ : Nat → Int → Int64) (k : Option AV → Mm → Prop) : Prop := LModel lay ρ o ∧ ∃ (U : Int → Int) (len : Int) (st : Nat → Int → Int), MdP σ o p U len st ∧ (0 ≤ p ∧ p < 3 → (fn U st x = -1 → k (some (vI (-1))) (sz, sl, lay, ρ, σ, τ)) ∧ (0 ≤ fn U st x → ∀ σ2 : Nat → Int → Int, QF σ σ2 o → (lvP U st (fn U st x) → k (some (vI (1))) (sz, sl, lay, ρ, σ2, τ)) ∧ (¬ lvP U st (fn U st x) → k (some (vI (0))) (sz, sl, lay, ρ, σ2, τ)))) ∧ (¬ (0 ≤ p ∧ p < 3) → k (some (vI (-1))) (sz, sl, lay, ρ, σ, τ))
def T_Model_alive : Tr := mkT 11 fun o as M k => pI as fun p as => pI as fun x as => as = [] ∧ TF_Model_alive o p x M.1 M.2.1 M.2.2.1 M.2.2.2.1 M.2.2.2.2.1 M.2.2.2.2.2 k
theorem T_Model_alive_e {o : Nat} {p : Int} {x : Int} {sz sl : Nat} {lay : Nat → Nat × Int} {ρ : Nat → Int → Nat} {σ : Nat → Int → Int} {τ : Nat → Int → Int64} {k : Option AV → Mm → Prop} : T_Model_alive [vR o, vI p, vI x] (sz, sl, lay, ρ, σ, τ) k = (lay o = (21, 0) ∧ TF_Model_alive o p x sz sl lay ρ σ τ k) := by simp [T_Model_alive, mkT_e, pI_e, pR_e, pL_e]
theorem T_Model_alive_r (as : List AV) (M : Mm) (k : Option AV → Mm → Prop) (h : T_Model_alive as M k) : ∃ b As, as = vR b :: As ∧ M.2.2.1 b = (10 + 11, 0) := by
  obtain ⟨b, As, h1, h2, -⟩ := mkT_r h
  exact ⟨b, As, h1, h2⟩
def tb_Model_alive : List (Nat × Option (List Nat) × Instr × List Nat) := [(0, none, .iload_n 1, []), (1, none, .invokestatic 161, []), (4, none, .ifCond .eq 12, [16]), (7, none, .aload_n 0, []), (8, none, .iload_n 1, []), (9, none, .iload_n 2, []), (10, none, .invokevirtual 152, []), (13, none, .ifCond .ge 5, [18]), (16, none, .iconst (-1), []), (17, none, .ireturn, []), (18, none, .aload_n 0, []), (19, none, .iload_n 1, []), (20, none, .iload_n 2, []), (21, none, .invokevirtual 185, []), (24, none, .ifCond .lt 7, [31]), (27, none, .iconst 1, []), (28, none, .goto 4, [32]), (31, none, .iconst 0, []), (32, none, .ireturn, [])]
def P_Model_alive : Nat → Option (List Nat) × Instr × List Nat := plk tb_Model_alive
theorem r_Model_alive_0 : P_Model_alive 0 = (none, .iload_n 1, []) := by decide +kernel
theorem r_Model_alive_1 : P_Model_alive 1 = (none, .invokestatic 161, []) := by decide +kernel
theorem r_Model_alive_4 : P_Model_alive 4 = (none, .ifCond .eq 12, [16]) := by decide +kernel
theorem r_Model_alive_7 : P_Model_alive 7 = (none, .aload_n 0, []) := by decide +kernel
theorem r_Model_alive_8 : P_Model_alive 8 = (none, .iload_n 1, []) := by decide +kernel
theorem r_Model_alive_9 : P_Model_alive 9 = (none, .iload_n 2, []) := by decide +kernel
theorem r_Model_alive_10 : P_Model_alive 10 = (none, .invokevirtual 152, []) := by decide +kernel
theorem r_Model_alive_13 : P_Model_alive 13 = (none, .ifCond .ge 5, [18]) := by decide +kernel
theorem r_Model_alive_16 : P_Model_alive 16 = (none, .iconst (-1), []) := by decide +kernel
theorem r_Model_alive_17 : P_Model_alive 17 = (none, .ireturn, []) := by decide +kernel
theorem r_Model_alive_18 : P_Model_alive 18 = (none, .aload_n 0, []) := by decide +kernel
theorem r_Model_alive_19 : P_Model_alive 19 = (none, .iload_n 1, []) := by decide +kernel
theorem r_Model_alive_20 : P_Model_alive 20 = (none, .iload_n 2, []) := by decide +kernel
theorem r_Model_alive_21 : P_Model_alive 21 = (none, .invokevirtual 185, []) := by decide +kernel
theorem r_Model_alive_24 : P_Model_alive 24 = (none, .ifCond .lt 7, [31]) := by decide +kernel
theorem r_Model_alive_27 : P_Model_alive 27 = (none, .iconst 1, []) := by decide +kernel
theorem r_Model_alive_28 : P_Model_alive 28 = (none, .goto 4, [32]) := by decide +kernel
theorem r_Model_alive_31 : P_Model_alive 31 = (none, .iconst 0, []) := by decide +kernel
theorem r_Model_alive_32 : P_Model_alive 32 = (none, .ireturn, []) := by decide +kernel
def E_Model_alive : List (Nat × Ent) := [(646, (1, 0, 0, 0, T_Model_isPicture)), (608, (3, 0, 0, 0, T_Model_find)), (740, (3, 8, 0, 0, T_Model_livingPlace))]
def X_Model_alive : Cx := (llk (0, 0, 9) ftX11, llk 99 ntX11, llk none kcX11, llk none klX11, llk dEnt E_Model_alive, 9, 0, false)
theorem xok_Model_alive : Xok RX11 X_Model_alive := xok_of ftX11_ok ntX11_ok kcX11_ok klX11_ok (E := E_Model_alive) (List.forall_mem_cons.mpr ⟨co_X11_646, List.forall_mem_cons.mpr ⟨co_X11_608, List.forall_mem_cons.mpr ⟨co_X11_740, fun _ h => absurd h List.not_mem_nil⟩⟩⟩)
theorem xe_Model_alive_646 : xE X_Model_alive (4 * 161 + 2) = (1, 0, 0, 0, T_Model_isPicture) := rfl
theorem xe_Model_alive_608 : xE X_Model_alive (4 * 152 + 0) = (3, 0, 0, 0, T_Model_find) := rfl
theorem xe_Model_alive_740 : xE X_Model_alive (4 * 185 + 0) = (3, 8, 0, 0, T_Model_livingPlace) := rfl
theorem xd_Model_alive : xd X_Model_alive = 9 := rfl
theorem xrb_Model_alive : xrb X_Model_alive = 0 := rfl
theorem xin_Model_alive : xin X_Model_alive = false := rfl
set_option maxHeartbeats 4000000 in
set_option maxRecDepth 100000 in
theorem S_Model_alive : Snd yX11_alive cX11_alive 3 (some .int) T_Model_alive 9 0 0 := by
  refine snd_of (X := X_Model_alive) (P := P_Model_alive) (tb := tb_Model_alive) (own := RX11) (by decide) rfl rfl (by decide +kernel) xok_Model_alive rfl rk0 (fun h => by first | rfl | cases h) ?_
  intro as M k has hM hT0
  obtain ⟨sz, sl, lay, ρ, σ, τ⟩ := M
  obtain ⟨o, as1, e, hlo, hT1⟩ := mkT_r hT0
  clear hT0
  subst e
  obtain ⟨p, as2, e, hT2⟩ := pI_x hT1
  clear hT1
  subst e
  obtain ⟨x, as3, e, hT3⟩ := pI_x hT2
  clear hT2
  subst e
  obtain ⟨e, hT⟩ := hT3
  subst e
  replace hlo : lay o = (21, 0) := hlo
  have r_p : -2147483648 ≤ p ∧ p ≤ 2147483647 := has (vI p) (by simp)
  have r_x : -2147483648 ≤ x ∧ x ≤ 2147483647 := has (vI x) (by simp)
  clear has
  replace hM : ∀ a i, -2147483648 ≤ σ a i ∧ σ a i ≤ 2147483647 := hM
  replace hT : TF_Model_alive o p x sz sl lay ρ σ τ k := hT
  unfold TF_Model_alive at hT
  obtain ⟨hL, U, len, st, hMP, h1, h0⟩ := hT
  refine ⟨Nat.le_of_ble_eq_true rfl, fun _ _ _ => False, fun _ _ _ => 0, 27, ?_, fun _ _ _ _ _ _ h => h.elim⟩
  by_cases hp : 0 ≤ p ∧ p < 3
  · have hpE : (0 ≤ p ∧ p < 3) = True := eq_true hp
    replace h1 := h1 hp
    obtain ⟨hS, hR⟩ := hMP hp
    obtain ⟨hB, hl3, ⟨m4, m5, m6⟩, ⟨m7, m8, m9⟩, m12, ⟨m14, m13⟩, m15, ⟨m17, m16⟩, m26⟩ := (show MR σ o p U len st from hR)
    obtain ⟨b1, b2, b3, b4, b5, b6, b7⟩ := (show MB σ o p U len (st 1) from hB)
    obtain ⟨w0, w1, w2, w3, w4, w5, w6, w7, w8, w9, w10, w11, w12, w13, w14⟩ := (show SW U len st from hS)
    (obtain ⟨mh, mp0, mp2, mp3, mp4, mp5, mp6, mp7, mp8, mp9, mp10, mp11, mp12, mp13, mp14, mp15, mp16, mp17, mp18, mp19, mp20, mp21, mp22, mp24, mp25, mp26, mp27, mq0, mq2, mq3, mq4, mq5, mq6, mq7, mq8, mq9, mq10, mq11, mq12, mq13, mq14, mq15, mq16, mq17, mq18, mq19, mq20, mq21, mq22, mq24, mq25, mq26, mq27⟩ := (show LModel lay ρ _ from hL); unfold wps; simp only [hpE, find_e hL hS hR, si_iload_n0, si_iload_n1, si_iload_n2, si_iload_n3, si_iload, si_lload_n0, si_lload_n1, si_lload_n2, si_lload_n3, si_lload, si_aload_n0, si_aload_n1, si_aload_n2, si_aload_n3, si_aload, si_istore_n0, si_istore_n1, si_istore_n2, si_istore_n3, si_istore, si_astore_n0, si_astore_n1, si_astore_n2, si_astore_n3, si_astore, si_lstore_n0, si_lstore_n1, si_lstore_n2, si_lstore_n3, si_lstore, si_iconst, si_bipush, si_sipush, si_ldc, si_ldc2_w, si_lconst0, si_lconst1, si_aconst_null, si_iinc, si_dup, si_dup2, si_iadd, si_isub, si_imul, si_idiv, si_irem, si_iand, si_ior, si_ishl, si_ishr, si_ladd, si_lmul, si_lor, si_lxor, si_lshl, si_lushr, si_lcmp, si_i2b, si_i2l, si_l2i, si_icmp_eq, si_icmp_ne, si_icmp_lt, si_icmp_ge, si_icmp_gt, si_icmp_le, si_if_eq, si_if_ne, si_if_lt, si_if_ge, si_if_gt, si_if_le, si_ifnull, si_ifnonnull, si_goto, si_tableswitch, si_lookupswitch, si_getfield, si_putfield, si_getstatic, si_iaload, si_baload, si_laload, si_aaload, si_iastore, si_bastore, si_lastore, si_aastore, si_arraylength, si_new, si_newarray, si_anewarray, si_invokevirtual, si_invokespecial, si_invokestatic, si_ireturn, si_lreturn, si_areturn, si_return_, pI_e, pL_e, pR_e, pA_r, pA_n, pN_n, pN_r, oI_e, oL_e, oA_r, oA_n, lget_e, lrm1_0, lrm2_0, lrm1_i, lrm1_r, lrm1_n, lrm1_l, lrm2_i, lrm2_r, lrm2_n, lrm2_l, popN_0, popN_s, acat_i, acat_l, acat_r, acat_n, stw_0, stw_s, psh_s, psh_n, wgf_r, wgf_i, wgf_b, wgf_n, wgf_m, wpf_i, wpf_r, wpf_b, wnew_e, callE_e, rbk_0, rbk_1, tsw_0, tsw_s, lsw_0, lsw_s, wp_s, wq_t, wq_f, oV_e, pick_0, pick_s, oZ_e, oY_e, r_Model_alive_0, r_Model_alive_1, r_Model_alive_4, r_Model_alive_7, r_Model_alive_8, r_Model_alive_9, r_Model_alive_10, r_Model_alive_13, r_Model_alive_16, r_Model_alive_17, r_Model_alive_18, r_Model_alive_19, r_Model_alive_20, r_Model_alive_21, r_Model_alive_24, r_Model_alive_27, r_Model_alive_28, r_Model_alive_31, r_Model_alive_32, xe_Model_alive_646, xe_Model_alive_608, xe_Model_alive_740, xd_Model_alive, xrb_Model_alive, xin_Model_alive, T_Model_isPicture_e, TF_Model_isPicture, T_Model_find_e, T_Model_livingPlace_e, TF_Model_livingPlace, mh, mp0, mp2, mp3, mp4, mp5, mp6, mp7, mp8, mp9, mp10, mp11, mp12, mp13, mp14, mp15, mp16, mp17, mp18, mp19, mp20, mp21, mp22, mp24, mp25, mp26, mp27, mq0, mq2, mq3, mq4, mq5, mq6, mq7, mq8, mq9, mq10, mq11, mq12, mq13, mq14, mq15, mq16, mq17, mq18, mq19, mq20, mq21, mq22, mq24, mq25, mq26, mq27, Nat.reduceAdd, Nat.reduceMul, Nat.reduceEqDiff, reduceIte, Int.reduceNeg, Int.reduceLE, Int.reduceLT, Int.reduceAdd, Int.reduceSub, Int.reduceToNat, true_and, and_true, inR_e, Nat.reduceLT, Nat.reduceLeDiff, reduceCtorEq, Nat.add_zero, Nat.zero_add, or_false, false_or, or_true, true_or, not_true_eq_false, not_false_eq_true, Classical.not_not, Nat.add_eq_zero_iff, and_false, false_and, Int.reduceEq, List.mem_cons, List.not_mem_nil, forall_eq_or_imp, forall_eq, false_implies, implies_true, forall_const, aargs_0, aargs_i, aargs_r, aargs_l, aargs_n, nfT_e, eq_self, and_self, Nat.le_refl, fu_s, fu_fu, iu_iu, iu_s, fu_am, fu_a0, fu_0a, iu_l, Nat.reduceBEq, Int.reduceBEq, T_objInit_e]; clear mp0 mp2 mp3 mp4 mp5 mp6 mp7 mp8 mp9 mp10 mp11 mp12 mp13 mp14 mp15 mp16 mp17 mp18 mp19 mp20 mp21 mp22 mp24 mp25 mp26 mp27)
    have fR := hS.fnR x
    refine ⟨fun a => ⟨hL, U, len, st, hMP, fun b => by omega, fun b σ2 f1 f2 => ⟨fun c => ⟨fun z => by omega, fun z => ((h1.2 a σ2 (f1.qf (Or.inl rfl))).1 c)⟩, fun c => (h1.2 a σ2 (f1.qf (Or.inl rfl))).2 c⟩⟩, fun a => h1.1 (by omega)⟩
  · have hpE : (0 ≤ p ∧ p < 3) = False := eq_false hp
    (obtain ⟨mh, mp0, mp2, mp3, mp4, mp5, mp6, mp7, mp8, mp9, mp10, mp11, mp12, mp13, mp14, mp15, mp16, mp17, mp18, mp19, mp20, mp21, mp22, mp24, mp25, mp26, mp27, mq0, mq2, mq3, mq4, mq5, mq6, mq7, mq8, mq9, mq10, mq11, mq12, mq13, mq14, mq15, mq16, mq17, mq18, mq19, mq20, mq21, mq22, mq24, mq25, mq26, mq27⟩ := (show LModel lay ρ _ from hL); unfold wps; simp only [hpE, si_iload_n0, si_iload_n1, si_iload_n2, si_iload_n3, si_iload, si_lload_n0, si_lload_n1, si_lload_n2, si_lload_n3, si_lload, si_aload_n0, si_aload_n1, si_aload_n2, si_aload_n3, si_aload, si_istore_n0, si_istore_n1, si_istore_n2, si_istore_n3, si_istore, si_astore_n0, si_astore_n1, si_astore_n2, si_astore_n3, si_astore, si_lstore_n0, si_lstore_n1, si_lstore_n2, si_lstore_n3, si_lstore, si_iconst, si_bipush, si_sipush, si_ldc, si_ldc2_w, si_lconst0, si_lconst1, si_aconst_null, si_iinc, si_dup, si_dup2, si_iadd, si_isub, si_imul, si_idiv, si_irem, si_iand, si_ior, si_ishl, si_ishr, si_ladd, si_lmul, si_lor, si_lxor, si_lshl, si_lushr, si_lcmp, si_i2b, si_i2l, si_l2i, si_icmp_eq, si_icmp_ne, si_icmp_lt, si_icmp_ge, si_icmp_gt, si_icmp_le, si_if_eq, si_if_ne, si_if_lt, si_if_ge, si_if_gt, si_if_le, si_ifnull, si_ifnonnull, si_goto, si_tableswitch, si_lookupswitch, si_getfield, si_putfield, si_getstatic, si_iaload, si_baload, si_laload, si_aaload, si_iastore, si_bastore, si_lastore, si_aastore, si_arraylength, si_new, si_newarray, si_anewarray, si_invokevirtual, si_invokespecial, si_invokestatic, si_ireturn, si_lreturn, si_areturn, si_return_, pI_e, pL_e, pR_e, pA_r, pA_n, pN_n, pN_r, oI_e, oL_e, oA_r, oA_n, lget_e, lrm1_0, lrm2_0, lrm1_i, lrm1_r, lrm1_n, lrm1_l, lrm2_i, lrm2_r, lrm2_n, lrm2_l, popN_0, popN_s, acat_i, acat_l, acat_r, acat_n, stw_0, stw_s, psh_s, psh_n, wgf_r, wgf_i, wgf_b, wgf_n, wgf_m, wpf_i, wpf_r, wpf_b, wnew_e, callE_e, rbk_0, rbk_1, tsw_0, tsw_s, lsw_0, lsw_s, wp_s, wq_t, wq_f, oV_e, pick_0, pick_s, oZ_e, oY_e, r_Model_alive_0, r_Model_alive_1, r_Model_alive_4, r_Model_alive_7, r_Model_alive_8, r_Model_alive_9, r_Model_alive_10, r_Model_alive_13, r_Model_alive_16, r_Model_alive_17, r_Model_alive_18, r_Model_alive_19, r_Model_alive_20, r_Model_alive_21, r_Model_alive_24, r_Model_alive_27, r_Model_alive_28, r_Model_alive_31, r_Model_alive_32, xe_Model_alive_646, xe_Model_alive_608, xe_Model_alive_740, xd_Model_alive, xrb_Model_alive, xin_Model_alive, T_Model_isPicture_e, TF_Model_isPicture, T_Model_find_e, T_Model_livingPlace_e, TF_Model_livingPlace, mh, mp0, mp2, mp3, mp4, mp5, mp6, mp7, mp8, mp9, mp10, mp11, mp12, mp13, mp14, mp15, mp16, mp17, mp18, mp19, mp20, mp21, mp22, mp24, mp25, mp26, mp27, mq0, mq2, mq3, mq4, mq5, mq6, mq7, mq8, mq9, mq10, mq11, mq12, mq13, mq14, mq15, mq16, mq17, mq18, mq19, mq20, mq21, mq22, mq24, mq25, mq26, mq27, Nat.reduceAdd, Nat.reduceMul, Nat.reduceEqDiff, reduceIte, Int.reduceNeg, Int.reduceLE, Int.reduceLT, Int.reduceAdd, Int.reduceSub, Int.reduceToNat, true_and, and_true, inR_e, Nat.reduceLT, Nat.reduceLeDiff, reduceCtorEq, Nat.add_zero, Nat.zero_add, or_false, false_or, or_true, true_or, not_true_eq_false, not_false_eq_true, Classical.not_not, Nat.add_eq_zero_iff, and_false, false_and, Int.reduceEq, List.mem_cons, List.not_mem_nil, forall_eq_or_imp, forall_eq, false_implies, implies_true, forall_const, aargs_0, aargs_i, aargs_r, aargs_l, aargs_n, nfT_e, eq_self, and_self, Nat.le_refl, fu_s, fu_fu, iu_iu, iu_s, fu_am, fu_a0, fu_0a, iu_l, Nat.reduceBEq, Int.reduceBEq, T_objInit_e]; clear mp0 mp2 mp3 mp4 mp5 mp6 mp7 mp8 mp9 mp10 mp11 mp12 mp13 mp14 mp15 mp16 mp17 mp18 mp19 mp20 mp21 mp22 mp24 mp25 mp26 mp27)
    exact h0 hp
theorem co_X11_752 : CallOK RX11 (.invokevirtual 188) (2, 8, 0, 0, T_Model_weigh) := call_V S_Model_weigh (by decide) (ci := 11) rfl (by decide +kernel) (by decide +kernel) (by decide +kernel) (by decide +kernel) (by decide +kernel) (by decide +kernel) T_Model_weigh_r
def TF_Model_height (o : Nat) (p : Int) (x : Int) (sz sl : Nat) (lay : Nat → Nat × Int) (ρ : Nat → Int → Nat) (σ : Nat → Int → Int) (τ : Nat → Int → Int64) (k : Option AV → Mm → Prop) : Prop := LModel lay ρ o ∧ ∃ (U : Int → Int) (len : Int) (st : Nat → Int → Int), MdP σ o p U len st ∧ (0 ≤ p ∧ p < 3 → (0 ≤ fn U st x → lvP U st (fn U st x) → ∀ σ2 : Nat → Int → Int, QF σ σ2 o → k (some (vI (hgP U st (fn U st x)))) (sz, sl, lay, ρ, σ2, τ)) ∧ (¬ (0 ≤ fn U st x ∧ lvP U st (fn U st x)) → ∀ σ2 : Nat → Int → Int, QF σ σ2 o → k (some (vI (-1))) (sz, sl, lay, ρ, σ2, τ))) ∧ (¬ (0 ≤ p ∧ p < 3) → k (some (vI (-1))) (sz, sl, lay, ρ, σ, τ))
def T_Model_height : Tr := mkT 11 fun o as M k => pI as fun p as => pI as fun x as => as = [] ∧ TF_Model_height o p x M.1 M.2.1 M.2.2.1 M.2.2.2.1 M.2.2.2.2.1 M.2.2.2.2.2 k
theorem T_Model_height_e {o : Nat} {p : Int} {x : Int} {sz sl : Nat} {lay : Nat → Nat × Int} {ρ : Nat → Int → Nat} {σ : Nat → Int → Int} {τ : Nat → Int → Int64} {k : Option AV → Mm → Prop} : T_Model_height [vR o, vI p, vI x] (sz, sl, lay, ρ, σ, τ) k = (lay o = (21, 0) ∧ TF_Model_height o p x sz sl lay ρ σ τ k) := by simp [T_Model_height, mkT_e, pI_e, pR_e, pL_e]
theorem T_Model_height_r (as : List AV) (M : Mm) (k : Option AV → Mm → Prop) (h : T_Model_height as M k) : ∃ b As, as = vR b :: As ∧ M.2.2.1 b = (10 + 11, 0) := by
  obtain ⟨b, As, h1, h2, -⟩ := mkT_r h
  exact ⟨b, As, h1, h2⟩
def tb_Model_height : List (Nat × Option (List Nat) × Instr × List Nat) := [(0, none, .aload_n 0, []), (1, none, .iload_n 1, []), (2, none, .iload_n 2, []), (3, none, .invokevirtual 185, []), (6, none, .istore_n 3, []), (7, none, .iload_n 3, []), (8, none, .ifCond .ge 5, [13]), (11, none, .iconst (-1), []), (12, none, .ireturn, []), (13, none, .aload_n 0, []), (14, none, .iload_n 1, []), (15, none, .invokevirtual 188, []), (18, none, .aload_n 0, []), (19, none, .getfield 84, []), (22, none, .iload_n 3, []), (23, none, .iaload, []), (24, none, .ireturn, [])]
def P_Model_height : Nat → Option (List Nat) × Instr × List Nat := plk tb_Model_height
theorem r_Model_height_0 : P_Model_height 0 = (none, .aload_n 0, []) := by decide +kernel
theorem r_Model_height_1 : P_Model_height 1 = (none, .iload_n 1, []) := by decide +kernel
theorem r_Model_height_2 : P_Model_height 2 = (none, .iload_n 2, []) := by decide +kernel
theorem r_Model_height_3 : P_Model_height 3 = (none, .invokevirtual 185, []) := by decide +kernel
theorem r_Model_height_6 : P_Model_height 6 = (none, .istore_n 3, []) := by decide +kernel
theorem r_Model_height_7 : P_Model_height 7 = (none, .iload_n 3, []) := by decide +kernel
theorem r_Model_height_8 : P_Model_height 8 = (none, .ifCond .ge 5, [13]) := by decide +kernel
theorem r_Model_height_11 : P_Model_height 11 = (none, .iconst (-1), []) := by decide +kernel
theorem r_Model_height_12 : P_Model_height 12 = (none, .ireturn, []) := by decide +kernel
theorem r_Model_height_13 : P_Model_height 13 = (none, .aload_n 0, []) := by decide +kernel
theorem r_Model_height_14 : P_Model_height 14 = (none, .iload_n 1, []) := by decide +kernel
theorem r_Model_height_15 : P_Model_height 15 = (none, .invokevirtual 188, []) := by decide +kernel
theorem r_Model_height_18 : P_Model_height 18 = (none, .aload_n 0, []) := by decide +kernel
theorem r_Model_height_19 : P_Model_height 19 = (none, .getfield 84, []) := by decide +kernel
theorem r_Model_height_22 : P_Model_height 22 = (none, .iload_n 3, []) := by decide +kernel
theorem r_Model_height_23 : P_Model_height 23 = (none, .iaload, []) := by decide +kernel
theorem r_Model_height_24 : P_Model_height 24 = (none, .ireturn, []) := by decide +kernel
def E_Model_height : List (Nat × Ent) := [(740, (3, 8, 0, 0, T_Model_livingPlace)), (752, (2, 8, 0, 0, T_Model_weigh))]
def X_Model_height : Cx := (llk (0, 0, 9) ftX11, llk 99 ntX11, llk none kcX11, llk none klX11, llk dEnt E_Model_height, 9, 0, false)
theorem xok_Model_height : Xok RX11 X_Model_height := xok_of ftX11_ok ntX11_ok kcX11_ok klX11_ok (E := E_Model_height) (List.forall_mem_cons.mpr ⟨co_X11_740, List.forall_mem_cons.mpr ⟨co_X11_752, fun _ h => absurd h List.not_mem_nil⟩⟩)
theorem xf_Model_height_84 : xfl X_Model_height 84 = (11, 26, 1) := by decide +kernel
theorem xe_Model_height_740 : xE X_Model_height (4 * 185 + 0) = (3, 8, 0, 0, T_Model_livingPlace) := rfl
theorem xe_Model_height_752 : xE X_Model_height (4 * 188 + 0) = (2, 8, 0, 0, T_Model_weigh) := rfl
theorem xd_Model_height : xd X_Model_height = 9 := rfl
theorem xrb_Model_height : xrb X_Model_height = 0 := rfl
theorem xin_Model_height : xin X_Model_height = false := rfl
set_option maxHeartbeats 4000000 in
set_option maxRecDepth 100000 in
theorem S_Model_height : Snd yX11_height cX11_height 4 (some .int) T_Model_height 9 0 0 := by
  refine snd_of (X := X_Model_height) (P := P_Model_height) (tb := tb_Model_height) (own := RX11) (by decide) rfl rfl (by decide +kernel) xok_Model_height rfl rk0 (fun h => by first | rfl | cases h) ?_
  intro as M k has hM hT0
  obtain ⟨sz, sl, lay, ρ, σ, τ⟩ := M
  obtain ⟨o, as1, e, hlo, hT1⟩ := mkT_r hT0
  clear hT0
  subst e
  obtain ⟨p, as2, e, hT2⟩ := pI_x hT1
  clear hT1
  subst e
  obtain ⟨x, as3, e, hT3⟩ := pI_x hT2
  clear hT2
  subst e
  obtain ⟨e, hT⟩ := hT3
  subst e
  replace hlo : lay o = (21, 0) := hlo
  have r_p : -2147483648 ≤ p ∧ p ≤ 2147483647 := has (vI p) (by simp)
  have r_x : -2147483648 ≤ x ∧ x ≤ 2147483647 := has (vI x) (by simp)
  clear has
  replace hM : ∀ a i, -2147483648 ≤ σ a i ∧ σ a i ≤ 2147483647 := hM
  replace hT : TF_Model_height o p x sz sl lay ρ σ τ k := hT
  unfold TF_Model_height at hT
  obtain ⟨hL, U, len, st, hMP, h1, h0⟩ := hT
  refine ⟨Nat.le_of_ble_eq_true rfl, fun _ _ _ => False, fun _ _ _ => 0, 25, ?_, fun _ _ _ _ _ _ h => h.elim⟩
  by_cases hp : 0 ≤ p ∧ p < 3
  · have hpE : (0 ≤ p ∧ p < 3) = True := eq_true hp
    replace h1 := h1 hp
    obtain ⟨hS, hR⟩ := hMP hp
    obtain ⟨hB, hl3, ⟨m4, m5, m6⟩, ⟨m7, m8, m9⟩, m12, ⟨m14, m13⟩, m15, ⟨m17, m16⟩, m26⟩ := (show MR σ o p U len st from hR)
    obtain ⟨b1, b2, b3, b4, b5, b6, b7⟩ := (show MB σ o p U len (st 1) from hB)
    obtain ⟨w0, w1, w2, w3, w4, w5, w6, w7, w8, w9, w10, w11, w12, w13, w14⟩ := (show SW U len st from hS)
    (obtain ⟨mh, mp0, mp2, mp3, mp4, mp5, mp6, mp7, mp8, mp9, mp10, mp11, mp12, mp13, mp14, mp15, mp16, mp17, mp18, mp19, mp20, mp21, mp22, mp24, mp25, mp26, mp27, mq0, mq2, mq3, mq4, mq5, mq6, mq7, mq8, mq9, mq10, mq11, mq12, mq13, mq14, mq15, mq16, mq17, mq18, mq19, mq20, mq21, mq22, mq24, mq25, mq26, mq27⟩ := (show LModel lay ρ _ from hL); unfold wps; simp only [hpE, find_e hL hS hR, si_iload_n0, si_iload_n1, si_iload_n2, si_iload_n3, si_iload, si_lload_n0, si_lload_n1, si_lload_n2, si_lload_n3, si_lload, si_aload_n0, si_aload_n1, si_aload_n2, si_aload_n3, si_aload, si_istore_n0, si_istore_n1, si_istore_n2, si_istore_n3, si_istore, si_astore_n0, si_astore_n1, si_astore_n2, si_astore_n3, si_astore, si_lstore_n0, si_lstore_n1, si_lstore_n2, si_lstore_n3, si_lstore, si_iconst, si_bipush, si_sipush, si_ldc, si_ldc2_w, si_lconst0, si_lconst1, si_aconst_null, si_iinc, si_dup, si_dup2, si_iadd, si_isub, si_imul, si_idiv, si_irem, si_iand, si_ior, si_ishl, si_ishr, si_ladd, si_lmul, si_lor, si_lxor, si_lshl, si_lushr, si_lcmp, si_i2b, si_i2l, si_l2i, si_icmp_eq, si_icmp_ne, si_icmp_lt, si_icmp_ge, si_icmp_gt, si_icmp_le, si_if_eq, si_if_ne, si_if_lt, si_if_ge, si_if_gt, si_if_le, si_ifnull, si_ifnonnull, si_goto, si_tableswitch, si_lookupswitch, si_getfield, si_putfield, si_getstatic, si_iaload, si_baload, si_laload, si_aaload, si_iastore, si_bastore, si_lastore, si_aastore, si_arraylength, si_new, si_newarray, si_anewarray, si_invokevirtual, si_invokespecial, si_invokestatic, si_ireturn, si_lreturn, si_areturn, si_return_, pI_e, pL_e, pR_e, pA_r, pA_n, pN_n, pN_r, oI_e, oL_e, oA_r, oA_n, lget_e, lrm1_0, lrm2_0, lrm1_i, lrm1_r, lrm1_n, lrm1_l, lrm2_i, lrm2_r, lrm2_n, lrm2_l, popN_0, popN_s, acat_i, acat_l, acat_r, acat_n, stw_0, stw_s, psh_s, psh_n, wgf_r, wgf_i, wgf_b, wgf_n, wgf_m, wpf_i, wpf_r, wpf_b, wnew_e, callE_e, rbk_0, rbk_1, tsw_0, tsw_s, lsw_0, lsw_s, wp_s, wq_t, wq_f, oV_e, pick_0, pick_s, oZ_e, oY_e, r_Model_height_0, r_Model_height_1, r_Model_height_2, r_Model_height_3, r_Model_height_6, r_Model_height_7, r_Model_height_8, r_Model_height_11, r_Model_height_12, r_Model_height_13, r_Model_height_14, r_Model_height_15, r_Model_height_18, r_Model_height_19, r_Model_height_22, r_Model_height_23, r_Model_height_24, xf_Model_height_84, xe_Model_height_740, xe_Model_height_752, xd_Model_height, xrb_Model_height, xin_Model_height, T_Model_livingPlace_e, TF_Model_livingPlace, T_Model_weigh_e, TF_Model_weigh, mh, mp0, mp2, mp3, mp4, mp5, mp6, mp7, mp8, mp9, mp10, mp11, mp12, mp13, mp14, mp15, mp16, mp17, mp18, mp19, mp20, mp21, mp22, mp24, mp25, mp26, mp27, mq0, mq2, mq3, mq4, mq5, mq6, mq7, mq8, mq9, mq10, mq11, mq12, mq13, mq14, mq15, mq16, mq17, mq18, mq19, mq20, mq21, mq22, mq24, mq25, mq26, mq27, Nat.reduceAdd, Nat.reduceMul, Nat.reduceEqDiff, reduceIte, Int.reduceNeg, Int.reduceLE, Int.reduceLT, Int.reduceAdd, Int.reduceSub, Int.reduceToNat, true_and, and_true, inR_e, Nat.reduceLT, Nat.reduceLeDiff, reduceCtorEq, Nat.add_zero, Nat.zero_add, or_false, false_or, or_true, true_or, not_true_eq_false, not_false_eq_true, Classical.not_not, Nat.add_eq_zero_iff, and_false, false_and, Int.reduceEq, List.mem_cons, List.not_mem_nil, forall_eq_or_imp, forall_eq, false_implies, implies_true, forall_const, aargs_0, aargs_i, aargs_r, aargs_l, aargs_n, nfT_e, eq_self, and_self, Nat.le_refl, fu_s, fu_fu, iu_iu, iu_s, fu_am, fu_a0, fu_0a, iu_l, Nat.reduceBEq, Int.reduceBEq, T_objInit_e]; clear mp0 mp2 mp3 mp4 mp5 mp6 mp7 mp8 mp9 mp10 mp11 mp12 mp13 mp14 mp15 mp16 mp17 mp18 mp19 mp20 mp21 mp22 mp24 mp25 mp26 mp27)
    have fR := hS.fnR x
    refine ⟨hL, U, len, st, hMP, fun a => h1.2 (fun z => by omega) σ QF.rf, fun a σ2 f1 f2 => ⟨fun b => ⟨fun _ => ?_, fun z => absurd a z⟩, fun b => h1.2 (fun z => b z.2) σ2 (f1.qf (Or.inl rfl))⟩⟩
    refine ⟨hL, U, len, st, hS, f1.mr (Or.inl rfl) hR, fun σ3 c1 c2 c3 c4 => ⟨by omega, by omega, ?_⟩⟩
    rw [c4 (fn U st x) (by omega) b]
    exact h1.1 a b σ3 ((f1.qf (Or.inl rfl)).trans c1)
  · have hpE : (0 ≤ p ∧ p < 3) = False := eq_false hp
    (obtain ⟨mh, mp0, mp2, mp3, mp4, mp5, mp6, mp7, mp8, mp9, mp10, mp11, mp12, mp13, mp14, mp15, mp16, mp17, mp18, mp19, mp20, mp21, mp22, mp24, mp25, mp26, mp27, mq0, mq2, mq3, mq4, mq5, mq6, mq7, mq8, mq9, mq10, mq11, mq12, mq13, mq14, mq15, mq16, mq17, mq18, mq19, mq20, mq21, mq22, mq24, mq25, mq26, mq27⟩ := (show LModel lay ρ _ from hL); unfold wps; simp only [hpE, si_iload_n0, si_iload_n1, si_iload_n2, si_iload_n3, si_iload, si_lload_n0, si_lload_n1, si_lload_n2, si_lload_n3, si_lload, si_aload_n0, si_aload_n1, si_aload_n2, si_aload_n3, si_aload, si_istore_n0, si_istore_n1, si_istore_n2, si_istore_n3, si_istore, si_astore_n0, si_astore_n1, si_astore_n2, si_astore_n3, si_astore, si_lstore_n0, si_lstore_n1, si_lstore_n2, si_lstore_n3, si_lstore, si_iconst, si_bipush, si_sipush, si_ldc, si_ldc2_w, si_lconst0, si_lconst1, si_aconst_null, si_iinc, si_dup, si_dup2, si_iadd, si_isub, si_imul, si_idiv, si_irem, si_iand, si_ior, si_ishl, si_ishr, si_ladd, si_lmul, si_lor, si_lxor, si_lshl, si_lushr, si_lcmp, si_i2b, si_i2l, si_l2i, si_icmp_eq, si_icmp_ne, si_icmp_lt, si_icmp_ge, si_icmp_gt, si_icmp_le, si_if_eq, si_if_ne, si_if_lt, si_if_ge, si_if_gt, si_if_le, si_ifnull, si_ifnonnull, si_goto, si_tableswitch, si_lookupswitch, si_getfield, si_putfield, si_getstatic, si_iaload, si_baload, si_laload, si_aaload, si_iastore, si_bastore, si_lastore, si_aastore, si_arraylength, si_new, si_newarray, si_anewarray, si_invokevirtual, si_invokespecial, si_invokestatic, si_ireturn, si_lreturn, si_areturn, si_return_, pI_e, pL_e, pR_e, pA_r, pA_n, pN_n, pN_r, oI_e, oL_e, oA_r, oA_n, lget_e, lrm1_0, lrm2_0, lrm1_i, lrm1_r, lrm1_n, lrm1_l, lrm2_i, lrm2_r, lrm2_n, lrm2_l, popN_0, popN_s, acat_i, acat_l, acat_r, acat_n, stw_0, stw_s, psh_s, psh_n, wgf_r, wgf_i, wgf_b, wgf_n, wgf_m, wpf_i, wpf_r, wpf_b, wnew_e, callE_e, rbk_0, rbk_1, tsw_0, tsw_s, lsw_0, lsw_s, wp_s, wq_t, wq_f, oV_e, pick_0, pick_s, oZ_e, oY_e, r_Model_height_0, r_Model_height_1, r_Model_height_2, r_Model_height_3, r_Model_height_6, r_Model_height_7, r_Model_height_8, r_Model_height_11, r_Model_height_12, r_Model_height_13, r_Model_height_14, r_Model_height_15, r_Model_height_18, r_Model_height_19, r_Model_height_22, r_Model_height_23, r_Model_height_24, xf_Model_height_84, xe_Model_height_740, xe_Model_height_752, xd_Model_height, xrb_Model_height, xin_Model_height, T_Model_livingPlace_e, TF_Model_livingPlace, T_Model_weigh_e, TF_Model_weigh, mh, mp0, mp2, mp3, mp4, mp5, mp6, mp7, mp8, mp9, mp10, mp11, mp12, mp13, mp14, mp15, mp16, mp17, mp18, mp19, mp20, mp21, mp22, mp24, mp25, mp26, mp27, mq0, mq2, mq3, mq4, mq5, mq6, mq7, mq8, mq9, mq10, mq11, mq12, mq13, mq14, mq15, mq16, mq17, mq18, mq19, mq20, mq21, mq22, mq24, mq25, mq26, mq27, Nat.reduceAdd, Nat.reduceMul, Nat.reduceEqDiff, reduceIte, Int.reduceNeg, Int.reduceLE, Int.reduceLT, Int.reduceAdd, Int.reduceSub, Int.reduceToNat, true_and, and_true, inR_e, Nat.reduceLT, Nat.reduceLeDiff, reduceCtorEq, Nat.add_zero, Nat.zero_add, or_false, false_or, or_true, true_or, not_true_eq_false, not_false_eq_true, Classical.not_not, Nat.add_eq_zero_iff, and_false, false_and, Int.reduceEq, List.mem_cons, List.not_mem_nil, forall_eq_or_imp, forall_eq, false_implies, implies_true, forall_const, aargs_0, aargs_i, aargs_r, aargs_l, aargs_n, nfT_e, eq_self, and_self, Nat.le_refl, fu_s, fu_fu, iu_iu, iu_s, fu_am, fu_a0, fu_0a, iu_l, Nat.reduceBEq, Int.reduceBEq, T_objInit_e]; clear mp0 mp2 mp3 mp4 mp5 mp6 mp7 mp8 mp9 mp10 mp11 mp12 mp13 mp14 mp15 mp16 mp17 mp18 mp19 mp20 mp21 mp22 mp24 mp25 mp26 mp27)
    exact ⟨hL, U, len, st, hMP, h0 hp⟩
def TF_Model_kept (o : Nat) (p : Int) (x : Int) (sz sl : Nat) (lay : Nat → Nat × Int) (ρ : Nat → Int → Nat) (σ : Nat → Int → Int) (τ : Nat → Int → Int64) (k : Option AV → Mm → Prop) : Prop := LModel lay ρ o ∧ ∃ (U : Int → Int) (len : Int) (st : Nat → Int → Int), MdP σ o p U len st ∧ (0 ≤ p ∧ p < 3 → (0 ≤ fn U st x → lvP U st (fn U st x) → ∀ σ2 : Nat → Int → Int, QF σ σ2 o → k (some (vI (ktP U st (fn U st x)))) (sz, sl, lay, ρ, σ2, τ)) ∧ (¬ (0 ≤ fn U st x ∧ lvP U st (fn U st x)) → ∀ σ2 : Nat → Int → Int, QF σ σ2 o → k (some (vI (-1))) (sz, sl, lay, ρ, σ2, τ))) ∧ (¬ (0 ≤ p ∧ p < 3) → k (some (vI (-1))) (sz, sl, lay, ρ, σ, τ))
def T_Model_kept : Tr := mkT 11 fun o as M k => pI as fun p as => pI as fun x as => as = [] ∧ TF_Model_kept o p x M.1 M.2.1 M.2.2.1 M.2.2.2.1 M.2.2.2.2.1 M.2.2.2.2.2 k
theorem T_Model_kept_e {o : Nat} {p : Int} {x : Int} {sz sl : Nat} {lay : Nat → Nat × Int} {ρ : Nat → Int → Nat} {σ : Nat → Int → Int} {τ : Nat → Int → Int64} {k : Option AV → Mm → Prop} : T_Model_kept [vR o, vI p, vI x] (sz, sl, lay, ρ, σ, τ) k = (lay o = (21, 0) ∧ TF_Model_kept o p x sz sl lay ρ σ τ k) := by simp [T_Model_kept, mkT_e, pI_e, pR_e, pL_e]
theorem T_Model_kept_r (as : List AV) (M : Mm) (k : Option AV → Mm → Prop) (h : T_Model_kept as M k) : ∃ b As, as = vR b :: As ∧ M.2.2.1 b = (10 + 11, 0) := by
  obtain ⟨b, As, h1, h2, -⟩ := mkT_r h
  exact ⟨b, As, h1, h2⟩
def tb_Model_kept : List (Nat × Option (List Nat) × Instr × List Nat) := [(0, none, .aload_n 0, []), (1, none, .iload_n 1, []), (2, none, .iload_n 2, []), (3, none, .invokevirtual 185, []), (6, none, .istore_n 3, []), (7, none, .iload_n 3, []), (8, none, .ifCond .ge 5, [13]), (11, none, .iconst (-1), []), (12, none, .ireturn, []), (13, none, .aload_n 0, []), (14, none, .iload_n 1, []), (15, none, .iload_n 3, []), (16, none, .aload_n 0, []), (17, none, .getfield 66, []), (20, none, .iconst 0, []), (21, none, .invokevirtual 178, []), (24, none, .iconst 0, []), (25, none, .istore 4, []), (27, none, .iconst 0, []), (28, none, .istore 5, []), (30, some [0, 1, 2, 3, 4, 5], .iload 5, []), (32, none, .aload_n 0, []), (33, none, .getfield 50, []), (36, none, .iload_n 1, []), (37, none, .iaload, []), (38, none, .if_icmp .ge 45, [83]), (41, none, .iload 4, []), (43, none, .aload_n 0, []), (44, none, .getfield 62, []), (47, none, .iload 5, []), (49, none, .baload, []), (50, none, .ifCond .eq 23, [73]), (53, none, .aload_n 0, []), (54, none, .getfield 66, []), (57, none, .iload 5, []), (59, none, .baload, []), (60, none, .ifCond .ne 13, [73]), (63, none, .aload_n 0, []), (64, none, .iload_n 1, []), (65, none, .iload 5, []), (67, none, .invokevirtual 182, []), (70, none, .goto 4, [74]), (73, none, .iconst 0, []), (74, none, .iadd, []), (75, none, .istore 4, []), (77, none, .iinc 5 1, []), (80, none, .goto (-50), [30]), (83, none, .iload 4, []), (85, none, .ireturn, [])]
def P_Model_kept : Nat → Option (List Nat) × Instr × List Nat := plk tb_Model_kept
theorem r_Model_kept_0 : P_Model_kept 0 = (none, .aload_n 0, []) := by decide +kernel
theorem r_Model_kept_1 : P_Model_kept 1 = (none, .iload_n 1, []) := by decide +kernel
theorem r_Model_kept_2 : P_Model_kept 2 = (none, .iload_n 2, []) := by decide +kernel
theorem r_Model_kept_3 : P_Model_kept 3 = (none, .invokevirtual 185, []) := by decide +kernel
theorem r_Model_kept_6 : P_Model_kept 6 = (none, .istore_n 3, []) := by decide +kernel
theorem r_Model_kept_7 : P_Model_kept 7 = (none, .iload_n 3, []) := by decide +kernel
theorem r_Model_kept_8 : P_Model_kept 8 = (none, .ifCond .ge 5, [13]) := by decide +kernel
theorem r_Model_kept_11 : P_Model_kept 11 = (none, .iconst (-1), []) := by decide +kernel
theorem r_Model_kept_12 : P_Model_kept 12 = (none, .ireturn, []) := by decide +kernel
theorem r_Model_kept_13 : P_Model_kept 13 = (none, .aload_n 0, []) := by decide +kernel
theorem r_Model_kept_14 : P_Model_kept 14 = (none, .iload_n 1, []) := by decide +kernel
theorem r_Model_kept_15 : P_Model_kept 15 = (none, .iload_n 3, []) := by decide +kernel
theorem r_Model_kept_16 : P_Model_kept 16 = (none, .aload_n 0, []) := by decide +kernel
theorem r_Model_kept_17 : P_Model_kept 17 = (none, .getfield 66, []) := by decide +kernel
theorem r_Model_kept_20 : P_Model_kept 20 = (none, .iconst 0, []) := by decide +kernel
theorem r_Model_kept_21 : P_Model_kept 21 = (none, .invokevirtual 178, []) := by decide +kernel
theorem r_Model_kept_24 : P_Model_kept 24 = (none, .iconst 0, []) := by decide +kernel
theorem r_Model_kept_25 : P_Model_kept 25 = (none, .istore 4, []) := by decide +kernel
theorem r_Model_kept_27 : P_Model_kept 27 = (none, .iconst 0, []) := by decide +kernel
theorem r_Model_kept_28 : P_Model_kept 28 = (none, .istore 5, []) := by decide +kernel
theorem r_Model_kept_30 : P_Model_kept 30 = (some [0, 1, 2, 3, 4, 5], .iload 5, []) := by decide +kernel
theorem r_Model_kept_32 : P_Model_kept 32 = (none, .aload_n 0, []) := by decide +kernel
theorem r_Model_kept_33 : P_Model_kept 33 = (none, .getfield 50, []) := by decide +kernel
theorem r_Model_kept_36 : P_Model_kept 36 = (none, .iload_n 1, []) := by decide +kernel
theorem r_Model_kept_37 : P_Model_kept 37 = (none, .iaload, []) := by decide +kernel
theorem r_Model_kept_38 : P_Model_kept 38 = (none, .if_icmp .ge 45, [83]) := by decide +kernel
theorem r_Model_kept_41 : P_Model_kept 41 = (none, .iload 4, []) := by decide +kernel
theorem r_Model_kept_43 : P_Model_kept 43 = (none, .aload_n 0, []) := by decide +kernel
theorem r_Model_kept_44 : P_Model_kept 44 = (none, .getfield 62, []) := by decide +kernel
theorem r_Model_kept_47 : P_Model_kept 47 = (none, .iload 5, []) := by decide +kernel
theorem r_Model_kept_49 : P_Model_kept 49 = (none, .baload, []) := by decide +kernel
theorem r_Model_kept_50 : P_Model_kept 50 = (none, .ifCond .eq 23, [73]) := by decide +kernel
theorem r_Model_kept_53 : P_Model_kept 53 = (none, .aload_n 0, []) := by decide +kernel
theorem r_Model_kept_54 : P_Model_kept 54 = (none, .getfield 66, []) := by decide +kernel
theorem r_Model_kept_57 : P_Model_kept 57 = (none, .iload 5, []) := by decide +kernel
theorem r_Model_kept_59 : P_Model_kept 59 = (none, .baload, []) := by decide +kernel
theorem r_Model_kept_60 : P_Model_kept 60 = (none, .ifCond .ne 13, [73]) := by decide +kernel
theorem r_Model_kept_63 : P_Model_kept 63 = (none, .aload_n 0, []) := by decide +kernel
theorem r_Model_kept_64 : P_Model_kept 64 = (none, .iload_n 1, []) := by decide +kernel
theorem r_Model_kept_65 : P_Model_kept 65 = (none, .iload 5, []) := by decide +kernel
theorem r_Model_kept_67 : P_Model_kept 67 = (none, .invokevirtual 182, []) := by decide +kernel
theorem r_Model_kept_70 : P_Model_kept 70 = (none, .goto 4, [74]) := by decide +kernel
theorem r_Model_kept_73 : P_Model_kept 73 = (none, .iconst 0, []) := by decide +kernel
theorem r_Model_kept_74 : P_Model_kept 74 = (none, .iadd, []) := by decide +kernel
theorem r_Model_kept_75 : P_Model_kept 75 = (none, .istore 4, []) := by decide +kernel
theorem r_Model_kept_77 : P_Model_kept 77 = (none, .iinc 5 1, []) := by decide +kernel
theorem r_Model_kept_80 : P_Model_kept 80 = (none, .goto (-50), [30]) := by decide +kernel
theorem r_Model_kept_83 : P_Model_kept 83 = (none, .iload 4, []) := by decide +kernel
theorem r_Model_kept_85 : P_Model_kept 85 = (none, .ireturn, []) := by decide +kernel
def E_Model_kept : List (Nat × Ent) := [(712, (5, 7, 0, 0, T_Model_live)), (728, (3, 5, 0, 0, T_Model_sizeOf)), (740, (3, 8, 0, 0, T_Model_livingPlace))]
def X_Model_kept : Cx := (llk (0, 0, 9) ftX11, llk 99 ntX11, llk none kcX11, llk none klX11, llk dEnt E_Model_kept, 9, 0, false)
theorem xok_Model_kept : Xok RX11 X_Model_kept := xok_of ftX11_ok ntX11_ok kcX11_ok klX11_ok (E := E_Model_kept) (List.forall_mem_cons.mpr ⟨co_X11_712, List.forall_mem_cons.mpr ⟨co_X11_728, List.forall_mem_cons.mpr ⟨co_X11_740, fun _ h => absurd h List.not_mem_nil⟩⟩⟩)
theorem xf_Model_kept_50 : xfl X_Model_kept 50 = (11, 14, 1) := by decide +kernel
theorem xf_Model_kept_62 : xfl X_Model_kept 62 = (11, 18, 1) := by decide +kernel
theorem xf_Model_kept_66 : xfl X_Model_kept 66 = (11, 19, 1) := by decide +kernel
theorem xe_Model_kept_712 : xE X_Model_kept (4 * 178 + 0) = (5, 7, 0, 0, T_Model_live) := rfl
theorem xe_Model_kept_728 : xE X_Model_kept (4 * 182 + 0) = (3, 5, 0, 0, T_Model_sizeOf) := rfl
theorem xe_Model_kept_740 : xE X_Model_kept (4 * 185 + 0) = (3, 8, 0, 0, T_Model_livingPlace) := rfl
theorem xd_Model_kept : xd X_Model_kept = 9 := rfl
theorem xrb_Model_kept : xrb X_Model_kept = 0 := rfl
theorem xin_Model_kept : xin X_Model_kept = false := rfl
set_option maxHeartbeats 4000000 in
set_option maxRecDepth 100000 in
theorem S_Model_kept : Snd yX11_kept cX11_kept 6 (some .int) T_Model_kept 9 0 0 := by
  refine snd_of (X := X_Model_kept) (P := P_Model_kept) (tb := tb_Model_kept) (own := RX11) (by decide) rfl rfl (by decide +kernel) xok_Model_kept rfl rk0 (fun h => by first | rfl | cases h) ?_
  intro as M k has hM hT0
  obtain ⟨sz, sl, lay, ρ, σ, τ⟩ := M
  obtain ⟨o, as1, e, hlo, hT1⟩ := mkT_r hT0
  clear hT0
  subst e
  obtain ⟨p, as2, e, hT2⟩ := pI_x hT1
  clear hT1
  subst e
  obtain ⟨x, as3, e, hT3⟩ := pI_x hT2
  clear hT2
  subst e
  obtain ⟨e, hT⟩ := hT3
  subst e
  replace hlo : lay o = (21, 0) := hlo
  have r_p : -2147483648 ≤ p ∧ p ≤ 2147483647 := has (vI p) (by simp)
  have r_x : -2147483648 ≤ x ∧ x ≤ 2147483647 := has (vI x) (by simp)
  clear has
  replace hM : ∀ a i, -2147483648 ≤ σ a i ∧ σ a i ≤ 2147483647 := hM
  replace hT : TF_Model_kept o p x sz sl lay ρ σ τ k := hT
  unfold TF_Model_kept at hT
  obtain ⟨hL, U, len, st, hMP, h1, h0⟩ := hT
  obtain ⟨J, hJd⟩ : ∃ J : Nat → List AV → Mm → Prop, J = (fun c vs M1 => (0 ≤ p ∧ p < 3) ∧ (c = 30 ∧ 0 ≤ fn U st x ∧ lvP U st (fn U st x) ∧ ∃ (i : Nat) (σ1 : Nat → Int → Int), QF σ σ1 o ∧ (∀ x, 0 ≤ x ∧ x < st 0 7 → (σ1 (o + 18) x = 0 ∨ σ1 (o + 18) x = 1) ∧ (σ1 (o + 18) x = 1 ↔ lvP U st x)) ∧ (∀ z, 0 ≤ z ∧ z < st 0 7 → (σ1 (o + 19) z = 0 ∨ σ1 (o + 19) z = 1) ∧ (σ1 (o + 19) z = 1 ↔ ¬ dmP U st (fn U st x) z)) ∧ (i : Int) ≤ st 0 7 ∧ vs = [vR o, vI p, vI x, vI (fn U st x), vI (sumP (fun z => lvP U st z ∧ dmP U st (fn U st x) z) (szP U st) i), vI (i : Int)] ∧ M1 = (sz, sl, lay, ρ, σ1, τ))) := ⟨_, rfl⟩
  obtain ⟨μ, hμ⟩ : ∃ μ : Nat → List AV → Mm → Nat, μ = (fun _ vs _ => (1000 - gI (vs.getD 5 vN)).toNat) := ⟨_, rfl⟩
  refine ⟨Nat.le_of_ble_eq_true rfl, J, μ, 57, ?_, ?_⟩
  · skip
    by_cases hp : 0 ≤ p ∧ p < 3
    · have hpE : (0 ≤ p ∧ p < 3) = True := eq_true hp
      replace h1 := h1 hp
      obtain ⟨hS, hR⟩ := hMP hp
      obtain ⟨hB, hl3, ⟨m4, m5, m6⟩, ⟨m7, m8, m9⟩, m12, ⟨m14, m13⟩, m15, ⟨m17, m16⟩, m26⟩ := (show MR σ o p U len st from hR)
      obtain ⟨b1, b2, b3, b4, b5, b6, b7⟩ := (show MB σ o p U len (st 1) from hB)
      obtain ⟨w0, w1, w2, w3, w4, w5, w6, w7, w8, w9, w10, w11, w12, w13, w14⟩ := (show SW U len st from hS)
      (obtain ⟨mh, mp0, mp2, mp3, mp4, mp5, mp6, mp7, mp8, mp9, mp10, mp11, mp12, mp13, mp14, mp15, mp16, mp17, mp18, mp19, mp20, mp21, mp22, mp24, mp25, mp26, mp27, mq0, mq2, mq3, mq4, mq5, mq6, mq7, mq8, mq9, mq10, mq11, mq12, mq13, mq14, mq15, mq16, mq17, mq18, mq19, mq20, mq21, mq22, mq24, mq25, mq26, mq27⟩ := (show LModel lay ρ _ from hL); unfold wps; simp only [hpE, find_e hL hS hR, si_iload_n0, si_iload_n1, si_iload_n2, si_iload_n3, si_iload, si_lload_n0, si_lload_n1, si_lload_n2, si_lload_n3, si_lload, si_aload_n0, si_aload_n1, si_aload_n2, si_aload_n3, si_aload, si_istore_n0, si_istore_n1, si_istore_n2, si_istore_n3, si_istore, si_astore_n0, si_astore_n1, si_astore_n2, si_astore_n3, si_astore, si_lstore_n0, si_lstore_n1, si_lstore_n2, si_lstore_n3, si_lstore, si_iconst, si_bipush, si_sipush, si_ldc, si_ldc2_w, si_lconst0, si_lconst1, si_aconst_null, si_iinc, si_dup, si_dup2, si_iadd, si_isub, si_imul, si_idiv, si_irem, si_iand, si_ior, si_ishl, si_ishr, si_ladd, si_lmul, si_lor, si_lxor, si_lshl, si_lushr, si_lcmp, si_i2b, si_i2l, si_l2i, si_icmp_eq, si_icmp_ne, si_icmp_lt, si_icmp_ge, si_icmp_gt, si_icmp_le, si_if_eq, si_if_ne, si_if_lt, si_if_ge, si_if_gt, si_if_le, si_ifnull, si_ifnonnull, si_goto, si_tableswitch, si_lookupswitch, si_getfield, si_putfield, si_getstatic, si_iaload, si_baload, si_laload, si_aaload, si_iastore, si_bastore, si_lastore, si_aastore, si_arraylength, si_new, si_newarray, si_anewarray, si_invokevirtual, si_invokespecial, si_invokestatic, si_ireturn, si_lreturn, si_areturn, si_return_, pI_e, pL_e, pR_e, pA_r, pA_n, pN_n, pN_r, oI_e, oL_e, oA_r, oA_n, lget_e, lrm1_0, lrm2_0, lrm1_i, lrm1_r, lrm1_n, lrm1_l, lrm2_i, lrm2_r, lrm2_n, lrm2_l, popN_0, popN_s, acat_i, acat_l, acat_r, acat_n, stw_0, stw_s, psh_s, psh_n, wgf_r, wgf_i, wgf_b, wgf_n, wgf_m, wpf_i, wpf_r, wpf_b, wnew_e, callE_e, rbk_0, rbk_1, tsw_0, tsw_s, lsw_0, lsw_s, wp_s, wq_t, wq_f, oV_e, pick_0, pick_s, oZ_e, oY_e, r_Model_kept_0, r_Model_kept_1, r_Model_kept_2, r_Model_kept_3, r_Model_kept_6, r_Model_kept_7, r_Model_kept_8, r_Model_kept_11, r_Model_kept_12, r_Model_kept_13, r_Model_kept_14, r_Model_kept_15, r_Model_kept_16, r_Model_kept_17, r_Model_kept_20, r_Model_kept_21, r_Model_kept_24, r_Model_kept_25, r_Model_kept_27, r_Model_kept_28, r_Model_kept_30, r_Model_kept_32, r_Model_kept_33, r_Model_kept_36, r_Model_kept_37, r_Model_kept_38, r_Model_kept_41, r_Model_kept_43, r_Model_kept_44, r_Model_kept_47, r_Model_kept_49, r_Model_kept_50, r_Model_kept_53, r_Model_kept_54, r_Model_kept_57, r_Model_kept_59, r_Model_kept_60, r_Model_kept_63, r_Model_kept_64, r_Model_kept_65, r_Model_kept_67, r_Model_kept_70, r_Model_kept_73, r_Model_kept_74, r_Model_kept_75, r_Model_kept_77, r_Model_kept_80, r_Model_kept_83, r_Model_kept_85, xf_Model_kept_50, xf_Model_kept_62, xf_Model_kept_66, xe_Model_kept_712, xe_Model_kept_728, xe_Model_kept_740, xd_Model_kept, xrb_Model_kept, xin_Model_kept, T_Model_live_e, TF_Model_live, T_Model_sizeOf_e, TF_Model_sizeOf, T_Model_livingPlace_e, TF_Model_livingPlace, mh, mp0, mp2, mp3, mp4, mp5, mp6, mp7, mp8, mp9, mp10, mp11, mp12, mp13, mp14, mp15, mp16, mp17, mp18, mp19, mp20, mp21, mp22, mp24, mp25, mp26, mp27, mq0, mq2, mq3, mq4, mq5, mq6, mq7, mq8, mq9, mq10, mq11, mq12, mq13, mq14, mq15, mq16, mq17, mq18, mq19, mq20, mq21, mq22, mq24, mq25, mq26, mq27, Nat.reduceAdd, Nat.reduceMul, Nat.reduceEqDiff, reduceIte, Int.reduceNeg, Int.reduceLE, Int.reduceLT, Int.reduceAdd, Int.reduceSub, Int.reduceToNat, true_and, and_true, inR_e, Nat.reduceLT, Nat.reduceLeDiff, reduceCtorEq, Nat.add_zero, Nat.zero_add, or_false, false_or, or_true, true_or, not_true_eq_false, not_false_eq_true, Classical.not_not, Nat.add_eq_zero_iff, and_false, false_and, Int.reduceEq, List.mem_cons, List.not_mem_nil, forall_eq_or_imp, forall_eq, false_implies, implies_true, forall_const, aargs_0, aargs_i, aargs_r, aargs_l, aargs_n, nfT_e, eq_self, and_self, Nat.le_refl, fu_s, fu_fu, iu_iu, iu_s, fu_am, fu_a0, fu_0a, iu_l, Nat.reduceBEq, Int.reduceBEq, T_objInit_e]; clear mp0 mp2 mp3 mp4 mp5 mp6 mp7 mp8 mp9 mp10 mp11 mp12 mp13 mp14 mp15 mp16 mp17 mp18 mp19 mp20 mp21 mp22 mp24 mp25 mp26 mp27)
      have fR := hS.fnR x
      refine ⟨hL, U, len, st, hMP, fun a => h1.2 (fun z => by omega) σ QF.rf, fun a σ2 f1 f2 => ⟨fun b => ⟨fun _ => ?_, fun z => absurd a z⟩, fun b => h1.2 (fun z => b z.2) σ2 (f1.qf (Or.inl rfl))⟩⟩
      refine ⟨hL, U, len, st, hS, f1.mr (Or.inl rfl) hR, by omega, fun σ3 f3 f4 => ?_⟩
      have q18 : σ3 (o + 18) = σ2 (o + 18) := f3 _ (by omega) (by omega) (by omega)
      rw [hJd]
      refine ⟨hp, rfl, a, b, 0, σ3, (f1.qf (Or.inl rfl)).trans (f3.qf (Or.inr rfl)), by rw [q18]; exact f2, fun z hz => ⟨(f4 z hz).1, ?_⟩, by omega, rfl, rfl⟩
      rw [(f4 z hz).2]
      unfold dmP
      exact Classical.not_not.symm
    · have hpE : (0 ≤ p ∧ p < 3) = False := eq_false hp
      (obtain ⟨mh, mp0, mp2, mp3, mp4, mp5, mp6, mp7, mp8, mp9, mp10, mp11, mp12, mp13, mp14, mp15, mp16, mp17, mp18, mp19, mp20, mp21, mp22, mp24, mp25, mp26, mp27, mq0, mq2, mq3, mq4, mq5, mq6, mq7, mq8, mq9, mq10, mq11, mq12, mq13, mq14, mq15, mq16, mq17, mq18, mq19, mq20, mq21, mq22, mq24, mq25, mq26, mq27⟩ := (show LModel lay ρ _ from hL); unfold wps; simp only [hpE, si_iload_n0, si_iload_n1, si_iload_n2, si_iload_n3, si_iload, si_lload_n0, si_lload_n1, si_lload_n2, si_lload_n3, si_lload, si_aload_n0, si_aload_n1, si_aload_n2, si_aload_n3, si_aload, si_istore_n0, si_istore_n1, si_istore_n2, si_istore_n3, si_istore, si_astore_n0, si_astore_n1, si_astore_n2, si_astore_n3, si_astore, si_lstore_n0, si_lstore_n1, si_lstore_n2, si_lstore_n3, si_lstore, si_iconst, si_bipush, si_sipush, si_ldc, si_ldc2_w, si_lconst0, si_lconst1, si_aconst_null, si_iinc, si_dup, si_dup2, si_iadd, si_isub, si_imul, si_idiv, si_irem, si_iand, si_ior, si_ishl, si_ishr, si_ladd, si_lmul, si_lor, si_lxor, si_lshl, si_lushr, si_lcmp, si_i2b, si_i2l, si_l2i, si_icmp_eq, si_icmp_ne, si_icmp_lt, si_icmp_ge, si_icmp_gt, si_icmp_le, si_if_eq, si_if_ne, si_if_lt, si_if_ge, si_if_gt, si_if_le, si_ifnull, si_ifnonnull, si_goto, si_tableswitch, si_lookupswitch, si_getfield, si_putfield, si_getstatic, si_iaload, si_baload, si_laload, si_aaload, si_iastore, si_bastore, si_lastore, si_aastore, si_arraylength, si_new, si_newarray, si_anewarray, si_invokevirtual, si_invokespecial, si_invokestatic, si_ireturn, si_lreturn, si_areturn, si_return_, pI_e, pL_e, pR_e, pA_r, pA_n, pN_n, pN_r, oI_e, oL_e, oA_r, oA_n, lget_e, lrm1_0, lrm2_0, lrm1_i, lrm1_r, lrm1_n, lrm1_l, lrm2_i, lrm2_r, lrm2_n, lrm2_l, popN_0, popN_s, acat_i, acat_l, acat_r, acat_n, stw_0, stw_s, psh_s, psh_n, wgf_r, wgf_i, wgf_b, wgf_n, wgf_m, wpf_i, wpf_r, wpf_b, wnew_e, callE_e, rbk_0, rbk_1, tsw_0, tsw_s, lsw_0, lsw_s, wp_s, wq_t, wq_f, oV_e, pick_0, pick_s, oZ_e, oY_e, r_Model_kept_0, r_Model_kept_1, r_Model_kept_2, r_Model_kept_3, r_Model_kept_6, r_Model_kept_7, r_Model_kept_8, r_Model_kept_11, r_Model_kept_12, r_Model_kept_13, r_Model_kept_14, r_Model_kept_15, r_Model_kept_16, r_Model_kept_17, r_Model_kept_20, r_Model_kept_21, r_Model_kept_24, r_Model_kept_25, r_Model_kept_27, r_Model_kept_28, r_Model_kept_30, r_Model_kept_32, r_Model_kept_33, r_Model_kept_36, r_Model_kept_37, r_Model_kept_38, r_Model_kept_41, r_Model_kept_43, r_Model_kept_44, r_Model_kept_47, r_Model_kept_49, r_Model_kept_50, r_Model_kept_53, r_Model_kept_54, r_Model_kept_57, r_Model_kept_59, r_Model_kept_60, r_Model_kept_63, r_Model_kept_64, r_Model_kept_65, r_Model_kept_67, r_Model_kept_70, r_Model_kept_73, r_Model_kept_74, r_Model_kept_75, r_Model_kept_77, r_Model_kept_80, r_Model_kept_83, r_Model_kept_85, xf_Model_kept_50, xf_Model_kept_62, xf_Model_kept_66, xe_Model_kept_712, xe_Model_kept_728, xe_Model_kept_740, xd_Model_kept, xrb_Model_kept, xin_Model_kept, T_Model_live_e, TF_Model_live, T_Model_sizeOf_e, TF_Model_sizeOf, T_Model_livingPlace_e, TF_Model_livingPlace, mh, mp0, mp2, mp3, mp4, mp5, mp6, mp7, mp8, mp9, mp10, mp11, mp12, mp13, mp14, mp15, mp16, mp17, mp18, mp19, mp20, mp21, mp22, mp24, mp25, mp26, mp27, mq0, mq2, mq3, mq4, mq5, mq6, mq7, mq8, mq9, mq10, mq11, mq12, mq13, mq14, mq15, mq16, mq17, mq18, mq19, mq20, mq21, mq22, mq24, mq25, mq26, mq27, Nat.reduceAdd, Nat.reduceMul, Nat.reduceEqDiff, reduceIte, Int.reduceNeg, Int.reduceLE, Int.reduceLT, Int.reduceAdd, Int.reduceSub, Int.reduceToNat, true_and, and_true, inR_e, Nat.reduceLT, Nat.reduceLeDiff, reduceCtorEq, Nat.add_zero, Nat.zero_add, or_false, false_or, or_true, true_or, not_true_eq_false, not_false_eq_true, Classical.not_not, Nat.add_eq_zero_iff, and_false, false_and, Int.reduceEq, List.mem_cons, List.not_mem_nil, forall_eq_or_imp, forall_eq, false_implies, implies_true, forall_const, aargs_0, aargs_i, aargs_r, aargs_l, aargs_n, nfT_e, eq_self, and_self, Nat.le_refl, fu_s, fu_fu, iu_iu, iu_s, fu_am, fu_a0, fu_0a, iu_l, Nat.reduceBEq, Int.reduceBEq, T_objInit_e]; clear mp0 mp2 mp3 mp4 mp5 mp6 mp7 mp8 mp9 mp10 mp11 mp12 mp13 mp14 mp15 mp16 mp17 mp18 mp19 mp20 mp21 mp22 mp24 mp25 mp26 mp27)
      exact ⟨hL, U, len, st, hMP, h0 hp⟩
  · intro cp vs M1 hvs hM1 hlen hJ
    rw [hJd] at hJ
    obtain ⟨hp, hJ⟩ := hJ
    have hpE : (0 ≤ p ∧ p < 3) = True := eq_true hp
    replace h1 := h1 hp
    obtain ⟨hS, hR⟩ := hMP hp
    obtain ⟨w0, w1, w2, w3, w4, w5, w6, w7, w8, w9, w10, w11, w12, w13, w14⟩ := (show SW U len st from hS)
    obtain ⟨rfl, a, b, i, σ1, g1, g2, g3, g4, rfl, rfl⟩ := hJ
    have hR1 := (g1.mr hR)
    obtain ⟨hB, hl3, ⟨m4, m5, m6⟩, ⟨m7, m8, m9⟩, m12, ⟨m14, m13⟩, m15, ⟨m17, m16⟩, m26⟩ := (show MR σ1 o p U len st from hR1)
    obtain ⟨b1, b2, b3, b4, b5, b6, b7⟩ := (show MB σ1 o p U len (st 1) from hB)
    have sR := sumP_R (P := fun z => lvP U st z ∧ dmP U st (fn U st x) z) (f := szP U st) (m := 100000) (N := i) (by omega) (fun x hx => hS.szR (by omega))
    (obtain ⟨mh, mp0, mp2, mp3, mp4, mp5, mp6, mp7, mp8, mp9, mp10, mp11, mp12, mp13, mp14, mp15, mp16, mp17, mp18, mp19, mp20, mp21, mp22, mp24, mp25, mp26, mp27, mq0, mq2, mq3, mq4, mq5, mq6, mq7, mq8, mq9, mq10, mq11, mq12, mq13, mq14, mq15, mq16, mq17, mq18, mq19, mq20, mq21, mq22, mq24, mq25, mq26, mq27⟩ := (show LModel lay ρ _ from hL); unfold wps; simp only [Option.getD_some, List.zip_cons_cons, List.zip_nil_left, List.zip_nil_right, List.zip_nil_right, MB_fu, MR_fu, si_iload_n0, si_iload_n1, si_iload_n2, si_iload_n3, si_iload, si_lload_n0, si_lload_n1, si_lload_n2, si_lload_n3, si_lload, si_aload_n0, si_aload_n1, si_aload_n2, si_aload_n3, si_aload, si_istore_n0, si_istore_n1, si_istore_n2, si_istore_n3, si_istore, si_astore_n0, si_astore_n1, si_astore_n2, si_astore_n3, si_astore, si_lstore_n0, si_lstore_n1, si_lstore_n2, si_lstore_n3, si_lstore, si_iconst, si_bipush, si_sipush, si_ldc, si_ldc2_w, si_lconst0, si_lconst1, si_aconst_null, si_iinc, si_dup, si_dup2, si_iadd, si_isub, si_imul, si_idiv, si_irem, si_iand, si_ior, si_ishl, si_ishr, si_ladd, si_lmul, si_lor, si_lxor, si_lshl, si_lushr, si_lcmp, si_i2b, si_i2l, si_l2i, si_icmp_eq, si_icmp_ne, si_icmp_lt, si_icmp_ge, si_icmp_gt, si_icmp_le, si_if_eq, si_if_ne, si_if_lt, si_if_ge, si_if_gt, si_if_le, si_ifnull, si_ifnonnull, si_goto, si_tableswitch, si_lookupswitch, si_getfield, si_putfield, si_getstatic, si_iaload, si_baload, si_laload, si_aaload, si_iastore, si_bastore, si_lastore, si_aastore, si_arraylength, si_new, si_newarray, si_anewarray, si_invokevirtual, si_invokespecial, si_invokestatic, si_ireturn, si_lreturn, si_areturn, si_return_, pI_e, pL_e, pR_e, pA_r, pA_n, pN_n, pN_r, oI_e, oL_e, oA_r, oA_n, lget_e, lrm1_0, lrm2_0, lrm1_i, lrm1_r, lrm1_n, lrm1_l, lrm2_i, lrm2_r, lrm2_n, lrm2_l, popN_0, popN_s, acat_i, acat_l, acat_r, acat_n, stw_0, stw_s, psh_s, psh_n, wgf_r, wgf_i, wgf_b, wgf_n, wgf_m, wpf_i, wpf_r, wpf_b, wnew_e, callE_e, rbk_0, rbk_1, tsw_0, tsw_s, lsw_0, lsw_s, wp_s, wq_t, wq_f, oV_e, pick_0, pick_s, oZ_e, oY_e, r_Model_kept_0, r_Model_kept_1, r_Model_kept_2, r_Model_kept_3, r_Model_kept_6, r_Model_kept_7, r_Model_kept_8, r_Model_kept_11, r_Model_kept_12, r_Model_kept_13, r_Model_kept_14, r_Model_kept_15, r_Model_kept_16, r_Model_kept_17, r_Model_kept_20, r_Model_kept_21, r_Model_kept_24, r_Model_kept_25, r_Model_kept_27, r_Model_kept_28, r_Model_kept_30, r_Model_kept_32, r_Model_kept_33, r_Model_kept_36, r_Model_kept_37, r_Model_kept_38, r_Model_kept_41, r_Model_kept_43, r_Model_kept_44, r_Model_kept_47, r_Model_kept_49, r_Model_kept_50, r_Model_kept_53, r_Model_kept_54, r_Model_kept_57, r_Model_kept_59, r_Model_kept_60, r_Model_kept_63, r_Model_kept_64, r_Model_kept_65, r_Model_kept_67, r_Model_kept_70, r_Model_kept_73, r_Model_kept_74, r_Model_kept_75, r_Model_kept_77, r_Model_kept_80, r_Model_kept_83, r_Model_kept_85, xf_Model_kept_50, xf_Model_kept_62, xf_Model_kept_66, xe_Model_kept_712, xe_Model_kept_728, xe_Model_kept_740, xd_Model_kept, xrb_Model_kept, xin_Model_kept, T_Model_live_e, TF_Model_live, T_Model_sizeOf_e, TF_Model_sizeOf, T_Model_livingPlace_e, TF_Model_livingPlace, mh, mp0, mp2, mp3, mp4, mp5, mp6, mp7, mp8, mp9, mp10, mp11, mp12, mp13, mp14, mp15, mp16, mp17, mp18, mp19, mp20, mp21, mp22, mp24, mp25, mp26, mp27, mq0, mq2, mq3, mq4, mq5, mq6, mq7, mq8, mq9, mq10, mq11, mq12, mq13, mq14, mq15, mq16, mq17, mq18, mq19, mq20, mq21, mq22, mq24, mq25, mq26, mq27, Nat.reduceAdd, Nat.reduceMul, Nat.reduceEqDiff, reduceIte, Int.reduceNeg, Int.reduceLE, Int.reduceLT, Int.reduceAdd, Int.reduceSub, Int.reduceToNat, true_and, and_true, inR_e, Nat.reduceLT, Nat.reduceLeDiff, reduceCtorEq, Nat.add_zero, Nat.zero_add, or_false, false_or, or_true, true_or, not_true_eq_false, not_false_eq_true, Classical.not_not, Nat.add_eq_zero_iff, and_false, false_and, Int.reduceEq, List.mem_cons, List.not_mem_nil, forall_eq_or_imp, forall_eq, false_implies, implies_true, forall_const, aargs_0, aargs_i, aargs_r, aargs_l, aargs_n, nfT_e, eq_self, and_self, Nat.le_refl, fu_s, fu_fu, iu_iu, iu_s, fu_am, fu_a0, fu_0a, iu_l, Nat.reduceBEq, Int.reduceBEq, T_objInit_e]; clear mp0 mp2 mp3 mp4 mp5 mp6 mp7 mp8 mp9 mp10 mp11 mp12 mp13 mp14 mp15 mp16 mp17 mp18 mp19 mp20 mp21 mp22 mp24 mp25 mp26 mp27)
    rw [m14]
    refine ⟨by omega, by omega, fun z => ?_, fun z => ⟨by omega, by omega, ?_⟩⟩
    · have := h1.1 a b σ1 g1
      unfold ktP at this
      rw [show (st 0 7).toNat = i by omega] at this
      exact this
    · have gi := g2 (i : Int) (by omega)
      have gi2 := g3 (i : Int) (by omega)
      have sz1 := hS.szR (i := (i : Int)) (by omega)
      have tv := hS.tv (i := (i : Int)) (by omega)
      have skip : ¬ (lvP U st i ∧ dmP U st (fn U st x) i) → J 30 [vR o, vI p, vI x, vI (fn U st x), vI (sumP (fun z => lvP U st z ∧ dmP U st (fn U st x) z) (szP U st) i), vI ((i : Int) + 1)] (sz, sl, lay, ρ, σ1, τ) := by
        intro h
        rw [hJd]
        refine ⟨hp, rfl, a, b, i + 1, σ1, g1, g2, g3, by omega, ?_, rfl⟩
        rw [sumP_sf h]
        rfl
      refine ⟨fun h => ⟨by omega, by omega, ?_, (by rw [hμ]; simp only [gI_e, List.getD_cons_succ, List.getD_cons_zero]; omega)⟩, fun h => ⟨by omega, by omega, fun h2 => ⟨by omega, by omega, ?_, (by rw [hμ]; simp only [gI_e, List.getD_cons_succ, List.getD_cons_zero]; omega)⟩, fun h2 => ?_⟩⟩
      · rw [Int.add_zero]; exact skip (fun q => by have := gi.2.mpr q.1; omega)
      · rw [Int.add_zero]
        refine skip (fun q => ?_)
        rcases gi2.1 with q2 | q2
        · exact absurd q2 h2
        · exact gi2.2.mp q2 q.2
      · have lvj : lvP U st i := by
          rcases gi.1 with q | q
          · exact absurd q h
          · exact gi.2.mp q
        have dmj : dmP U st (fn U st x) i := Classical.byContradiction (fun q => by have := gi2.2.mpr q; omega)
        rw [m13 i (by omega)]
        refine ⟨hL, U, len, st 1, hB, by omega, tv, fun c => ?_⟩
        rw [show szv U (st 1) (st 2 i) = szP U st i from rfl]
        refine ⟨by omega, by omega, ?_, (by rw [hμ]; simp only [gI_e, List.getD_cons_succ, List.getD_cons_zero]; omega)⟩
        rw [hJd]
        refine ⟨hp, rfl, a, b, i + 1, _, g1.up (b := o + 23) (by omega), ?_, ?_, by omega, ?_, rfl⟩
        · simp only [fu_am, Nat.reduceBEq]; exact g2
        · simp only [fu_am, Nat.reduceBEq]; exact g3
        · rw [sumP_st (P := fun z => lvP U st z ∧ dmP U st (fn U st x) z) ⟨lvj, dmj⟩]
          rfl

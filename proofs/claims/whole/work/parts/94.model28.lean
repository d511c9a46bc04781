theorem co_X11_812 : CallOK RX11 (.invokevirtual 203) (4, 5, 0, 0, T_Model_isLike) := call_V S_Model_isLike (by decide) (ci := 11) rfl (by decide +kernel) (by decide +kernel) (by decide +kernel) (by decide +kernel) (by decide +kernel) (by decide +kernel) T_Model_isLike_r
def TF_Model_groupOf (o : Nat) (p : Int) (x : Int) (sz sl : Nat) (lay : Nat → Nat × Int) (ρ : Nat → Int → Nat) (σ : Nat → Int → Int) (τ : Nat → Int → Int64) (k : Option AV → Mm → Prop) : Prop := LModel lay ρ o ∧ ∃ (U : Int → Int) (len : Int) (st : Nat → Int → Int), SW U len st ∧ MR σ o p U len st ∧ (0 ≤ x ∧ x < st 0 7) ∧ (gpP U st x → ∀ c : Int → Int, k (some (vI (mmP U st x))) (sz, sl, lay, ρ, fu σ (o + 23) c, τ)) ∧ (¬ gpP U st x → ∀ c : Int → Int, k (some (vI (0))) (sz, sl, lay, ρ, fu σ (o + 23) c, τ))
def T_Model_groupOf : Tr := mkT 11 fun o as M k => pI as fun p as => pI as fun x as => as = [] ∧ TF_Model_groupOf o p x M.1 M.2.1 M.2.2.1 M.2.2.2.1 M.2.2.2.2.1 M.2.2.2.2.2 k
theorem T_Model_groupOf_e {o : Nat} {p : Int} {x : Int} {sz sl : Nat} {lay : Nat → Nat × Int} {ρ : Nat → Int → Nat} {σ : Nat → Int → Int} {τ : Nat → Int → Int64} {k : Option AV → Mm → Prop} : T_Model_groupOf [vR o, vI p, vI x] (sz, sl, lay, ρ, σ, τ) k = (lay o = (21, 0) ∧ TF_Model_groupOf o p x sz sl lay ρ σ τ k) := by simp [T_Model_groupOf, mkT_e, pI_e, pR_e, pL_e]
theorem T_Model_groupOf_r (as : List AV) (M : Mm) (k : Option AV → Mm → Prop) (h : T_Model_groupOf as M k) : ∃ b As, as = vR b :: As ∧ M.2.2.1 b = (10 + 11, 0) := by
  obtain ⟨b, As, h1, h2, -⟩ := mkT_r h
  exact ⟨b, As, h1, h2⟩
def tb_Model_groupOf : List (Nat × Option (List Nat) × Instr × List Nat) := [(0, none, .iconst 0, []), (1, none, .istore_n 3, []), (2, none, .iconst 0, []), (3, none, .istore 4, []), (5, some [0, 1, 2, 3, 4], .iload 4, []), (7, none, .aload_n 0, []), (8, none, .getfield 50, []), (11, none, .iload_n 1, []), (12, none, .iaload, []), (13, none, .if_icmp .ge 31, [44]), (16, none, .aload_n 0, []), (17, none, .iload_n 1, []), (18, none, .iload_n 2, []), (19, none, .iload 4, []), (21, none, .invokevirtual 203, []), (24, none, .ifCond .eq 14, [38]), (27, none, .iload 4, []), (29, none, .iload_n 2, []), (30, none, .if_icmp .ge 5, [35]), (33, none, .iconst 0, []), (34, none, .ireturn, []), (35, none, .iinc 3 1, []), (38, none, .iinc 4 1, []), (41, none, .goto (-36), [5]), (44, none, .iload_n 3, []), (45, none, .iconst 1, []), (46, none, .if_icmp .le 7, [53]), (49, none, .iload_n 3, []), (50, none, .goto 4, [54]), (53, none, .iconst 0, []), (54, none, .ireturn, [])]
def P_Model_groupOf : Nat → Option (List Nat) × Instr × List Nat := plk tb_Model_groupOf
theorem r_Model_groupOf_0 : P_Model_groupOf 0 = (none, .iconst 0, []) := by decide +kernel
theorem r_Model_groupOf_1 : P_Model_groupOf 1 = (none, .istore_n 3, []) := by decide +kernel
theorem r_Model_groupOf_2 : P_Model_groupOf 2 = (none, .iconst 0, []) := by decide +kernel
theorem r_Model_groupOf_3 : P_Model_groupOf 3 = (none, .istore 4, []) := by decide +kernel
theorem r_Model_groupOf_5 : P_Model_groupOf 5 = (some [0, 1, 2, 3, 4], .iload 4, []) := by decide +kernel
theorem r_Model_groupOf_7 : P_Model_groupOf 7 = (none, .aload_n 0, []) := by decide +kernel
theorem r_Model_groupOf_8 : P_Model_groupOf 8 = (none, .getfield 50, []) := by decide +kernel
theorem r_Model_groupOf_11 : P_Model_groupOf 11 = (none, .iload_n 1, []) := by decide +kernel
theorem r_Model_groupOf_12 : P_Model_groupOf 12 = (none, .iaload, []) := by decide +kernel
theorem r_Model_groupOf_13 : P_Model_groupOf 13 = (none, .if_icmp .ge 31, [44]) := by decide +kernel
theorem r_Model_groupOf_16 : P_Model_groupOf 16 = (none, .aload_n 0, []) := by decide +kernel
theorem r_Model_groupOf_17 : P_Model_groupOf 17 = (none, .iload_n 1, []) := by decide +kernel
theorem r_Model_groupOf_18 : P_Model_groupOf 18 = (none, .iload_n 2, []) := by decide +kernel
theorem r_Model_groupOf_19 : P_Model_groupOf 19 = (none, .iload 4, []) := by decide +kernel
theorem r_Model_groupOf_21 : P_Model_groupOf 21 = (none, .invokevirtual 203, []) := by decide +kernel
theorem r_Model_groupOf_24 : P_Model_groupOf 24 = (none, .ifCond .eq 14, [38]) := by decide +kernel
theorem r_Model_groupOf_27 : P_Model_groupOf 27 = (none, .iload 4, []) := by decide +kernel
theorem r_Model_groupOf_29 : P_Model_groupOf 29 = (none, .iload_n 2, []) := by decide +kernel
theorem r_Model_groupOf_30 : P_Model_groupOf 30 = (none, .if_icmp .ge 5, [35]) := by decide +kernel
theorem r_Model_groupOf_33 : P_Model_groupOf 33 = (none, .iconst 0, []) := by decide +kernel
theorem r_Model_groupOf_34 : P_Model_groupOf 34 = (none, .ireturn, []) := by decide +kernel
theorem r_Model_groupOf_35 : P_Model_groupOf 35 = (none, .iinc 3 1, []) := by decide +kernel
theorem r_Model_groupOf_38 : P_Model_groupOf 38 = (none, .iinc 4 1, []) := by decide +kernel
theorem r_Model_groupOf_41 : P_Model_groupOf 41 = (none, .goto (-36), [5]) := by decide +kernel
theorem r_Model_groupOf_44 : P_Model_groupOf 44 = (none, .iload_n 3, []) := by decide +kernel
theorem r_Model_groupOf_45 : P_Model_groupOf 45 = (none, .iconst 1, []) := by decide +kernel
theorem r_Model_groupOf_46 : P_Model_groupOf 46 = (none, .if_icmp .le 7, [53]) := by decide +kernel
theorem r_Model_groupOf_49 : P_Model_groupOf 49 = (none, .iload_n 3, []) := by decide +kernel
theorem r_Model_groupOf_50 : P_Model_groupOf 50 = (none, .goto 4, [54]) := by decide +kernel
theorem r_Model_groupOf_53 : P_Model_groupOf 53 = (none, .iconst 0, []) := by decide +kernel
theorem r_Model_groupOf_54 : P_Model_groupOf 54 = (none, .ireturn, []) := by decide +kernel
def E_Model_groupOf : List (Nat × Ent) := [(812, (4, 5, 0, 0, T_Model_isLike))]
def X_Model_groupOf : Cx := (llk (0, 0, 9) ftX11, llk 99 ntX11, llk none kcX11, llk none klX11, llk dEnt E_Model_groupOf, 6, 0, false)
theorem xok_Model_groupOf : Xok RX11 X_Model_groupOf := xok_of ftX11_ok ntX11_ok kcX11_ok klX11_ok (E := E_Model_groupOf) (List.forall_mem_cons.mpr ⟨co_X11_812, fun _ h => absurd h List.not_mem_nil⟩)
theorem xf_Model_groupOf_50 : xfl X_Model_groupOf 50 = (11, 14, 1) := by decide +kernel
theorem xe_Model_groupOf_812 : xE X_Model_groupOf (4 * 203 + 0) = (4, 5, 0, 0, T_Model_isLike) := rfl
theorem xd_Model_groupOf : xd X_Model_groupOf = 6 := rfl
theorem xrb_Model_groupOf : xrb X_Model_groupOf = 0 := rfl
theorem xin_Model_groupOf : xin X_Model_groupOf = false := rfl
set_option maxHeartbeats 4000000 in
set_option maxRecDepth 100000 in
theorem S_Model_groupOf : Snd yX11_groupOf cX11_groupOf 5 (some .int) T_Model_groupOf 6 0 0 := by
  refine snd_of (X := X_Model_groupOf) (P := P_Model_groupOf) (tb := tb_Model_groupOf) (own := RX11) (by decide) rfl rfl (by decide +kernel) xok_Model_groupOf rfl rk0 (fun h => by first | rfl | cases h) ?_
  intro as M k has hM hT0
  obtain ⟨sz, sl, lay, ρ, σ, τ⟩ := M
  obtain ⟨o, as1, e, hlo, hT1⟩ := mkT_r hT0
  clear hT0
  subst e
  obtain ⟨p, as2, e, hT2⟩ := pI_x hT1
  clear hT1
  subst e
  obtain ⟨x, as3, e, hT3⟩ := pI_x hT2
  clear hT2
  subst e
  obtain ⟨e, hT⟩ := hT3
  subst e
  replace hlo : lay o = (21, 0) := hlo
  have r_p : -2147483648 ≤ p ∧ p ≤ 2147483647 := has (vI p) (by simp)
  have r_x : -2147483648 ≤ x ∧ x ≤ 2147483647 := has (vI x) (by simp)
  clear has
  replace hM : ∀ a i, -2147483648 ≤ σ a i ∧ σ a i ≤ 2147483647 := hM
  replace hT : TF_Model_groupOf o p x sz sl lay ρ σ τ k := hT
  unfold TF_Model_groupOf at hT
  obtain ⟨hL, U, len, st, hS, hR, hx, h1, h0⟩ := hT
  obtain ⟨hB, hl3, ⟨m4, m5, m6⟩, ⟨m7, m8, m9⟩, m12, ⟨m14, m13⟩, m15, ⟨m17, m16⟩, m26⟩ := (show MR σ o p U len st from hR)
  obtain ⟨b1, b2, b3, b4, b5, b6, b7⟩ := (show MB σ o p U len (st 1) from hB)
  obtain ⟨w0, w1, w2, w3, w4, w5, w6, w7, w8, w9, w10, w11, w12, w13, w14⟩ := (show SW U len st from hS)
  obtain ⟨J, hJd⟩ : ∃ J : Nat → List AV → Mm → Prop, J = (fun c vs M1 => c = 5 ∧ ∃ (c : Int → Int) (i : Nat), (i : Int) ≤ st 0 7 ∧ (∀ y : Int, 0 ≤ y ∧ y < i → y < x → ¬ (rwP U st x ∧ rwP U st y ∧ LkP U st x y)) ∧ vs = [vR o, vI p, vI x, vI (cntP (fun y => (rwP U st x ∧ rwP U st y ∧ LkP U st x y)) i), vI (i : Int)] ∧ M1 = (sz, sl, lay, ρ, fu σ (o + 23) c, τ)) := ⟨_, rfl⟩
  obtain ⟨μ, hμ⟩ : ∃ μ : Nat → List AV → Mm → Nat, μ = (fun _ vs _ => (1000 - gI (vs.getD 4 vN)).toNat) := ⟨_, rfl⟩
  refine ⟨Nat.le_of_ble_eq_true rfl, J, μ, 39, ?_, ?_⟩
  · obtain ⟨mh, mp0, mp2, mp3, mp4, mp5, mp6, mp7, mp8, mp9, mp10, mp11, mp12, mp13, mp14, mp15, mp16, mp17, mp18, mp19, mp20, mp21, mp22, mp24, mp25, mp26, mp27, mq0, mq2, mq3, mq4, mq5, mq6, mq7, mq8, mq9, mq10, mq11, mq12, mq13, mq14, mq15, mq16, mq17, mq18, mq19, mq20, mq21, mq22, mq24, mq25, mq26, mq27⟩ := (show LModel lay ρ _ from hL)
    unfold wps
    simp only [si_iload_n0, si_iload_n1, si_iload_n2, si_iload_n3, si_iload, si_lload_n0, si_lload_n1, si_lload_n2, si_lload_n3, si_lload, si_aload_n0, si_aload_n1, si_aload_n2, si_aload_n3, si_aload, si_istore_n0, si_istore_n1, si_istore_n2, si_istore_n3, si_istore, si_astore_n0, si_astore_n1, si_astore_n2, si_astore_n3, si_astore, si_lstore_n0, si_lstore_n1, si_lstore_n2, si_lstore_n3, si_lstore, si_iconst, si_bipush, si_sipush, si_ldc, si_ldc2_w, si_lconst0, si_lconst1, si_aconst_null, si_iinc, si_dup, si_dup2, si_iadd, si_isub, si_imul, si_idiv, si_irem, si_iand, si_ior, si_ishl, si_ishr, si_ladd, si_lmul, si_lor, si_lxor, si_lshl, si_lushr, si_lcmp, si_i2b, si_i2l, si_l2i, si_icmp_eq, si_icmp_ne, si_icmp_lt, si_icmp_ge, si_icmp_gt, si_icmp_le, si_if_eq, si_if_ne, si_if_lt, si_if_ge, si_if_gt, si_if_le, si_ifnull, si_ifnonnull, si_goto, si_tableswitch, si_lookupswitch, si_getfield, si_putfield, si_getstatic, si_iaload, si_baload, si_laload, si_aaload, si_iastore, si_bastore, si_lastore, si_aastore, si_arraylength, si_new, si_newarray, si_anewarray, si_invokevirtual, si_invokespecial, si_invokestatic, si_ireturn, si_lreturn, si_areturn, si_return_, pI_e, pL_e, pR_e, pA_r, pA_n, pN_n, pN_r, oI_e, oL_e, oA_r, oA_n, lget_e, lrm1_0, lrm2_0, lrm1_i, lrm1_r, lrm1_n, lrm1_l, lrm2_i, lrm2_r, lrm2_n, lrm2_l, popN_0, popN_s, acat_i, acat_l, acat_r, acat_n, stw_0, stw_s, psh_s, psh_n, wgf_r, wgf_i, wgf_b, wgf_n, wgf_m, wpf_i, wpf_r, wpf_b, wnew_e, callE_e, rbk_0, rbk_1, tsw_0, tsw_s, lsw_0, lsw_s, wp_s, wq_t, wq_f, oV_e, pick_0, pick_s, oZ_e, oY_e, r_Model_groupOf_0, r_Model_groupOf_1, r_Model_groupOf_2, r_Model_groupOf_3, r_Model_groupOf_5, r_Model_groupOf_7, r_Model_groupOf_8, r_Model_groupOf_11, r_Model_groupOf_12, r_Model_groupOf_13, r_Model_groupOf_16, r_Model_groupOf_17, r_Model_groupOf_18, r_Model_groupOf_19, r_Model_groupOf_21, r_Model_groupOf_24, r_Model_groupOf_27, r_Model_groupOf_29, r_Model_groupOf_30, r_Model_groupOf_33, r_Model_groupOf_34, r_Model_groupOf_35, r_Model_groupOf_38, r_Model_groupOf_41, r_Model_groupOf_44, r_Model_groupOf_45, r_Model_groupOf_46, r_Model_groupOf_49, r_Model_groupOf_50, r_Model_groupOf_53, r_Model_groupOf_54, xf_Model_groupOf_50, xe_Model_groupOf_812, xd_Model_groupOf, xrb_Model_groupOf, xin_Model_groupOf, T_Model_isLike_e, TF_Model_isLike, mh, mp0, mp2, mp3, mp4, mp5, mp6, mp7, mp8, mp9, mp10, mp11, mp12, mp13, mp14, mp15, mp16, mp17, mp18, mp19, mp20, mp21, mp22, mp24, mp25, mp26, mp27, mq0, mq2, mq3, mq4, mq5, mq6, mq7, mq8, mq9, mq10, mq11, mq12, mq13, mq14, mq15, mq16, mq17, mq18, mq19, mq20, mq21, mq22, mq24, mq25, mq26, mq27, Nat.reduceAdd, Nat.reduceMul, Nat.reduceEqDiff, reduceIte, Int.reduceNeg, Int.reduceLE, Int.reduceLT, Int.reduceAdd, Int.reduceSub, Int.reduceToNat, true_and, and_true, inR_e, Nat.reduceLT, Nat.reduceLeDiff, reduceCtorEq, Nat.add_zero, Nat.zero_add, or_false, false_or, or_true, true_or, not_true_eq_false, not_false_eq_true, Classical.not_not, Nat.add_eq_zero_iff, and_false, false_and, Int.reduceEq, List.mem_cons, List.not_mem_nil, forall_eq_or_imp, forall_eq, false_implies, implies_true, forall_const, aargs_0, aargs_i, aargs_r, aargs_l, aargs_n, nfT_e, eq_self, and_self, Nat.le_refl, fu_s, fu_fu, iu_iu, iu_s, fu_am, fu_a0, fu_0a, iu_l, Nat.reduceBEq, Int.reduceBEq, T_objInit_e]
    clear mp0 mp2 mp3 mp4 mp5 mp6 mp7 mp8 mp9 mp10 mp11 mp12 mp13 mp14 mp15 mp16 mp17 mp18 mp19 mp20 mp21 mp22 mp24 mp25 mp26 mp27
    rw [hJd]
    exact ⟨rfl, σ (o + 23), 0, by omega, fun y hy => by omega, rfl, by rw [fu_self]⟩
  · intro cp vs M1 hvs hM1 hlen hJ
    rw [hJd] at hJ
    obtain ⟨rfl, c, i, g1, g2, rfl, rfl⟩ := hJ
    have cR := cntP_R (P := fun y => (rwP U st x ∧ rwP U st y ∧ LkP U st x y)) (N := i)
    (obtain ⟨mh, mp0, mp2, mp3, mp4, mp5, mp6, mp7, mp8, mp9, mp10, mp11, mp12, mp13, mp14, mp15, mp16, mp17, mp18, mp19, mp20, mp21, mp22, mp24, mp25, mp26, mp27, mq0, mq2, mq3, mq4, mq5, mq6, mq7, mq8, mq9, mq10, mq11, mq12, mq13, mq14, mq15, mq16, mq17, mq18, mq19, mq20, mq21, mq22, mq24, mq25, mq26, mq27⟩ := (show LModel lay ρ _ from hL); unfold wps; simp only [Option.getD_some, List.zip_cons_cons, List.zip_nil_left, List.zip_nil_right, List.zip_nil_right, MB_fu, MR_fu, si_iload_n0, si_iload_n1, si_iload_n2, si_iload_n3, si_iload, si_lload_n0, si_lload_n1, si_lload_n2, si_lload_n3, si_lload, si_aload_n0, si_aload_n1, si_aload_n2, si_aload_n3, si_aload, si_istore_n0, si_istore_n1, si_istore_n2, si_istore_n3, si_istore, si_astore_n0, si_astore_n1, si_astore_n2, si_astore_n3, si_astore, si_lstore_n0, si_lstore_n1, si_lstore_n2, si_lstore_n3, si_lstore, si_iconst, si_bipush, si_sipush, si_ldc, si_ldc2_w, si_lconst0, si_lconst1, si_aconst_null, si_iinc, si_dup, si_dup2, si_iadd, si_isub, si_imul, si_idiv, si_irem, si_iand, si_ior, si_ishl, si_ishr, si_ladd, si_lmul, si_lor, si_lxor, si_lshl, si_lushr, si_lcmp, si_i2b, si_i2l, si_l2i, si_icmp_eq, si_icmp_ne, si_icmp_lt, si_icmp_ge, si_icmp_gt, si_icmp_le, si_if_eq, si_if_ne, si_if_lt, si_if_ge, si_if_gt, si_if_le, si_ifnull, si_ifnonnull, si_goto, si_tableswitch, si_lookupswitch, si_getfield, si_putfield, si_getstatic, si_iaload, si_baload, si_laload, si_aaload, si_iastore, si_bastore, si_lastore, si_aastore, si_arraylength, si_new, si_newarray, si_anewarray, si_invokevirtual, si_invokespecial, si_invokestatic, si_ireturn, si_lreturn, si_areturn, si_return_, pI_e, pL_e, pR_e, pA_r, pA_n, pN_n, pN_r, oI_e, oL_e, oA_r, oA_n, lget_e, lrm1_0, lrm2_0, lrm1_i, lrm1_r, lrm1_n, lrm1_l, lrm2_i, lrm2_r, lrm2_n, lrm2_l, popN_0, popN_s, acat_i, acat_l, acat_r, acat_n, stw_0, stw_s, psh_s, psh_n, wgf_r, wgf_i, wgf_b, wgf_n, wgf_m, wpf_i, wpf_r, wpf_b, wnew_e, callE_e, rbk_0, rbk_1, tsw_0, tsw_s, lsw_0, lsw_s, wp_s, wq_t, wq_f, oV_e, pick_0, pick_s, oZ_e, oY_e, r_Model_groupOf_0, r_Model_groupOf_1, r_Model_groupOf_2, r_Model_groupOf_3, r_Model_groupOf_5, r_Model_groupOf_7, r_Model_groupOf_8, r_Model_groupOf_11, r_Model_groupOf_12, r_Model_groupOf_13, r_Model_groupOf_16, r_Model_groupOf_17, r_Model_groupOf_18, r_Model_groupOf_19, r_Model_groupOf_21, r_Model_groupOf_24, r_Model_groupOf_27, r_Model_groupOf_29, r_Model_groupOf_30, r_Model_groupOf_33, r_Model_groupOf_34, r_Model_groupOf_35, r_Model_groupOf_38, r_Model_groupOf_41, r_Model_groupOf_44, r_Model_groupOf_45, r_Model_groupOf_46, r_Model_groupOf_49, r_Model_groupOf_50, r_Model_groupOf_53, r_Model_groupOf_54, xf_Model_groupOf_50, xe_Model_groupOf_812, xd_Model_groupOf, xrb_Model_groupOf, xin_Model_groupOf, T_Model_isLike_e, TF_Model_isLike, mh, mp0, mp2, mp3, mp4, mp5, mp6, mp7, mp8, mp9, mp10, mp11, mp12, mp13, mp14, mp15, mp16, mp17, mp18, mp19, mp20, mp21, mp22, mp24, mp25, mp26, mp27, mq0, mq2, mq3, mq4, mq5, mq6, mq7, mq8, mq9, mq10, mq11, mq12, mq13, mq14, mq15, mq16, mq17, mq18, mq19, mq20, mq21, mq22, mq24, mq25, mq26, mq27, Nat.reduceAdd, Nat.reduceMul, Nat.reduceEqDiff, reduceIte, Int.reduceNeg, Int.reduceLE, Int.reduceLT, Int.reduceAdd, Int.reduceSub, Int.reduceToNat, true_and, and_true, inR_e, Nat.reduceLT, Nat.reduceLeDiff, reduceCtorEq, Nat.add_zero, Nat.zero_add, or_false, false_or, or_true, true_or, not_true_eq_false, not_false_eq_true, Classical.not_not, Nat.add_eq_zero_iff, and_false, false_and, Int.reduceEq, List.mem_cons, List.not_mem_nil, forall_eq_or_imp, forall_eq, false_implies, implies_true, forall_const, aargs_0, aargs_i, aargs_r, aargs_l, aargs_n, nfT_e, eq_self, and_self, Nat.le_refl, fu_s, fu_fu, iu_iu, iu_s, fu_am, fu_a0, fu_0a, iu_l, Nat.reduceBEq, Int.reduceBEq, T_objInit_e]; clear mp0 mp2 mp3 mp4 mp5 mp6 mp7 mp8 mp9 mp10 mp11 mp12 mp13 mp14 mp15 mp16 mp17 mp18 mp19 mp20 mp21 mp22 mp24 mp25 mp26 mp27)
    rw [m14]
    refine ⟨by omega, by omega, fun z => ?_, fun z => ⟨hL, U, len, st, hS, hR, hx, by omega, fun lk d => ?_, fun lk d => ⟨by omega, ?_, (by rw [hμ]; simp only [gI_e, List.getD_cons_succ, List.getD_cons_zero]; omega)⟩⟩⟩
    · have ei : i = (st 0 7).toNat := by omega
      have em : rwP U st x → cntP (fun y => (rwP U st x ∧ rwP U st y ∧ LkP U st x y)) i = mmP U st x := fun r => by
        unfold mmP
        rw [ei]
        exact cntP_c (fun y _ => ⟨fun q => ⟨q.2.1, q.2.2⟩, fun q => ⟨r, q.1, q.2⟩⟩)
      refine ⟨fun a => h0 (fun q => ?_) c, fun a => ?_⟩
      · rw [em q.1.1] at a
        have := q.2
        omega
      · have ex := cntP_hit (P := fun y => (rwP U st x ∧ rwP U st y ∧ LkP U st x y)) (i := 0) i (by omega)
        obtain ⟨y, y1, y2, y3⟩ := ex
        rw [em y2.1]
        rw [em y2.1] at a
        refine h1 ⟨⟨y2.1, fun y hy ry lk => ?_⟩, by omega⟩ c
        exact g2 y (by omega) hy.2 ⟨y2.1, ry, lk.sy⟩
    · refine ⟨fun a => ⟨by omega, by omega, ?_, (by rw [hμ]; simp only [gI_e, List.getD_cons_succ, List.getD_cons_zero]; omega)⟩, fun a => h0 (fun q => ?_) d⟩
      · rw [hJd]
        refine ⟨rfl, d, i + 1, by omega, fun y hy hyx => ?_, ?_, rfl⟩
        · exact g2 y (by omega) hyx
        · rw [cntP_st (P := fun y => (rwP U st x ∧ rwP U st y ∧ LkP U st x y)) lk]
          rfl
      · exact q.1.2 i (by omega) lk.2.1 lk.2.2.sy
    · rw [hJd]
      refine ⟨rfl, d, i + 1, by omega, fun y hy hyx => ?_, ?_, rfl⟩
      · by_cases e : y = i
        · rw [e]; exact lk
        · exact g2 y (by omega) hyx
      · rw [cntP_sf (P := fun y => (rwP U st x ∧ rwP U st y ∧ LkP U st x y)) lk]
        rfl
theorem co_X11_824 : CallOK RX11 (.invokevirtual 206) (3, 6, 0, 0, T_Model_groupOf) := call_V S_Model_groupOf (by decide) (ci := 11) rfl (by decide +kernel) (by decide +kernel) (by decide +kernel) (by decide +kernel) (by decide +kernel) (by decide +kernel) T_Model_groupOf_r
def TF_Model_groups (o : Nat) (p : Int) (sz sl : Nat) (lay : Nat → Nat × Int) (ρ : Nat → Int → Nat) (σ : Nat → Int → Int) (τ : Nat → Int → Int64) (k : Option AV → Mm → Prop) : Prop := LModel lay ρ o ∧ ∃ (U : Int → Int) (len : Int) (st : Nat → Int → Int), MdP σ o p U len st ∧ (0 ≤ p ∧ p < 3 → ∀ σ2 : Nat → Int → Int, QF σ σ2 o → k (some (vI (cntP (gpP U st) (st 0 7).toNat))) (sz, sl, lay, ρ, σ2, τ)) ∧ (¬ (0 ≤ p ∧ p < 3) → k (some (vI (-1))) (sz, sl, lay, ρ, σ, τ))
def T_Model_groups : Tr := mkT 11 fun o as M k => pI as fun p as => as = [] ∧ TF_Model_groups o p M.1 M.2.1 M.2.2.1 M.2.2.2.1 M.2.2.2.2.1 M.2.2.2.2.2 k
theorem T_Model_groups_e {o : Nat} {p : Int} {sz sl : Nat} {lay : Nat → Nat × Int} {ρ : Nat → Int → Nat} {σ : Nat → Int → Int} {τ : Nat → Int → Int64} {k : Option AV → Mm → Prop} : T_Model_groups [vR o, vI p] (sz, sl, lay, ρ, σ, τ) k = (lay o = (21, 0) ∧ TF_Model_groups o p sz sl lay ρ σ τ k) := by simp [T_Model_groups, mkT_e, pI_e, pR_e, pL_e]
theorem T_Model_groups_r (as : List AV) (M : Mm) (k : Option AV → Mm → Prop) (h : T_Model_groups as M k) : ∃ b As, as = vR b :: As ∧ M.2.2.1 b = (10 + 11, 0) := by
  obtain ⟨b, As, h1, h2, -⟩ := mkT_r h
  exact ⟨b, As, h1, h2⟩
def tb_Model_groups : List (Nat × Option (List Nat) × Instr × List Nat) := [(0, none, .iload_n 1, []), (1, none, .invokestatic 161, []), (4, none, .ifCond .ne 5, [9]), (7, none, .iconst (-1), []), (8, none, .ireturn, []), (9, none, .iconst 0, []), (10, none, .istore_n 2, []), (11, none, .iconst 0, []), (12, none, .istore_n 3, []), (13, some [0, 1, 2, 3], .iload_n 3, []), (14, none, .aload_n 0, []), (15, none, .getfield 50, []), (18, none, .iload_n 1, []), (19, none, .iaload, []), (20, none, .if_icmp .ge 26, [46]), (23, none, .iload_n 2, []), (24, none, .aload_n 0, []), (25, none, .iload_n 1, []), (26, none, .iload_n 3, []), (27, none, .invokevirtual 206, []), (30, none, .ifCond .le 7, [37]), (33, none, .iconst 1, []), (34, none, .goto 4, [38]), (37, none, .iconst 0, []), (38, none, .iadd, []), (39, none, .istore_n 2, []), (40, none, .iinc 3 1, []), (43, none, .goto (-30), [13]), (46, none, .iload_n 2, []), (47, none, .ireturn, [])]
def P_Model_groups : Nat → Option (List Nat) × Instr × List Nat := plk tb_Model_groups
theorem r_Model_groups_0 : P_Model_groups 0 = (none, .iload_n 1, []) := by decide +kernel
theorem r_Model_groups_1 : P_Model_groups 1 = (none, .invokestatic 161, []) := by decide +kernel
theorem r_Model_groups_4 : P_Model_groups 4 = (none, .ifCond .ne 5, [9]) := by decide +kernel
theorem r_Model_groups_7 : P_Model_groups 7 = (none, .iconst (-1), []) := by decide +kernel
theorem r_Model_groups_8 : P_Model_groups 8 = (none, .ireturn, []) := by decide +kernel
theorem r_Model_groups_9 : P_Model_groups 9 = (none, .iconst 0, []) := by decide +kernel
theorem r_Model_groups_10 : P_Model_groups 10 = (none, .istore_n 2, []) := by decide +kernel
theorem r_Model_groups_11 : P_Model_groups 11 = (none, .iconst 0, []) := by decide +kernel
theorem r_Model_groups_12 : P_Model_groups 12 = (none, .istore_n 3, []) := by decide +kernel
theorem r_Model_groups_13 : P_Model_groups 13 = (some [0, 1, 2, 3], .iload_n 3, []) := by decide +kernel
theorem r_Model_groups_14 : P_Model_groups 14 = (none, .aload_n 0, []) := by decide +kernel
theorem r_Model_groups_15 : P_Model_groups 15 = (none, .getfield 50, []) := by decide +kernel
theorem r_Model_groups_18 : P_Model_groups 18 = (none, .iload_n 1, []) := by decide +kernel
theorem r_Model_groups_19 : P_Model_groups 19 = (none, .iaload, []) := by decide +kernel
theorem r_Model_groups_20 : P_Model_groups 20 = (none, .if_icmp .ge 26, [46]) := by decide +kernel
theorem r_Model_groups_23 : P_Model_groups 23 = (none, .iload_n 2, []) := by decide +kernel
theorem r_Model_groups_24 : P_Model_groups 24 = (none, .aload_n 0, []) := by decide +kernel
theorem r_Model_groups_25 : P_Model_groups 25 = (none, .iload_n 1, []) := by decide +kernel
theorem r_Model_groups_26 : P_Model_groups 26 = (none, .iload_n 3, []) := by decide +kernel
theorem r_Model_groups_27 : P_Model_groups 27 = (none, .invokevirtual 206, []) := by decide +kernel
theorem r_Model_groups_30 : P_Model_groups 30 = (none, .ifCond .le 7, [37]) := by decide +kernel
theorem r_Model_groups_33 : P_Model_groups 33 = (none, .iconst 1, []) := by decide +kernel
theorem r_Model_groups_34 : P_Model_groups 34 = (none, .goto 4, [38]) := by decide +kernel
theorem r_Model_groups_37 : P_Model_groups 37 = (none, .iconst 0, []) := by decide +kernel
theorem r_Model_groups_38 : P_Model_groups 38 = (none, .iadd, []) := by decide +kernel
theorem r_Model_groups_39 : P_Model_groups 39 = (none, .istore_n 2, []) := by decide +kernel
theorem r_Model_groups_40 : P_Model_groups 40 = (none, .iinc 3 1, []) := by decide +kernel
theorem r_Model_groups_43 : P_Model_groups 43 = (none, .goto (-30), [13]) := by decide +kernel
theorem r_Model_groups_46 : P_Model_groups 46 = (none, .iload_n 2, []) := by decide +kernel
theorem r_Model_groups_47 : P_Model_groups 47 = (none, .ireturn, []) := by decide +kernel
def E_Model_groups : List (Nat × Ent) := [(646, (1, 0, 0, 0, T_Model_isPicture)), (824, (3, 6, 0, 0, T_Model_groupOf))]
def X_Model_groups : Cx := (llk (0, 0, 9) ftX11, llk 99 ntX11, llk none kcX11, llk none klX11, llk dEnt E_Model_groups, 7, 0, false)
theorem xok_Model_groups : Xok RX11 X_Model_groups := xok_of ftX11_ok ntX11_ok kcX11_ok klX11_ok (E := E_Model_groups) (List.forall_mem_cons.mpr ⟨co_X11_646, List.forall_mem_cons.mpr ⟨co_X11_824, fun _ h => absurd h List.not_mem_nil⟩⟩)
theorem xf_Model_groups_50 : xfl X_Model_groups 50 = (11, 14, 1) := by decide +kernel
theorem xe_Model_groups_646 : xE X_Model_groups (4 * 161 + 2) = (1, 0, 0, 0, T_Model_isPicture) := rfl
theorem xe_Model_groups_824 : xE X_Model_groups (4 * 206 + 0) = (3, 6, 0, 0, T_Model_groupOf) := rfl
theorem xd_Model_groups : xd X_Model_groups = 7 := rfl
theorem xrb_Model_groups : xrb X_Model_groups = 0 := rfl
theorem xin_Model_groups : xin X_Model_groups = false := rfl
set_option maxHeartbeats 4000000 in
set_option maxRecDepth 100000 in
theorem S_Model_groups : Snd yX11_groups cX11_groups 4 (some .int) T_Model_groups 7 0 0 := by
  refine snd_of (X := X_Model_groups) (P := P_Model_groups) (tb := tb_Model_groups) (own := RX11) (by decide) rfl rfl (by decide +kernel) xok_Model_groups rfl rk0 (fun h => by first | rfl | cases h) ?_
  intro as M k has hM hT0
  obtain ⟨sz, sl, lay, ρ, σ, τ⟩ := M
  obtain ⟨o, as1, e, hlo, hT1⟩ := mkT_r hT0
  clear hT0
  subst e
  obtain ⟨p, as2, e, hT2⟩ := pI_x hT1
  clear hT1
  subst e
  obtain ⟨e, hT⟩ := hT2
  subst e
  replace hlo : lay o = (21, 0) := hlo
  have r_p : -2147483648 ≤ p ∧ p ≤ 2147483647 := has (vI p) (by simp)
  clear has
  replace hM : ∀ a i, -2147483648 ≤ σ a i ∧ σ a i ≤ 2147483647 := hM
  replace hT : TF_Model_groups o p sz sl lay ρ σ τ k := hT
  unfold TF_Model_groups at hT
  obtain ⟨hL, U, len, st, hMP, h1, h0⟩ := hT
  obtain ⟨J, hJd⟩ : ∃ J : Nat → List AV → Mm → Prop, J = (fun c vs M1 => (0 ≤ p ∧ p < 3) ∧ (c = 13 ∧ ∃ (c : Int → Int) (i : Nat), (i : Int) ≤ st 0 7 ∧ vs = [vR o, vI p, vI (cntP (gpP U st) i), vI (i : Int)] ∧ M1 = (sz, sl, lay, ρ, fu σ (o + 23) c, τ))) := ⟨_, rfl⟩
  obtain ⟨μ, hμ⟩ : ∃ μ : Nat → List AV → Mm → Nat, μ = (fun _ vs _ => (1000 - gI (vs.getD 3 vN)).toNat) := ⟨_, rfl⟩
  refine ⟨Nat.le_of_ble_eq_true rfl, J, μ, 38, ?_, ?_⟩
  · skip
    by_cases hp : 0 ≤ p ∧ p < 3
    · have hpE : (0 ≤ p ∧ p < 3) = True := eq_true hp
      replace h1 := h1 hp
      obtain ⟨hS, hR⟩ := hMP hp
      obtain ⟨hB, hl3, ⟨m4, m5, m6⟩, ⟨m7, m8, m9⟩, m12, ⟨m14, m13⟩, m15, ⟨m17, m16⟩, m26⟩ := (show MR σ o p U len st from hR)
      obtain ⟨b1, b2, b3, b4, b5, b6, b7⟩ := (show MB σ o p U len (st 1) from hB)
      obtain ⟨w0, w1, w2, w3, w4, w5, w6, w7, w8, w9, w10, w11, w12, w13, w14⟩ := (show SW U len st from hS)
      (obtain ⟨mh, mp0, mp2, mp3, mp4, mp5, mp6, mp7, mp8, mp9, mp10, mp11, mp12, mp13, mp14, mp15, mp16, mp17, mp18, mp19, mp20, mp21, mp22, mp24, mp25, mp26, mp27, mq0, mq2, mq3, mq4, mq5, mq6, mq7, mq8, mq9, mq10, mq11, mq12, mq13, mq14, mq15, mq16, mq17, mq18, mq19, mq20, mq21, mq22, mq24, mq25, mq26, mq27⟩ := (show LModel lay ρ _ from hL); unfold wps; simp only [hpE, find_e hL hS hR, si_iload_n0, si_iload_n1, si_iload_n2, si_iload_n3, si_iload, si_lload_n0, si_lload_n1, si_lload_n2, si_lload_n3, si_lload, si_aload_n0, si_aload_n1, si_aload_n2, si_aload_n3, si_aload, si_istore_n0, si_istore_n1, si_istore_n2, si_istore_n3, si_istore, si_astore_n0, si_astore_n1, si_astore_n2, si_astore_n3, si_astore, si_lstore_n0, si_lstore_n1, si_lstore_n2, si_lstore_n3, si_lstore, si_iconst, si_bipush, si_sipush, si_ldc, si_ldc2_w, si_lconst0, si_lconst1, si_aconst_null, si_iinc, si_dup, si_dup2, si_iadd, si_isub, si_imul, si_idiv, si_irem, si_iand, si_ior, si_ishl, si_ishr, si_ladd, si_lmul, si_lor, si_lxor, si_lshl, si_lushr, si_lcmp, si_i2b, si_i2l, si_l2i, si_icmp_eq, si_icmp_ne, si_icmp_lt, si_icmp_ge, si_icmp_gt, si_icmp_le, si_if_eq, si_if_ne, si_if_lt, si_if_ge, si_if_gt, si_if_le, si_ifnull, si_ifnonnull, si_goto, si_tableswitch, si_lookupswitch, si_getfield, si_putfield, si_getstatic, si_iaload, si_baload, si_laload, si_aaload, si_iastore, si_bastore, si_lastore, si_aastore, si_arraylength, si_new, si_newarray, si_anewarray, si_invokevirtual, si_invokespecial, si_invokestatic, si_ireturn, si_lreturn, si_areturn, si_return_, pI_e, pL_e, pR_e, pA_r, pA_n, pN_n, pN_r, oI_e, oL_e, oA_r, oA_n, lget_e, lrm1_0, lrm2_0, lrm1_i, lrm1_r, lrm1_n, lrm1_l, lrm2_i, lrm2_r, lrm2_n, lrm2_l, popN_0, popN_s, acat_i, acat_l, acat_r, acat_n, stw_0, stw_s, psh_s, psh_n, wgf_r, wgf_i, wgf_b, wgf_n, wgf_m, wpf_i, wpf_r, wpf_b, wnew_e, callE_e, rbk_0, rbk_1, tsw_0, tsw_s, lsw_0, lsw_s, wp_s, wq_t, wq_f, oV_e, pick_0, pick_s, oZ_e, oY_e, r_Model_groups_0, r_Model_groups_1, r_Model_groups_4, r_Model_groups_7, r_Model_groups_8, r_Model_groups_9, r_Model_groups_10, r_Model_groups_11, r_Model_groups_12, r_Model_groups_13, r_Model_groups_14, r_Model_groups_15, r_Model_groups_18, r_Model_groups_19, r_Model_groups_20, r_Model_groups_23, r_Model_groups_24, r_Model_groups_25, r_Model_groups_26, r_Model_groups_27, r_Model_groups_30, r_Model_groups_33, r_Model_groups_34, r_Model_groups_37, r_Model_groups_38, r_Model_groups_39, r_Model_groups_40, r_Model_groups_43, r_Model_groups_46, r_Model_groups_47, xf_Model_groups_50, xe_Model_groups_646, xe_Model_groups_824, xd_Model_groups, xrb_Model_groups, xin_Model_groups, T_Model_isPicture_e, TF_Model_isPicture, T_Model_groupOf_e, TF_Model_groupOf, mh, mp0, mp2, mp3, mp4, mp5, mp6, mp7, mp8, mp9, mp10, mp11, mp12, mp13, mp14, mp15, mp16, mp17, mp18, mp19, mp20, mp21, mp22, mp24, mp25, mp26, mp27, mq0, mq2, mq3, mq4, mq5, mq6, mq7, mq8, mq9, mq10, mq11, mq12, mq13, mq14, mq15, mq16, mq17, mq18, mq19, mq20, mq21, mq22, mq24, mq25, mq26, mq27, Nat.reduceAdd, Nat.reduceMul, Nat.reduceEqDiff, reduceIte, Int.reduceNeg, Int.reduceLE, Int.reduceLT, Int.reduceAdd, Int.reduceSub, Int.reduceToNat, true_and, and_true, inR_e, Nat.reduceLT, Nat.reduceLeDiff, reduceCtorEq, Nat.add_zero, Nat.zero_add, or_false, false_or, or_true, true_or, not_true_eq_false, not_false_eq_true, Classical.not_not, Nat.add_eq_zero_iff, and_false, false_and, Int.reduceEq, List.mem_cons, List.not_mem_nil, forall_eq_or_imp, forall_eq, false_implies, implies_true, forall_const, aargs_0, aargs_i, aargs_r, aargs_l, aargs_n, nfT_e, eq_self, and_self, Nat.le_refl, fu_s, fu_fu, iu_iu, iu_s, fu_am, fu_a0, fu_0a, iu_l, Nat.reduceBEq, Int.reduceBEq, T_objInit_e]; clear mp0 mp2 mp3 mp4 mp5 mp6 mp7 mp8 mp9 mp10 mp11 mp12 mp13 mp14 mp15 mp16 mp17 mp18 mp19 mp20 mp21 mp22 mp24 mp25 mp26 mp27)
      rw [hJd]
      exact ⟨hp, rfl, σ (o + 23), 0, by omega, rfl, by rw [fu_self]⟩
    · have hpE : (0 ≤ p ∧ p < 3) = False := eq_false hp
      (obtain ⟨mh, mp0, mp2, mp3, mp4, mp5, mp6, mp7, mp8, mp9, mp10, mp11, mp12, mp13, mp14, mp15, mp16, mp17, mp18, mp19, mp20, mp21, mp22, mp24, mp25, mp26, mp27, mq0, mq2, mq3, mq4, mq5, mq6, mq7, mq8, mq9, mq10, mq11, mq12, mq13, mq14, mq15, mq16, mq17, mq18, mq19, mq20, mq21, mq22, mq24, mq25, mq26, mq27⟩ := (show LModel lay ρ _ from hL); unfold wps; simp only [hpE, si_iload_n0, si_iload_n1, si_iload_n2, si_iload_n3, si_iload, si_lload_n0, si_lload_n1, si_lload_n2, si_lload_n3, si_lload, si_aload_n0, si_aload_n1, si_aload_n2, si_aload_n3, si_aload, si_istore_n0, si_istore_n1, si_istore_n2, si_istore_n3, si_istore, si_astore_n0, si_astore_n1, si_astore_n2, si_astore_n3, si_astore, si_lstore_n0, si_lstore_n1, si_lstore_n2, si_lstore_n3, si_lstore, si_iconst, si_bipush, si_sipush, si_ldc, si_ldc2_w, si_lconst0, si_lconst1, si_aconst_null, si_iinc, si_dup, si_dup2, si_iadd, si_isub, si_imul, si_idiv, si_irem, si_iand, si_ior, si_ishl, si_ishr, si_ladd, si_lmul, si_lor, si_lxor, si_lshl, si_lushr, si_lcmp, si_i2b, si_i2l, si_l2i, si_icmp_eq, si_icmp_ne, si_icmp_lt, si_icmp_ge, si_icmp_gt, si_icmp_le, si_if_eq, si_if_ne, si_if_lt, si_if_ge, si_if_gt, si_if_le, si_ifnull, si_ifnonnull, si_goto, si_tableswitch, si_lookupswitch, si_getfield, si_putfield, si_getstatic, si_iaload, si_baload, si_laload, si_aaload, si_iastore, si_bastore, si_lastore, si_aastore, si_arraylength, si_new, si_newarray, si_anewarray, si_invokevirtual, si_invokespecial, si_invokestatic, si_ireturn, si_lreturn, si_areturn, si_return_, pI_e, pL_e, pR_e, pA_r, pA_n, pN_n, pN_r, oI_e, oL_e, oA_r, oA_n, lget_e, lrm1_0, lrm2_0, lrm1_i, lrm1_r, lrm1_n, lrm1_l, lrm2_i, lrm2_r, lrm2_n, lrm2_l, popN_0, popN_s, acat_i, acat_l, acat_r, acat_n, stw_0, stw_s, psh_s, psh_n, wgf_r, wgf_i, wgf_b, wgf_n, wgf_m, wpf_i, wpf_r, wpf_b, wnew_e, callE_e, rbk_0, rbk_1, tsw_0, tsw_s, lsw_0, lsw_s, wp_s, wq_t, wq_f, oV_e, pick_0, pick_s, oZ_e, oY_e, r_Model_groups_0, r_Model_groups_1, r_Model_groups_4, r_Model_groups_7, r_Model_groups_8, r_Model_groups_9, r_Model_groups_10, r_Model_groups_11, r_Model_groups_12, r_Model_groups_13, r_Model_groups_14, r_Model_groups_15, r_Model_groups_18, r_Model_groups_19, r_Model_groups_20, r_Model_groups_23, r_Model_groups_24, r_Model_groups_25, r_Model_groups_26, r_Model_groups_27, r_Model_groups_30, r_Model_groups_33, r_Model_groups_34, r_Model_groups_37, r_Model_groups_38, r_Model_groups_39, r_Model_groups_40, r_Model_groups_43, r_Model_groups_46, r_Model_groups_47, xf_Model_groups_50, xe_Model_groups_646, xe_Model_groups_824, xd_Model_groups, xrb_Model_groups, xin_Model_groups, T_Model_isPicture_e, TF_Model_isPicture, T_Model_groupOf_e, TF_Model_groupOf, mh, mp0, mp2, mp3, mp4, mp5, mp6, mp7, mp8, mp9, mp10, mp11, mp12, mp13, mp14, mp15, mp16, mp17, mp18, mp19, mp20, mp21, mp22, mp24, mp25, mp26, mp27, mq0, mq2, mq3, mq4, mq5, mq6, mq7, mq8, mq9, mq10, mq11, mq12, mq13, mq14, mq15, mq16, mq17, mq18, mq19, mq20, mq21, mq22, mq24, mq25, mq26, mq27, Nat.reduceAdd, Nat.reduceMul, Nat.reduceEqDiff, reduceIte, Int.reduceNeg, Int.reduceLE, Int.reduceLT, Int.reduceAdd, Int.reduceSub, Int.reduceToNat, true_and, and_true, inR_e, Nat.reduceLT, Nat.reduceLeDiff, reduceCtorEq, Nat.add_zero, Nat.zero_add, or_false, false_or, or_true, true_or, not_true_eq_false, not_false_eq_true, Classical.not_not, Nat.add_eq_zero_iff, and_false, false_and, Int.reduceEq, List.mem_cons, List.not_mem_nil, forall_eq_or_imp, forall_eq, false_implies, implies_true, forall_const, aargs_0, aargs_i, aargs_r, aargs_l, aargs_n, nfT_e, eq_self, and_self, Nat.le_refl, fu_s, fu_fu, iu_iu, iu_s, fu_am, fu_a0, fu_0a, iu_l, Nat.reduceBEq, Int.reduceBEq, T_objInit_e]; clear mp0 mp2 mp3 mp4 mp5 mp6 mp7 mp8 mp9 mp10 mp11 mp12 mp13 mp14 mp15 mp16 mp17 mp18 mp19 mp20 mp21 mp22 mp24 mp25 mp26 mp27)
      exact h0 hp
  · intro cp vs M1 hvs hM1 hlen hJ
    rw [hJd] at hJ
    obtain ⟨hp, hJ⟩ := hJ
    have hpE : (0 ≤ p ∧ p < 3) = True := eq_true hp
    replace h1 := h1 hp
    obtain ⟨hS, hR⟩ := hMP hp
    obtain ⟨w0, w1, w2, w3, w4, w5, w6, w7, w8, w9, w10, w11, w12, w13, w14⟩ := (show SW U len st from hS)
    obtain ⟨rfl, c, i, g1, rfl, rfl⟩ := hJ
    obtain ⟨hB, hl3, ⟨m4, m5, m6⟩, ⟨m7, m8, m9⟩, m12, ⟨m14, m13⟩, m15, ⟨m17, m16⟩, m26⟩ := (show MR σ o p U len st from hR)
    have cR := cntP_R (P := gpP U st) (N := i)
    (obtain ⟨mh, mp0, mp2, mp3, mp4, mp5, mp6, mp7, mp8, mp9, mp10, mp11, mp12, mp13, mp14, mp15, mp16, mp17, mp18, mp19, mp20, mp21, mp22, mp24, mp25, mp26, mp27, mq0, mq2, mq3, mq4, mq5, mq6, mq7, mq8, mq9, mq10, mq11, mq12, mq13, mq14, mq15, mq16, mq17, mq18, mq19, mq20, mq21, mq22, mq24, mq25, mq26, mq27⟩ := (show LModel lay ρ _ from hL); unfold wps; simp only [Option.getD_some, List.zip_cons_cons, List.zip_nil_left, List.zip_nil_right, List.zip_nil_right, MB_fu, MR_fu, si_iload_n0, si_iload_n1, si_iload_n2, si_iload_n3, si_iload, si_lload_n0, si_lload_n1, si_lload_n2, si_lload_n3, si_lload, si_aload_n0, si_aload_n1, si_aload_n2, si_aload_n3, si_aload, si_istore_n0, si_istore_n1, si_istore_n2, si_istore_n3, si_istore, si_astore_n0, si_astore_n1, si_astore_n2, si_astore_n3, si_astore, si_lstore_n0, si_lstore_n1, si_lstore_n2, si_lstore_n3, si_lstore, si_iconst, si_bipush, si_sipush, si_ldc, si_ldc2_w, si_lconst0, si_lconst1, si_aconst_null, si_iinc, si_dup, si_dup2, si_iadd, si_isub, si_imul, si_idiv, si_irem, si_iand, si_ior, si_ishl, si_ishr, si_ladd, si_lmul, si_lor, si_lxor, si_lshl, si_lushr, si_lcmp, si_i2b, si_i2l, si_l2i, si_icmp_eq, si_icmp_ne, si_icmp_lt, si_icmp_ge, si_icmp_gt, si_icmp_le, si_if_eq, si_if_ne, si_if_lt, si_if_ge, si_if_gt, si_if_le, si_ifnull, si_ifnonnull, si_goto, si_tableswitch, si_lookupswitch, si_getfield, si_putfield, si_getstatic, si_iaload, si_baload, si_laload, si_aaload, si_iastore, si_bastore, si_lastore, si_aastore, si_arraylength, si_new, si_newarray, si_anewarray, si_invokevirtual, si_invokespecial, si_invokestatic, si_ireturn, si_lreturn, si_areturn, si_return_, pI_e, pL_e, pR_e, pA_r, pA_n, pN_n, pN_r, oI_e, oL_e, oA_r, oA_n, lget_e, lrm1_0, lrm2_0, lrm1_i, lrm1_r, lrm1_n, lrm1_l, lrm2_i, lrm2_r, lrm2_n, lrm2_l, popN_0, popN_s, acat_i, acat_l, acat_r, acat_n, stw_0, stw_s, psh_s, psh_n, wgf_r, wgf_i, wgf_b, wgf_n, wgf_m, wpf_i, wpf_r, wpf_b, wnew_e, callE_e, rbk_0, rbk_1, tsw_0, tsw_s, lsw_0, lsw_s, wp_s, wq_t, wq_f, oV_e, pick_0, pick_s, oZ_e, oY_e, r_Model_groups_0, r_Model_groups_1, r_Model_groups_4, r_Model_groups_7, r_Model_groups_8, r_Model_groups_9, r_Model_groups_10, r_Model_groups_11, r_Model_groups_12, r_Model_groups_13, r_Model_groups_14, r_Model_groups_15, r_Model_groups_18, r_Model_groups_19, r_Model_groups_20, r_Model_groups_23, r_Model_groups_24, r_Model_groups_25, r_Model_groups_26, r_Model_groups_27, r_Model_groups_30, r_Model_groups_33, r_Model_groups_34, r_Model_groups_37, r_Model_groups_38, r_Model_groups_39, r_Model_groups_40, r_Model_groups_43, r_Model_groups_46, r_Model_groups_47, xf_Model_groups_50, xe_Model_groups_646, xe_Model_groups_824, xd_Model_groups, xrb_Model_groups, xin_Model_groups, T_Model_isPicture_e, TF_Model_isPicture, T_Model_groupOf_e, TF_Model_groupOf, mh, mp0, mp2, mp3, mp4, mp5, mp6, mp7, mp8, mp9, mp10, mp11, mp12, mp13, mp14, mp15, mp16, mp17, mp18, mp19, mp20, mp21, mp22, mp24, mp25, mp26, mp27, mq0, mq2, mq3, mq4, mq5, mq6, mq7, mq8, mq9, mq10, mq11, mq12, mq13, mq14, mq15, mq16, mq17, mq18, mq19, mq20, mq21, mq22, mq24, mq25, mq26, mq27, Nat.reduceAdd, Nat.reduceMul, Nat.reduceEqDiff, reduceIte, Int.reduceNeg, Int.reduceLE, Int.reduceLT, Int.reduceAdd, Int.reduceSub, Int.reduceToNat, true_and, and_true, inR_e, Nat.reduceLT, Nat.reduceLeDiff, reduceCtorEq, Nat.add_zero, Nat.zero_add, or_false, false_or, or_true, true_or, not_true_eq_false, not_false_eq_true, Classical.not_not, Nat.add_eq_zero_iff, and_false, false_and, Int.reduceEq, List.mem_cons, List.not_mem_nil, forall_eq_or_imp, forall_eq, false_implies, implies_true, forall_const, aargs_0, aargs_i, aargs_r, aargs_l, aargs_n, nfT_e, eq_self, and_self, Nat.le_refl, fu_s, fu_fu, iu_iu, iu_s, fu_am, fu_a0, fu_0a, iu_l, Nat.reduceBEq, Int.reduceBEq, T_objInit_e]; clear mp0 mp2 mp3 mp4 mp5 mp6 mp7 mp8 mp9 mp10 mp11 mp12 mp13 mp14 mp15 mp16 mp17 mp18 mp19 mp20 mp21 mp22 mp24 mp25 mp26 mp27)
    rw [m14]
    refine ⟨by omega, by omega, fun z => ?_, fun z => ⟨hL, U, len, st, hS, hR, by omega, fun g d => ⟨fun a => ?_, fun a => ⟨by omega, by omega, ?_, (by rw [hμ]; simp only [gI_e, List.getD_cons_succ, List.getD_cons_zero]; omega)⟩⟩, fun g d => ⟨by omega, by omega, ?_, (by rw [hμ]; simp only [gI_e, List.getD_cons_succ, List.getD_cons_zero]; omega)⟩⟩⟩
    · rw [show i = (st 0 7).toNat by omega]
      exact h1 _ QF.ch
    · have := g.2
      omega
    · rw [hJd]
      refine ⟨hp, rfl, d, i + 1, by omega, ?_, rfl⟩
      rw [cntP_st g]
      rfl
    · rw [hJd]
      refine ⟨hp, rfl, d, i + 1, by omega, ?_, rfl⟩
      rw [cntP_sf g, Int.add_zero]
      rfl
def TF_Model_group (o : Nat) (p : Int) (i : Int) (w : Int) (sz sl : Nat) (lay : Nat → Nat × Int) (ρ : Nat → Int → Nat) (σ : Nat → Int → Int) (τ : Nat → Int → Int64) (k : Option AV → Mm → Prop) : Prop := LModel lay ρ o ∧ ∃ (U : Int → Int) (len : Int) (st : Nat → Int → Int), MdP σ o p U len st ∧ (0 ≤ p ∧ p < 3 → ∀ σ2 : Nat → Int → Int, QF σ σ2 o → (∀ x, (0 ≤ x ∧ x < st 0 7) → gpP U st x → cntP (gpP U st) x.toNat = i → (w = 0 → k (some (vI (numA U (st 2) x))) (sz, sl, lay, ρ, σ2, τ)) ∧ (w = 1 → k (some (vI (mmP U st x))) (sz, sl, lay, ρ, σ2, τ)) ∧ (w = 2 → k (some (vI ((mmP U st x - 1) * szP U st x))) (sz, sl, lay, ρ, σ2, τ))) ∧ (¬ (0 ≤ i ∧ i < cntP (gpP U st) (st 0 7).toNat ∧ 0 ≤ w ∧ w ≤ 2) → k (some (vI (-1))) (sz, sl, lay, ρ, σ2, τ))) ∧ (¬ (0 ≤ p ∧ p < 3) → k (some (vI (-1))) (sz, sl, lay, ρ, σ, τ))
def T_Model_group : Tr := mkT 11 fun o as M k => pI as fun p as => pI as fun i as => pI as fun w as => as = [] ∧ TF_Model_group o p i w M.1 M.2.1 M.2.2.1 M.2.2.2.1 M.2.2.2.2.1 M.2.2.2.2.2 k
theorem T_Model_group_e {o : Nat} {p : Int} {i : Int} {w : Int} {sz sl : Nat} {lay : Nat → Nat × Int} {ρ : Nat → Int → Nat} {σ : Nat → Int → Int} {τ : Nat → Int → Int64} {k : Option AV → Mm → Prop} : T_Model_group [vR o, vI p, vI i, vI w] (sz, sl, lay, ρ, σ, τ) k = (lay o = (21, 0) ∧ TF_Model_group o p i w sz sl lay ρ σ τ k) := by simp [T_Model_group, mkT_e, pI_e, pR_e, pL_e]
theorem T_Model_group_r (as : List AV) (M : Mm) (k : Option AV → Mm → Prop) (h : T_Model_group as M k) : ∃ b As, as = vR b :: As ∧ M.2.2.1 b = (10 + 11, 0) := by
  obtain ⟨b, As, h1, h2, -⟩ := mkT_r h
  exact ⟨b, As, h1, h2⟩
def tb_Model_group : List (Nat × Option (List Nat) × Instr × List Nat) := [(0, none, .iload_n 1, []), (1, none, .invokestatic 161, []), (4, none, .ifCond .eq 16, [20]), (7, none, .iload_n 2, []), (8, none, .ifCond .lt 12, [20]), (11, none, .iload_n 3, []), (12, none, .ifCond .lt 8, [20]), (15, none, .iload_n 3, []), (16, none, .iconst 2, []), (17, none, .if_icmp .le 5, [22]), (20, none, .iconst (-1), []), (21, none, .ireturn, []), (22, none, .iload_n 2, []), (23, none, .istore 4, []), (25, none, .iconst 0, []), (26, none, .istore 5, []), (28, some [0, 1, 2, 3, 4, 5], .iload 5, []), (30, none, .aload_n 0, []), (31, none, .getfield 50, []), (34, none, .iload_n 1, []), (35, none, .iaload, []), (36, none, .if_icmp .ge 80, [116]), (39, none, .aload_n 0, []), (40, none, .iload_n 1, []), (41, none, .iload 5, []), (43, none, .invokevirtual 206, []), (46, none, .istore 6, []), (48, none, .iload 6, []), (50, none, .ifCond .le 45, [95]), (53, none, .iload 4, []), (55, none, .ifCond .ne 40, [95]), (58, none, .iload_n 3, []), (59, none, .ifCond .ne 13, [72]), (62, none, .aload_n 0, []), (63, none, .iload_n 1, []), (64, none, .iload 5, []), (66, none, .invokevirtual 165, []), (69, none, .goto 25, [94]), (72, none, .iload_n 3, []), (73, none, .iconst 1, []), (74, none, .if_icmp .ne 8, [82]), (77, none, .iload 6, []), (79, none, .goto 15, [94]), (82, none, .iload 6, []), (84, none, .iconst 1, []), (85, none, .isub, []), (86, none, .aload_n 0, []), (87, none, .iload_n 1, []), (88, none, .iload 5, []), (90, none, .invokevirtual 182, []), (93, none, .imul, []), (94, none, .ireturn, []), (95, none, .iload 4, []), (97, none, .iload 6, []), (99, none, .ifCond .le 7, [106]), (102, none, .iconst 1, []), (103, none, .goto 4, [107]), (106, none, .iconst 0, []), (107, none, .isub, []), (108, none, .istore 4, []), (110, none, .iinc 5 1, []), (113, none, .goto (-85), [28]), (116, none, .iconst (-1), []), (117, none, .ireturn, [])]
def P_Model_group : Nat → Option (List Nat) × Instr × List Nat := plk tb_Model_group
theorem r_Model_group_0 : P_Model_group 0 = (none, .iload_n 1, []) := by decide +kernel
theorem r_Model_group_1 : P_Model_group 1 = (none, .invokestatic 161, []) := by decide +kernel
theorem r_Model_group_4 : P_Model_group 4 = (none, .ifCond .eq 16, [20]) := by decide +kernel
theorem r_Model_group_7 : P_Model_group 7 = (none, .iload_n 2, []) := by decide +kernel
theorem r_Model_group_8 : P_Model_group 8 = (none, .ifCond .lt 12, [20]) := by decide +kernel
theorem r_Model_group_11 : P_Model_group 11 = (none, .iload_n 3, []) := by decide +kernel
theorem r_Model_group_12 : P_Model_group 12 = (none, .ifCond .lt 8, [20]) := by decide +kernel
theorem r_Model_group_15 : P_Model_group 15 = (none, .iload_n 3, []) := by decide +kernel
theorem r_Model_group_16 : P_Model_group 16 = (none, .iconst 2, []) := by decide +kernel
theorem r_Model_group_17 : P_Model_group 17 = (none, .if_icmp .le 5, [22]) := by decide +kernel
theorem r_Model_group_20 : P_Model_group 20 = (none, .iconst (-1), []) := by decide +kernel
theorem r_Model_group_21 : P_Model_group 21 = (none, .ireturn, []) := by decide +kernel
theorem r_Model_group_22 : P_Model_group 22 = (none, .iload_n 2, []) := by decide +kernel
theorem r_Model_group_23 : P_Model_group 23 = (none, .istore 4, []) := by decide +kernel
theorem r_Model_group_25 : P_Model_group 25 = (none, .iconst 0, []) := by decide +kernel
theorem r_Model_group_26 : P_Model_group 26 = (none, .istore 5, []) := by decide +kernel
theorem r_Model_group_28 : P_Model_group 28 = (some [0, 1, 2, 3, 4, 5], .iload 5, []) := by decide +kernel
theorem r_Model_group_30 : P_Model_group 30 = (none, .aload_n 0, []) := by decide +kernel
theorem r_Model_group_31 : P_Model_group 31 = (none, .getfield 50, []) := by decide +kernel
theorem r_Model_group_34 : P_Model_group 34 = (none, .iload_n 1, []) := by decide +kernel
theorem r_Model_group_35 : P_Model_group 35 = (none, .iaload, []) := by decide +kernel
theorem r_Model_group_36 : P_Model_group 36 = (none, .if_icmp .ge 80, [116]) := by decide +kernel
theorem r_Model_group_39 : P_Model_group 39 = (none, .aload_n 0, []) := by decide +kernel
theorem r_Model_group_40 : P_Model_group 40 = (none, .iload_n 1, []) := by decide +kernel
theorem r_Model_group_41 : P_Model_group 41 = (none, .iload 5, []) := by decide +kernel
theorem r_Model_group_43 : P_Model_group 43 = (none, .invokevirtual 206, []) := by decide +kernel
theorem r_Model_group_46 : P_Model_group 46 = (none, .istore 6, []) := by decide +kernel
theorem r_Model_group_48 : P_Model_group 48 = (none, .iload 6, []) := by decide +kernel
theorem r_Model_group_50 : P_Model_group 50 = (none, .ifCond .le 45, [95]) := by decide +kernel
theorem r_Model_group_53 : P_Model_group 53 = (none, .iload 4, []) := by decide +kernel
theorem r_Model_group_55 : P_Model_group 55 = (none, .ifCond .ne 40, [95]) := by decide +kernel
theorem r_Model_group_58 : P_Model_group 58 = (none, .iload_n 3, []) := by decide +kernel
theorem r_Model_group_59 : P_Model_group 59 = (none, .ifCond .ne 13, [72]) := by decide +kernel
theorem r_Model_group_62 : P_Model_group 62 = (none, .aload_n 0, []) := by decide +kernel
theorem r_Model_group_63 : P_Model_group 63 = (none, .iload_n 1, []) := by decide +kernel
theorem r_Model_group_64 : P_Model_group 64 = (none, .iload 5, []) := by decide +kernel
theorem r_Model_group_66 : P_Model_group 66 = (none, .invokevirtual 165, []) := by decide +kernel
theorem r_Model_group_69 : P_Model_group 69 = (none, .goto 25, [94]) := by decide +kernel
theorem r_Model_group_72 : P_Model_group 72 = (none, .iload_n 3, []) := by decide +kernel
theorem r_Model_group_73 : P_Model_group 73 = (none, .iconst 1, []) := by decide +kernel
theorem r_Model_group_74 : P_Model_group 74 = (none, .if_icmp .ne 8, [82]) := by decide +kernel
theorem r_Model_group_77 : P_Model_group 77 = (none, .iload 6, []) := by decide +kernel
theorem r_Model_group_79 : P_Model_group 79 = (none, .goto 15, [94]) := by decide +kernel
theorem r_Model_group_82 : P_Model_group 82 = (none, .iload 6, []) := by decide +kernel
theorem r_Model_group_84 : P_Model_group 84 = (none, .iconst 1, []) := by decide +kernel
theorem r_Model_group_85 : P_Model_group 85 = (none, .isub, []) := by decide +kernel
theorem r_Model_group_86 : P_Model_group 86 = (none, .aload_n 0, []) := by decide +kernel
theorem r_Model_group_87 : P_Model_group 87 = (none, .iload_n 1, []) := by decide +kernel
theorem r_Model_group_88 : P_Model_group 88 = (none, .iload 5, []) := by decide +kernel
theorem r_Model_group_90 : P_Model_group 90 = (none, .invokevirtual 182, []) := by decide +kernel
theorem r_Model_group_93 : P_Model_group 93 = (none, .imul, []) := by decide +kernel
theorem r_Model_group_94 : P_Model_group 94 = (none, .ireturn, []) := by decide +kernel
theorem r_Model_group_95 : P_Model_group 95 = (none, .iload 4, []) := by decide +kernel
theorem r_Model_group_97 : P_Model_group 97 = (none, .iload 6, []) := by decide +kernel
theorem r_Model_group_99 : P_Model_group 99 = (none, .ifCond .le 7, [106]) := by decide +kernel
theorem r_Model_group_102 : P_Model_group 102 = (none, .iconst 1, []) := by decide +kernel
theorem r_Model_group_103 : P_Model_group 103 = (none, .goto 4, [107]) := by decide +kernel
theorem r_Model_group_106 : P_Model_group 106 = (none, .iconst 0, []) := by decide +kernel
theorem r_Model_group_107 : P_Model_group 107 = (none, .isub, []) := by decide +kernel
theorem r_Model_group_108 : P_Model_group 108 = (none, .istore 4, []) := by decide +kernel
theorem r_Model_group_110 : P_Model_group 110 = (none, .iinc 5 1, []) := by decide +kernel
theorem r_Model_group_113 : P_Model_group 113 = (none, .goto (-85), [28]) := by decide +kernel
theorem r_Model_group_116 : P_Model_group 116 = (none, .iconst (-1), []) := by decide +kernel
theorem r_Model_group_117 : P_Model_group 117 = (none, .ireturn, []) := by decide +kernel
def E_Model_group : List (Nat × Ent) := [(646, (1, 0, 0, 0, T_Model_isPicture)), (660, (3, 2, 0, 0, T_Model_numberOf)), (728, (3, 5, 0, 0, T_Model_sizeOf)), (824, (3, 6, 0, 0, T_Model_groupOf))]
def X_Model_group : Cx := (llk (0, 0, 9) ftX11, llk 99 ntX11, llk none kcX11, llk none klX11, llk dEnt E_Model_group, 7, 0, false)
theorem xok_Model_group : Xok RX11 X_Model_group := xok_of ftX11_ok ntX11_ok kcX11_ok klX11_ok (E := E_Model_group) (List.forall_mem_cons.mpr ⟨co_X11_646, List.forall_mem_cons.mpr ⟨co_X11_660, List.forall_mem_cons.mpr ⟨co_X11_728, List.forall_mem_cons.mpr ⟨co_X11_824, fun _ h => absurd h List.not_mem_nil⟩⟩⟩⟩)
theorem xf_Model_group_50 : xfl X_Model_group 50 = (11, 14, 1) := by decide +kernel
theorem xe_Model_group_646 : xE X_Model_group (4 * 161 + 2) = (1, 0, 0, 0, T_Model_isPicture) := rfl
theorem xe_Model_group_660 : xE X_Model_group (4 * 165 + 0) = (3, 2, 0, 0, T_Model_numberOf) := rfl
theorem xe_Model_group_728 : xE X_Model_group (4 * 182 + 0) = (3, 5, 0, 0, T_Model_sizeOf) := rfl
theorem xe_Model_group_824 : xE X_Model_group (4 * 206 + 0) = (3, 6, 0, 0, T_Model_groupOf) := rfl
theorem xd_Model_group : xd X_Model_group = 7 := rfl
theorem xrb_Model_group : xrb X_Model_group = 0 := rfl
theorem xin_Model_group : xin X_Model_group = false := rfl
set_option maxHeartbeats 4000000 in
set_option maxRecDepth 100000 in
theorem S_Model_group : Snd yX11_group cX11_group 7 (some .int) T_Model_group 7 0 0 := by
  refine snd_of (X := X_Model_group) (P := P_Model_group) (tb := tb_Model_group) (own := RX11) (by decide) rfl rfl (by decide +kernel) xok_Model_group rfl rk0 (fun h => by first | rfl | cases h) ?_
  intro as M k has hM hT0
  obtain ⟨sz, sl, lay, ρ, σ, τ⟩ := M
  obtain ⟨o, as1, e, hlo, hT1⟩ := mkT_r hT0
  clear hT0
  subst e
  obtain ⟨p, as2, e, hT2⟩ := pI_x hT1
  clear hT1
  subst e
  obtain ⟨i, as3, e, hT3⟩ := pI_x hT2
  clear hT2
  subst e
  obtain ⟨w, as4, e, hT4⟩ := pI_x hT3
  clear hT3
  subst e
  obtain ⟨e, hT⟩ := hT4
  subst e
  replace hlo : lay o = (21, 0) := hlo
  have r_p : -2147483648 ≤ p ∧ p ≤ 2147483647 := has (vI p) (by simp)
  have r_i : -2147483648 ≤ i ∧ i ≤ 2147483647 := has (vI i) (by simp)
  have r_w : -2147483648 ≤ w ∧ w ≤ 2147483647 := has (vI w) (by simp)
  clear has
  replace hM : ∀ a i, -2147483648 ≤ σ a i ∧ σ a i ≤ 2147483647 := hM
  replace hT : TF_Model_group o p i w sz sl lay ρ σ τ k := hT
  unfold TF_Model_group at hT
  obtain ⟨hL, U, len, st, hMP, h1, h0⟩ := hT
  obtain ⟨J, hJd⟩ : ∃ J : Nat → List AV → Mm → Prop, J = (fun c vs M1 => (0 ≤ p ∧ p < 3) ∧ (c = 28 ∧ (0 ≤ i ∧ 0 ≤ w ∧ w ≤ 2) ∧ ∃ (c : Int → Int) (a : Nat), (a : Int) ≤ st 0 7 ∧ cntP (gpP U st) a ≤ i ∧ vs = [vR o, vI p, vI i, vI w, vI (i - cntP (gpP U st) a), vI (a : Int)] ∧ M1 = (sz, sl, lay, ρ, fu σ (o + 23) c, τ))) := ⟨_, rfl⟩
  obtain ⟨μ, hμ⟩ : ∃ μ : Nat → List AV → Mm → Nat, μ = (fun _ vs _ => (1000 - gI (vs.getD 5 vN)).toNat) := ⟨_, rfl⟩
  refine ⟨Nat.le_of_ble_eq_true rfl, J, μ, 72, ?_, ?_⟩
  · skip
    by_cases hp : 0 ≤ p ∧ p < 3
    · have hpE : (0 ≤ p ∧ p < 3) = True := eq_true hp
      replace h1 := h1 hp
      obtain ⟨hS, hR⟩ := hMP hp
      obtain ⟨hB, hl3, ⟨m4, m5, m6⟩, ⟨m7, m8, m9⟩, m12, ⟨m14, m13⟩, m15, ⟨m17, m16⟩, m26⟩ := (show MR σ o p U len st from hR)
      obtain ⟨b1, b2, b3, b4, b5, b6, b7⟩ := (show MB σ o p U len (st 1) from hB)
      obtain ⟨w0, w1, w2, w3, w4, w5, w6, w7, w8, w9, w10, w11, w12, w13, w14⟩ := (show SW U len st from hS)
      (obtain ⟨mh, mp0, mp2, mp3, mp4, mp5, mp6, mp7, mp8, mp9, mp10, mp11, mp12, mp13, mp14, mp15, mp16, mp17, mp18, mp19, mp20, mp21, mp22, mp24, mp25, mp26, mp27, mq0, mq2, mq3, mq4, mq5, mq6, mq7, mq8, mq9, mq10, mq11, mq12, mq13, mq14, mq15, mq16, mq17, mq18, mq19, mq20, mq21, mq22, mq24, mq25, mq26, mq27⟩ := (show LModel lay ρ _ from hL); unfold wps; simp only [hpE, find_e hL hS hR, si_iload_n0, si_iload_n1, si_iload_n2, si_iload_n3, si_iload, si_lload_n0, si_lload_n1, si_lload_n2, si_lload_n3, si_lload, si_aload_n0, si_aload_n1, si_aload_n2, si_aload_n3, si_aload, si_istore_n0, si_istore_n1, si_istore_n2, si_istore_n3, si_istore, si_astore_n0, si_astore_n1, si_astore_n2, si_astore_n3, si_astore, si_lstore_n0, si_lstore_n1, si_lstore_n2, si_lstore_n3, si_lstore, si_iconst, si_bipush, si_sipush, si_ldc, si_ldc2_w, si_lconst0, si_lconst1, si_aconst_null, si_iinc, si_dup, si_dup2, si_iadd, si_isub, si_imul, si_idiv, si_irem, si_iand, si_ior, si_ishl, si_ishr, si_ladd, si_lmul, si_lor, si_lxor, si_lshl, si_lushr, si_lcmp, si_i2b, si_i2l, si_l2i, si_icmp_eq, si_icmp_ne, si_icmp_lt, si_icmp_ge, si_icmp_gt, si_icmp_le, si_if_eq, si_if_ne, si_if_lt, si_if_ge, si_if_gt, si_if_le, si_ifnull, si_ifnonnull, si_goto, si_tableswitch, si_lookupswitch, si_getfield, si_putfield, si_getstatic, si_iaload, si_baload, si_laload, si_aaload, si_iastore, si_bastore, si_lastore, si_aastore, si_arraylength, si_new, si_newarray, si_anewarray, si_invokevirtual, si_invokespecial, si_invokestatic, si_ireturn, si_lreturn, si_areturn, si_return_, pI_e, pL_e, pR_e, pA_r, pA_n, pN_n, pN_r, oI_e, oL_e, oA_r, oA_n, lget_e, lrm1_0, lrm2_0, lrm1_i, lrm1_r, lrm1_n, lrm1_l, lrm2_i, lrm2_r, lrm2_n, lrm2_l, popN_0, popN_s, acat_i, acat_l, acat_r, acat_n, stw_0, stw_s, psh_s, psh_n, wgf_r, wgf_i, wgf_b, wgf_n, wgf_m, wpf_i, wpf_r, wpf_b, wnew_e, callE_e, rbk_0, rbk_1, tsw_0, tsw_s, lsw_0, lsw_s, wp_s, wq_t, wq_f, oV_e, pick_0, pick_s, oZ_e, oY_e, r_Model_group_0, r_Model_group_1, r_Model_group_4, r_Model_group_7, r_Model_group_8, r_Model_group_11, r_Model_group_12, r_Model_group_15, r_Model_group_16, r_Model_group_17, r_Model_group_20, r_Model_group_21, r_Model_group_22, r_Model_group_23, r_Model_group_25, r_Model_group_26, r_Model_group_28, r_Model_group_30, r_Model_group_31, r_Model_group_34, r_Model_group_35, r_Model_group_36, r_Model_group_39, r_Model_group_40, r_Model_group_41, r_Model_group_43, r_Model_group_46, r_Model_group_48, r_Model_group_50, r_Model_group_53, r_Model_group_55, r_Model_group_58, r_Model_group_59, r_Model_group_62, r_Model_group_63, r_Model_group_64, r_Model_group_66, r_Model_group_69, r_Model_group_72, r_Model_group_73, r_Model_group_74, r_Model_group_77, r_Model_group_79, r_Model_group_82, r_Model_group_84, r_Model_group_85, r_Model_group_86, r_Model_group_87, r_Model_group_88, r_Model_group_90, r_Model_group_93, r_Model_group_94, r_Model_group_95, r_Model_group_97, r_Model_group_99, r_Model_group_102, r_Model_group_103, r_Model_group_106, r_Model_group_107, r_Model_group_108, r_Model_group_110, r_Model_group_113, r_Model_group_116, r_Model_group_117, xf_Model_group_50, xe_Model_group_646, xe_Model_group_660, xe_Model_group_728, xe_Model_group_824, xd_Model_group, xrb_Model_group, xin_Model_group, T_Model_isPicture_e, TF_Model_isPicture, T_Model_numberOf_e, TF_Model_numberOf, T_Model_sizeOf_e, TF_Model_sizeOf, T_Model_groupOf_e, TF_Model_groupOf, mh, mp0, mp2, mp3, mp4, mp5, mp6, mp7, mp8, mp9, mp10, mp11, mp12, mp13, mp14, mp15, mp16, mp17, mp18, mp19, mp20, mp21, mp22, mp24, mp25, mp26, mp27, mq0, mq2, mq3, mq4, mq5, mq6, mq7, mq8, mq9, mq10, mq11, mq12, mq13, mq14, mq15, mq16, mq17, mq18, mq19, mq20, mq21, mq22, mq24, mq25, mq26, mq27, Nat.reduceAdd, Nat.reduceMul, Nat.reduceEqDiff, reduceIte, Int.reduceNeg, Int.reduceLE, Int.reduceLT, Int.reduceAdd, Int.reduceSub, Int.reduceToNat, true_and, and_true, inR_e, Nat.reduceLT, Nat.reduceLeDiff, reduceCtorEq, Nat.add_zero, Nat.zero_add, or_false, false_or, or_true, true_or, not_true_eq_false, not_false_eq_true, Classical.not_not, Nat.add_eq_zero_iff, and_false, false_and, Int.reduceEq, List.mem_cons, List.not_mem_nil, forall_eq_or_imp, forall_eq, false_implies, implies_true, forall_const, aargs_0, aargs_i, aargs_r, aargs_l, aargs_n, nfT_e, eq_self, and_self, Nat.le_refl, fu_s, fu_fu, iu_iu, iu_s, fu_am, fu_a0, fu_0a, iu_l, Nat.reduceBEq, Int.reduceBEq, T_objInit_e]; clear mp0 mp2 mp3 mp4 mp5 mp6 mp7 mp8 mp9 mp10 mp11 mp12 mp13 mp14 mp15 mp16 mp17 mp18 mp19 mp20 mp21 mp22 mp24 mp25 mp26 mp27)
      refine ⟨fun a => (h1 σ QF.rf).2 (by omega), fun a => ⟨fun b => (h1 σ QF.rf).2 (by omega), fun b => ⟨fun d => ?_, fun d => (h1 σ QF.rf).2 (by omega)⟩⟩⟩
      rw [hJd]
      exact ⟨hp, rfl, by omega, σ (o + 23), 0, by omega, by show (0 : Int) ≤ i; omega, by rw [show cntP (gpP U st) 0 = 0 from rfl, Int.sub_zero]; rfl, by rw [fu_self]⟩
    · have hpE : (0 ≤ p ∧ p < 3) = False := eq_false hp
      (obtain ⟨mh, mp0, mp2, mp3, mp4, mp5, mp6, mp7, mp8, mp9, mp10, mp11, mp12, mp13, mp14, mp15, mp16, mp17, mp18, mp19, mp20, mp21, mp22, mp24, mp25, mp26, mp27, mq0, mq2, mq3, mq4, mq5, mq6, mq7, mq8, mq9, mq10, mq11, mq12, mq13, mq14, mq15, mq16, mq17, mq18, mq19, mq20, mq21, mq22, mq24, mq25, mq26, mq27⟩ := (show LModel lay ρ _ from hL); unfold wps; simp only [hpE, si_iload_n0, si_iload_n1, si_iload_n2, si_iload_n3, si_iload, si_lload_n0, si_lload_n1, si_lload_n2, si_lload_n3, si_lload, si_aload_n0, si_aload_n1, si_aload_n2, si_aload_n3, si_aload, si_istore_n0, si_istore_n1, si_istore_n2, si_istore_n3, si_istore, si_astore_n0, si_astore_n1, si_astore_n2, si_astore_n3, si_astore, si_lstore_n0, si_lstore_n1, si_lstore_n2, si_lstore_n3, si_lstore, si_iconst, si_bipush, si_sipush, si_ldc, si_ldc2_w, si_lconst0, si_lconst1, si_aconst_null, si_iinc, si_dup, si_dup2, si_iadd, si_isub, si_imul, si_idiv, si_irem, si_iand, si_ior, si_ishl, si_ishr, si_ladd, si_lmul, si_lor, si_lxor, si_lshl, si_lushr, si_lcmp, si_i2b, si_i2l, si_l2i, si_icmp_eq, si_icmp_ne, si_icmp_lt, si_icmp_ge, si_icmp_gt, si_icmp_le, si_if_eq, si_if_ne, si_if_lt, si_if_ge, si_if_gt, si_if_le, si_ifnull, si_ifnonnull, si_goto, si_tableswitch, si_lookupswitch, si_getfield, si_putfield, si_getstatic, si_iaload, si_baload, si_laload, si_aaload, si_iastore, si_bastore, si_lastore, si_aastore, si_arraylength, si_new, si_newarray, si_anewarray, si_invokevirtual, si_invokespecial, si_invokestatic, si_ireturn, si_lreturn, si_areturn, si_return_, pI_e, pL_e, pR_e, pA_r, pA_n, pN_n, pN_r, oI_e, oL_e, oA_r, oA_n, lget_e, lrm1_0, lrm2_0, lrm1_i, lrm1_r, lrm1_n, lrm1_l, lrm2_i, lrm2_r, lrm2_n, lrm2_l, popN_0, popN_s, acat_i, acat_l, acat_r, acat_n, stw_0, stw_s, psh_s, psh_n, wgf_r, wgf_i, wgf_b, wgf_n, wgf_m, wpf_i, wpf_r, wpf_b, wnew_e, callE_e, rbk_0, rbk_1, tsw_0, tsw_s, lsw_0, lsw_s, wp_s, wq_t, wq_f, oV_e, pick_0, pick_s, oZ_e, oY_e, r_Model_group_0, r_Model_group_1, r_Model_group_4, r_Model_group_7, r_Model_group_8, r_Model_group_11, r_Model_group_12, r_Model_group_15, r_Model_group_16, r_Model_group_17, r_Model_group_20, r_Model_group_21, r_Model_group_22, r_Model_group_23, r_Model_group_25, r_Model_group_26, r_Model_group_28, r_Model_group_30, r_Model_group_31, r_Model_group_34, r_Model_group_35, r_Model_group_36, r_Model_group_39, r_Model_group_40, r_Model_group_41, r_Model_group_43, r_Model_group_46, r_Model_group_48, r_Model_group_50, r_Model_group_53, r_Model_group_55, r_Model_group_58, r_Model_group_59, r_Model_group_62, r_Model_group_63, r_Model_group_64, r_Model_group_66, r_Model_group_69, r_Model_group_72, r_Model_group_73, r_Model_group_74, r_Model_group_77, r_Model_group_79, r_Model_group_82, r_Model_group_84, r_Model_group_85, r_Model_group_86, r_Model_group_87, r_Model_group_88, r_Model_group_90, r_Model_group_93, r_Model_group_94, r_Model_group_95, r_Model_group_97, r_Model_group_99, r_Model_group_102, r_Model_group_103, r_Model_group_106, r_Model_group_107, r_Model_group_108, r_Model_group_110, r_Model_group_113, r_Model_group_116, r_Model_group_117, xf_Model_group_50, xe_Model_group_646, xe_Model_group_660, xe_Model_group_728, xe_Model_group_824, xd_Model_group, xrb_Model_group, xin_Model_group, T_Model_isPicture_e, TF_Model_isPicture, T_Model_numberOf_e, TF_Model_numberOf, T_Model_sizeOf_e, TF_Model_sizeOf, T_Model_groupOf_e, TF_Model_groupOf, mh, mp0, mp2, mp3, mp4, mp5, mp6, mp7, mp8, mp9, mp10, mp11, mp12, mp13, mp14, mp15, mp16, mp17, mp18, mp19, mp20, mp21, mp22, mp24, mp25, mp26, mp27, mq0, mq2, mq3, mq4, mq5, mq6, mq7, mq8, mq9, mq10, mq11, mq12, mq13, mq14, mq15, mq16, mq17, mq18, mq19, mq20, mq21, mq22, mq24, mq25, mq26, mq27, Nat.reduceAdd, Nat.reduceMul, Nat.reduceEqDiff, reduceIte, Int.reduceNeg, Int.reduceLE, Int.reduceLT, Int.reduceAdd, Int.reduceSub, Int.reduceToNat, true_and, and_true, inR_e, Nat.reduceLT, Nat.reduceLeDiff, reduceCtorEq, Nat.add_zero, Nat.zero_add, or_false, false_or, or_true, true_or, not_true_eq_false, not_false_eq_true, Classical.not_not, Nat.add_eq_zero_iff, and_false, false_and, Int.reduceEq, List.mem_cons, List.not_mem_nil, forall_eq_or_imp, forall_eq, false_implies, implies_true, forall_const, aargs_0, aargs_i, aargs_r, aargs_l, aargs_n, nfT_e, eq_self, and_self, Nat.le_refl, fu_s, fu_fu, iu_iu, iu_s, fu_am, fu_a0, fu_0a, iu_l, Nat.reduceBEq, Int.reduceBEq, T_objInit_e]; clear mp0 mp2 mp3 mp4 mp5 mp6 mp7 mp8 mp9 mp10 mp11 mp12 mp13 mp14 mp15 mp16 mp17 mp18 mp19 mp20 mp21 mp22 mp24 mp25 mp26 mp27)
      exact h0 hp
  · intro cp vs M1 hvs hM1 hlen hJ
    rw [hJd] at hJ
    obtain ⟨hp, hJ⟩ := hJ
    have hpE : (0 ≤ p ∧ p < 3) = True := eq_true hp
    replace h1 := h1 hp
    obtain ⟨hS, hR⟩ := hMP hp
    obtain ⟨w0, w1, w2, w3, w4, w5, w6, w7, w8, w9, w10, w11, w12, w13, w14⟩ := (show SW U len st from hS)
    obtain ⟨rfl, hw, c, a, g1, g2, rfl, rfl⟩ := hJ
    obtain ⟨hB, hl3, ⟨m4, m5, m6⟩, ⟨m7, m8, m9⟩, m12, ⟨m14, m13⟩, m15, ⟨m17, m16⟩, m26⟩ := (show MR σ o p U len st from hR)
    have cR := cntP_R (P := gpP U st) (N := a)
    have mR := cntP_R (P := fun y => rwP U st y ∧ LkP U st a y) (N := (st 0 7).toNat)
    have mR2 : 0 ≤ mmP U st a ∧ mmP U st a ≤ (st 0 7).toNat := mR
    have at_ : ((a : Int)).toNat = a := by omega
    (obtain ⟨mh, mp0, mp2, mp3, mp4, mp5, mp6, mp7, mp8, mp9, mp10, mp11, mp12, mp13, mp14, mp15, mp16, mp17, mp18, mp19, mp20, mp21, mp22, mp24, mp25, mp26, mp27, mq0, mq2, mq3, mq4, mq5, mq6, mq7, mq8, mq9, mq10, mq11, mq12, mq13, mq14, mq15, mq16, mq17, mq18, mq19, mq20, mq21, mq22, mq24, mq25, mq26, mq27⟩ := (show LModel lay ρ _ from hL); unfold wps; simp only [Option.getD_some, List.zip_cons_cons, List.zip_nil_left, List.zip_nil_right, List.zip_nil_right, MB_fu, MR_fu, si_iload_n0, si_iload_n1, si_iload_n2, si_iload_n3, si_iload, si_lload_n0, si_lload_n1, si_lload_n2, si_lload_n3, si_lload, si_aload_n0, si_aload_n1, si_aload_n2, si_aload_n3, si_aload, si_istore_n0, si_istore_n1, si_istore_n2, si_istore_n3, si_istore, si_astore_n0, si_astore_n1, si_astore_n2, si_astore_n3, si_astore, si_lstore_n0, si_lstore_n1, si_lstore_n2, si_lstore_n3, si_lstore, si_iconst, si_bipush, si_sipush, si_ldc, si_ldc2_w, si_lconst0, si_lconst1, si_aconst_null, si_iinc, si_dup, si_dup2, si_iadd, si_isub, si_imul, si_idiv, si_irem, si_iand, si_ior, si_ishl, si_ishr, si_ladd, si_lmul, si_lor, si_lxor, si_lshl, si_lushr, si_lcmp, si_i2b, si_i2l, si_l2i, si_icmp_eq, si_icmp_ne, si_icmp_lt, si_icmp_ge, si_icmp_gt, si_icmp_le, si_if_eq, si_if_ne, si_if_lt, si_if_ge, si_if_gt, si_if_le, si_ifnull, si_ifnonnull, si_goto, si_tableswitch, si_lookupswitch, si_getfield, si_putfield, si_getstatic, si_iaload, si_baload, si_laload, si_aaload, si_iastore, si_bastore, si_lastore, si_aastore, si_arraylength, si_new, si_newarray, si_anewarray, si_invokevirtual, si_invokespecial, si_invokestatic, si_ireturn, si_lreturn, si_areturn, si_return_, pI_e, pL_e, pR_e, pA_r, pA_n, pN_n, pN_r, oI_e, oL_e, oA_r, oA_n, lget_e, lrm1_0, lrm2_0, lrm1_i, lrm1_r, lrm1_n, lrm1_l, lrm2_i, lrm2_r, lrm2_n, lrm2_l, popN_0, popN_s, acat_i, acat_l, acat_r, acat_n, stw_0, stw_s, psh_s, psh_n, wgf_r, wgf_i, wgf_b, wgf_n, wgf_m, wpf_i, wpf_r, wpf_b, wnew_e, callE_e, rbk_0, rbk_1, tsw_0, tsw_s, lsw_0, lsw_s, wp_s, wq_t, wq_f, oV_e, pick_0, pick_s, oZ_e, oY_e, r_Model_group_0, r_Model_group_1, r_Model_group_4, r_Model_group_7, r_Model_group_8, r_Model_group_11, r_Model_group_12, r_Model_group_15, r_Model_group_16, r_Model_group_17, r_Model_group_20, r_Model_group_21, r_Model_group_22, r_Model_group_23, r_Model_group_25, r_Model_group_26, r_Model_group_28, r_Model_group_30, r_Model_group_31, r_Model_group_34, r_Model_group_35, r_Model_group_36, r_Model_group_39, r_Model_group_40, r_Model_group_41, r_Model_group_43, r_Model_group_46, r_Model_group_48, r_Model_group_50, r_Model_group_53, r_Model_group_55, r_Model_group_58, r_Model_group_59, r_Model_group_62, r_Model_group_63, r_Model_group_64, r_Model_group_66, r_Model_group_69, r_Model_group_72, r_Model_group_73, r_Model_group_74, r_Model_group_77, r_Model_group_79, r_Model_group_82, r_Model_group_84, r_Model_group_85, r_Model_group_86, r_Model_group_87, r_Model_group_88, r_Model_group_90, r_Model_group_93, r_Model_group_94, r_Model_group_95, r_Model_group_97, r_Model_group_99, r_Model_group_102, r_Model_group_103, r_Model_group_106, r_Model_group_107, r_Model_group_108, r_Model_group_110, r_Model_group_113, r_Model_group_116, r_Model_group_117, xf_Model_group_50, xe_Model_group_646, xe_Model_group_660, xe_Model_group_728, xe_Model_group_824, xd_Model_group, xrb_Model_group, xin_Model_group, T_Model_isPicture_e, TF_Model_isPicture, T_Model_numberOf_e, TF_Model_numberOf, T_Model_sizeOf_e, TF_Model_sizeOf, T_Model_groupOf_e, TF_Model_groupOf, mh, mp0, mp2, mp3, mp4, mp5, mp6, mp7, mp8, mp9, mp10, mp11, mp12, mp13, mp14, mp15, mp16, mp17, mp18, mp19, mp20, mp21, mp22, mp24, mp25, mp26, mp27, mq0, mq2, mq3, mq4, mq5, mq6, mq7, mq8, mq9, mq10, mq11, mq12, mq13, mq14, mq15, mq16, mq17, mq18, mq19, mq20, mq21, mq22, mq24, mq25, mq26, mq27, Nat.reduceAdd, Nat.reduceMul, Nat.reduceEqDiff, reduceIte, Int.reduceNeg, Int.reduceLE, Int.reduceLT, Int.reduceAdd, Int.reduceSub, Int.reduceToNat, true_and, and_true, inR_e, Nat.reduceLT, Nat.reduceLeDiff, reduceCtorEq, Nat.add_zero, Nat.zero_add, or_false, false_or, or_true, true_or, not_true_eq_false, not_false_eq_true, Classical.not_not, Nat.add_eq_zero_iff, and_false, false_and, Int.reduceEq, List.mem_cons, List.not_mem_nil, forall_eq_or_imp, forall_eq, false_implies, implies_true, forall_const, aargs_0, aargs_i, aargs_r, aargs_l, aargs_n, nfT_e, eq_self, and_self, Nat.le_refl, fu_s, fu_fu, iu_iu, iu_s, fu_am, fu_a0, fu_0a, iu_l, Nat.reduceBEq, Int.reduceBEq, T_objInit_e]; clear mp0 mp2 mp3 mp4 mp5 mp6 mp7 mp8 mp9 mp10 mp11 mp12 mp13 mp14 mp15 mp16 mp17 mp18 mp19 mp20 mp21 mp22 mp24 mp25 mp26 mp27)
    rw [m14]
    refine ⟨by omega, by omega, fun z => (h1 _ QF.ch).2 (fun q => ?_), fun z => ?_⟩
    · rw [show (st 0 7).toNat = a by omega] at q
      omega
    · have tv := hS.tv (i := (a : Int)) (by omega)
      have t0 := tv.1.2.1
      have t4 := tv.1.2.2.1
      have sz1 := hS.szR (i := (a : Int)) (by omega)
      rw [m13 a (by omega)]
      refine ⟨hL, U, len, st, hS, hR, by omega, fun g d => ?_, fun g d => ?_⟩
      · have g3 := g.2
        have pr : 0 ≤ (mmP U st a - 1) * szP U st a ∧ (mmP U st a - 1) * szP U st a ≤ 600 * 100000 := ⟨Int.mul_nonneg (by omega) sz1.1, Int.mul_le_mul (by omega) sz1.2 sz1.1 (by omega)⟩
        refine ⟨fun q => by omega, fun _ => ⟨fun e => ?_, fun e => ?_⟩⟩
        · refine ⟨fun q => by omega, fun _ => ⟨by omega, by omega, ?_, (by rw [hμ]; simp only [gI_e, List.getD_cons_succ, List.getD_cons_zero]; omega)⟩⟩
          rw [hJd]
          refine ⟨hp, rfl, hw, d, a + 1, by omega, by rw [cntP_st g]; omega, ?_, rfl⟩
          rw [cntP_st g, show i - (cntP (gpP U st) a + 1) = i - cntP (gpP U st) a - 1 by omega]
          rfl
        · have hT2 := fun s f => (h1 s f).1 a (by omega) g (by rw [at_]; omega)
          refine ⟨fun w0 => ⟨fun w1 => ⟨by omega, hL, U, len, st 1, hB, by omega, tv, fun c2 => ⟨by have := pr; unfold szP at this; omega, (hT2 _ QF.ch).2.2 (by omega)⟩⟩, fun w1 => (hT2 _ QF.ch).2.1 w1⟩, fun w0 => ⟨hL, U, len, st 1, hB, by omega, by omega, (hT2 _ QF.ch).1 w0⟩⟩
      · refine ⟨by omega, by omega, ?_, (by rw [hμ]; simp only [gI_e, List.getD_cons_succ, List.getD_cons_zero]; omega)⟩
        rw [hJd]
        refine ⟨hp, rfl, hw, d, a + 1, by omega, by rw [cntP_sf g]; exact g2, ?_, rfl⟩
        rw [cntP_sf g, Int.sub_zero]
        rfl

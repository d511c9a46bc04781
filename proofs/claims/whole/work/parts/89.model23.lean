def TF_Model_ofKind (o : Nat) (p : Int) (x : Int) (sz sl : Nat) (lay : Nat → Nat × Int) (ρ : Nat → Int → Nat) (σ : Nat → Int → Int) (τ : Nat → Int → Int64) (k : Option AV → Mm → Prop) : Prop := LModel lay ρ o ∧ ∃ (U : Int → Int) (len : Int) (st : Nat → Int → Int), SW U len st ∧ MR σ o p U len st ∧ k (some (vI (cntZ (fun i => decide (srt U (st 2 i) = 0 ∧ kdv U (st 2 i) = x)) (st 0 7).toNat))) (sz, sl, lay, ρ, σ, τ)
def T_Model_ofKind : Tr := mkT 11 fun o as M k => pI as fun p as => pI as fun x as => as = [] ∧ TF_Model_ofKind o p x M.1 M.2.1 M.2.2.1 M.2.2.2.1 M.2.2.2.2.1 M.2.2.2.2.2 k
theorem T_Model_ofKind_e {o : Nat} {p : Int} {x : Int} {sz sl : Nat} {lay : Nat → Nat × Int} {ρ : Nat → Int → Nat} {σ : Nat → Int → Int} {τ : Nat → Int → Int64} {k : Option AV → Mm → Prop} : T_Model_ofKind [vR o, vI p, vI x] (sz, sl, lay, ρ, σ, τ) k = (lay o = (21, 0) ∧ TF_Model_ofKind o p x sz sl lay ρ σ τ k) := by simp [T_Model_ofKind, mkT_e, pI_e, pR_e, pL_e]
theorem T_Model_ofKind_r (as : List AV) (M : Mm) (k : Option AV → Mm → Prop) (h : T_Model_ofKind as M k) : ∃ b As, as = vR b :: As ∧ M.2.2.1 b = (10 + 11, 0) := by
  obtain ⟨b, As, h1, h2, -⟩ := mkT_r h
  exact ⟨b, As, h1, h2⟩
def tb_Model_ofKind : List (Nat × Option (List Nat) × Instr × List Nat) := [(0, none, .iconst 0, []), (1, none, .istore_n 3, []), (2, none, .iconst 0, []), (3, none, .istore 4, []), (5, some [0, 1, 2, 3, 4], .iload 4, []), (7, none, .aload_n 0, []), (8, none, .getfield 50, []), (11, none, .iload_n 1, []), (12, none, .iaload, []), (13, none, .if_icmp .ge 51, [64]), (16, none, .iload_n 3, []), (17, none, .aload_n 0, []), (18, none, .iload_n 1, []), (19, none, .iload 4, []), (21, none, .invokevirtual 134, []), (24, none, .ifCond .ne 31, [55]), (27, none, .aload_n 0, []), (28, none, .iload_n 1, []), (29, none, .aload_n 0, []), (30, none, .getfield 47, []), (33, none, .sipush 600, []), (36, none, .iload_n 1, []), (37, none, .imul, []), (38, none, .iload 4, []), (40, none, .iadd, []), (41, none, .iaload, []), (42, none, .iconst 3, []), (43, none, .iadd, []), (44, none, .invokevirtual 95, []), (47, none, .iload_n 2, []), (48, none, .if_icmp .ne 7, [55]), (51, none, .iconst 1, []), (52, none, .goto 4, [56]), (55, none, .iconst 0, []), (56, none, .iadd, []), (57, none, .istore_n 3, []), (58, none, .iinc 4 1, []), (61, none, .goto (-56), [5]), (64, none, .iload_n 3, []), (65, none, .ireturn, [])]
def P_Model_ofKind : Nat → Option (List Nat) × Instr × List Nat := plk tb_Model_ofKind
theorem r_Model_ofKind_0 : P_Model_ofKind 0 = (none, .iconst 0, []) := by decide +kernel
theorem r_Model_ofKind_1 : P_Model_ofKind 1 = (none, .istore_n 3, []) := by decide +kernel
theorem r_Model_ofKind_2 : P_Model_ofKind 2 = (none, .iconst 0, []) := by decide +kernel
theorem r_Model_ofKind_3 : P_Model_ofKind 3 = (none, .istore 4, []) := by decide +kernel
theorem r_Model_ofKind_5 : P_Model_ofKind 5 = (some [0, 1, 2, 3, 4], .iload 4, []) := by decide +kernel
theorem r_Model_ofKind_7 : P_Model_ofKind 7 = (none, .aload_n 0, []) := by decide +kernel
theorem r_Model_ofKind_8 : P_Model_ofKind 8 = (none, .getfield 50, []) := by decide +kernel
theorem r_Model_ofKind_11 : P_Model_ofKind 11 = (none, .iload_n 1, []) := by decide +kernel
theorem r_Model_ofKind_12 : P_Model_ofKind 12 = (none, .iaload, []) := by decide +kernel
theorem r_Model_ofKind_13 : P_Model_ofKind 13 = (none, .if_icmp .ge 51, [64]) := by decide +kernel
theorem r_Model_ofKind_16 : P_Model_ofKind 16 = (none, .iload_n 3, []) := by decide +kernel
theorem r_Model_ofKind_17 : P_Model_ofKind 17 = (none, .aload_n 0, []) := by decide +kernel
theorem r_Model_ofKind_18 : P_Model_ofKind 18 = (none, .iload_n 1, []) := by decide +kernel
theorem r_Model_ofKind_19 : P_Model_ofKind 19 = (none, .iload 4, []) := by decide +kernel
theorem r_Model_ofKind_21 : P_Model_ofKind 21 = (none, .invokevirtual 134, []) := by decide +kernel
theorem r_Model_ofKind_24 : P_Model_ofKind 24 = (none, .ifCond .ne 31, [55]) := by decide +kernel
theorem r_Model_ofKind_27 : P_Model_ofKind 27 = (none, .aload_n 0, []) := by decide +kernel
theorem r_Model_ofKind_28 : P_Model_ofKind 28 = (none, .iload_n 1, []) := by decide +kernel
theorem r_Model_ofKind_29 : P_Model_ofKind 29 = (none, .aload_n 0, []) := by decide +kernel
theorem r_Model_ofKind_30 : P_Model_ofKind 30 = (none, .getfield 47, []) := by decide +kernel
theorem r_Model_ofKind_33 : P_Model_ofKind 33 = (none, .sipush 600, []) := by decide +kernel
theorem r_Model_ofKind_36 : P_Model_ofKind 36 = (none, .iload_n 1, []) := by decide +kernel
theorem r_Model_ofKind_37 : P_Model_ofKind 37 = (none, .imul, []) := by decide +kernel
theorem r_Model_ofKind_38 : P_Model_ofKind 38 = (none, .iload 4, []) := by decide +kernel
theorem r_Model_ofKind_40 : P_Model_ofKind 40 = (none, .iadd, []) := by decide +kernel
theorem r_Model_ofKind_41 : P_Model_ofKind 41 = (none, .iaload, []) := by decide +kernel
theorem r_Model_ofKind_42 : P_Model_ofKind 42 = (none, .iconst 3, []) := by decide +kernel
theorem r_Model_ofKind_43 : P_Model_ofKind 43 = (none, .iadd, []) := by decide +kernel
theorem r_Model_ofKind_44 : P_Model_ofKind 44 = (none, .invokevirtual 95, []) := by decide +kernel
theorem r_Model_ofKind_47 : P_Model_ofKind 47 = (none, .iload_n 2, []) := by decide +kernel
theorem r_Model_ofKind_48 : P_Model_ofKind 48 = (none, .if_icmp .ne 7, [55]) := by decide +kernel
theorem r_Model_ofKind_51 : P_Model_ofKind 51 = (none, .iconst 1, []) := by decide +kernel
theorem r_Model_ofKind_52 : P_Model_ofKind 52 = (none, .goto 4, [56]) := by decide +kernel
theorem r_Model_ofKind_55 : P_Model_ofKind 55 = (none, .iconst 0, []) := by decide +kernel
theorem r_Model_ofKind_56 : P_Model_ofKind 56 = (none, .iadd, []) := by decide +kernel
theorem r_Model_ofKind_57 : P_Model_ofKind 57 = (none, .istore_n 3, []) := by decide +kernel
theorem r_Model_ofKind_58 : P_Model_ofKind 58 = (none, .iinc 4 1, []) := by decide +kernel
theorem r_Model_ofKind_61 : P_Model_ofKind 61 = (none, .goto (-56), [5]) := by decide +kernel
theorem r_Model_ofKind_64 : P_Model_ofKind 64 = (none, .iload_n 3, []) := by decide +kernel
theorem r_Model_ofKind_65 : P_Model_ofKind 65 = (none, .ireturn, []) := by decide +kernel
def E_Model_ofKind : List (Nat × Ent) := [(536, (3, 1, 0, 0, T_Model_sort)), (380, (3, 0, 0, 0, T_Model_at))]
def X_Model_ofKind : Cx := (llk (0, 0, 9) ftX11, llk 99 ntX11, llk none kcX11, llk none klX11, llk dEnt E_Model_ofKind, 2, 0, false)
theorem xok_Model_ofKind : Xok RX11 X_Model_ofKind := xok_of ftX11_ok ntX11_ok kcX11_ok klX11_ok (E := E_Model_ofKind) (List.forall_mem_cons.mpr ⟨co_X11_536, List.forall_mem_cons.mpr ⟨co_X11_380, fun _ h => absurd h List.not_mem_nil⟩⟩)
theorem xf_Model_ofKind_47 : xfl X_Model_ofKind 47 = (11, 13, 1) := by decide +kernel
theorem xf_Model_ofKind_50 : xfl X_Model_ofKind 50 = (11, 14, 1) := by decide +kernel
theorem xe_Model_ofKind_536 : xE X_Model_ofKind (4 * 134 + 0) = (3, 1, 0, 0, T_Model_sort) := rfl
theorem xe_Model_ofKind_380 : xE X_Model_ofKind (4 * 95 + 0) = (3, 0, 0, 0, T_Model_at) := rfl
theorem xd_Model_ofKind : xd X_Model_ofKind = 2 := rfl
theorem xrb_Model_ofKind : xrb X_Model_ofKind = 0 := rfl
theorem xin_Model_ofKind : xin X_Model_ofKind = false := rfl
set_option maxHeartbeats 4000000 in
set_option maxRecDepth 100000 in
theorem S_Model_ofKind : Snd yX11_ofKind cX11_ofKind 5 (some .int) T_Model_ofKind 2 0 0 := by
  refine snd_of (X := X_Model_ofKind) (P := P_Model_ofKind) (tb := tb_Model_ofKind) (own := RX11) (by decide) rfl rfl (by decide +kernel) xok_Model_ofKind rfl rk0 (fun h => by first | rfl | cases h) ?_
  intro as M k has hM hT0
  obtain ⟨sz, sl, lay, ρ, σ, τ⟩ := M
  obtain ⟨o, as1, e, hlo, hT1⟩ := mkT_r hT0
  clear hT0
  subst e
  obtain ⟨p, as2, e, hT2⟩ := pI_x hT1
  clear hT1
  subst e
  obtain ⟨x, as3, e, hT3⟩ := pI_x hT2
  clear hT2
  subst e
  obtain ⟨e, hT⟩ := hT3
  subst e
  replace hlo : lay o = (21, 0) := hlo
  have r_p : -2147483648 ≤ p ∧ p ≤ 2147483647 := has (vI p) (by simp)
  have r_x : -2147483648 ≤ x ∧ x ≤ 2147483647 := has (vI x) (by simp)
  clear has
  replace hM : ∀ a i, -2147483648 ≤ σ a i ∧ σ a i ≤ 2147483647 := hM
  replace hT : TF_Model_ofKind o p x sz sl lay ρ σ τ k := hT
  unfold TF_Model_ofKind at hT
  obtain ⟨hL, U, len, st, hS, hR, hT⟩ := hT
  obtain ⟨hB, hl3, ⟨m4, m5, m6⟩, ⟨m7, m8, m9⟩, m12, ⟨m14, m13⟩, m15, ⟨m17, m16⟩, m26⟩ := (show MR σ o p U len st from hR)
  obtain ⟨b1, b2, b3, b4, b5, b6, b7⟩ := (show MB σ o p U len (st 1) from hB)
  obtain ⟨w0, w1, w2, w3, w4, w5, w6, w7, w8, w9, w10, w11, w12, w13, w14⟩ := (show SW U len st from hS)
  obtain ⟨J, hJd⟩ : ∃ J : Nat → List AV → Mm → Prop, J = (fun c vs M1 => c = 5 ∧ ∃ (i : Nat), (i : Int) ≤ st 0 7 ∧ vs = [vR o, vI p, vI x, vI (cntZ (fun i => decide (srt U (st 2 i) = 0 ∧ kdv U (st 2 i) = x)) i), vI (i : Int)] ∧ M1 = (sz, sl, lay, ρ, σ, τ)) := ⟨_, rfl⟩
  obtain ⟨μ, hμ⟩ : ∃ μ : Nat → List AV → Mm → Nat, μ = (fun _ vs _ => (1000 - gI (vs.getD 4 vN)).toNat) := ⟨_, rfl⟩
  refine ⟨Nat.le_of_ble_eq_true rfl, J, μ, 48, ?_, ?_⟩
  · obtain ⟨mh, mp0, mp2, mp3, mp4, mp5, mp6, mp7, mp8, mp9, mp10, mp11, mp12, mp13, mp14, mp15, mp16, mp17, mp18, mp19, mp20, mp21, mp22, mp24, mp25, mp26, mp27, mq0, mq2, mq3, mq4, mq5, mq6, mq7, mq8, mq9, mq10, mq11, mq12, mq13, mq14, mq15, mq16, mq17, mq18, mq19, mq20, mq21, mq22, mq24, mq25, mq26, mq27⟩ := (show LModel lay ρ _ from hL)
    unfold wps
    simp only [si_iload_n0, si_iload_n1, si_iload_n2, si_iload_n3, si_iload, si_lload_n0, si_lload_n1, si_lload_n2, si_lload_n3, si_lload, si_aload_n0, si_aload_n1, si_aload_n2, si_aload_n3, si_aload, si_istore_n0, si_istore_n1, si_istore_n2, si_istore_n3, si_istore, si_astore_n0, si_astore_n1, si_astore_n2, si_astore_n3, si_astore, si_lstore_n0, si_lstore_n1, si_lstore_n2, si_lstore_n3, si_lstore, si_iconst, si_bipush, si_sipush, si_ldc, si_ldc2_w, si_lconst0, si_lconst1, si_aconst_null, si_iinc, si_dup, si_dup2, si_iadd, si_isub, si_imul, si_idiv, si_irem, si_iand, si_ior, si_ishl, si_ishr, si_ladd, si_lmul, si_lor, si_lxor, si_lshl, si_lushr, si_lcmp, si_i2b, si_i2l, si_l2i, si_icmp_eq, si_icmp_ne, si_icmp_lt, si_icmp_ge, si_icmp_gt, si_icmp_le, si_if_eq, si_if_ne, si_if_lt, si_if_ge, si_if_gt, si_if_le, si_ifnull, si_ifnonnull, si_goto, si_tableswitch, si_lookupswitch, si_getfield, si_putfield, si_getstatic, si_iaload, si_baload, si_laload, si_aaload, si_iastore, si_bastore, si_lastore, si_aastore, si_arraylength, si_new, si_newarray, si_anewarray, si_invokevirtual, si_invokespecial, si_invokestatic, si_ireturn, si_lreturn, si_areturn, si_return_, pI_e, pL_e, pR_e, pA_r, pA_n, pN_n, pN_r, oI_e, oL_e, oA_r, oA_n, lget_e, lrm1_0, lrm2_0, lrm1_i, lrm1_r, lrm1_n, lrm1_l, lrm2_i, lrm2_r, lrm2_n, lrm2_l, popN_0, popN_s, acat_i, acat_l, acat_r, acat_n, stw_0, stw_s, psh_s, psh_n, wgf_r, wgf_i, wgf_b, wgf_n, wgf_m, wpf_i, wpf_r, wpf_b, wnew_e, callE_e, rbk_0, rbk_1, tsw_0, tsw_s, lsw_0, lsw_s, wp_s, wq_t, wq_f, oV_e, pick_0, pick_s, oZ_e, oY_e, r_Model_ofKind_0, r_Model_ofKind_1, r_Model_ofKind_2, r_Model_ofKind_3, r_Model_ofKind_5, r_Model_ofKind_7, r_Model_ofKind_8, r_Model_ofKind_11, r_Model_ofKind_12, r_Model_ofKind_13, r_Model_ofKind_16, r_Model_ofKind_17, r_Model_ofKind_18, r_Model_ofKind_19, r_Model_ofKind_21, r_Model_ofKind_24, r_Model_ofKind_27, r_Model_ofKind_28, r_Model_ofKind_29, r_Model_ofKind_30, r_Model_ofKind_33, r_Model_ofKind_36, r_Model_ofKind_37, r_Model_ofKind_38, r_Model_ofKind_40, r_Model_ofKind_41, r_Model_ofKind_42, r_Model_ofKind_43, r_Model_ofKind_44, r_Model_ofKind_47, r_Model_ofKind_48, r_Model_ofKind_51, r_Model_ofKind_52, r_Model_ofKind_55, r_Model_ofKind_56, r_Model_ofKind_57, r_Model_ofKind_58, r_Model_ofKind_61, r_Model_ofKind_64, r_Model_ofKind_65, xf_Model_ofKind_47, xf_Model_ofKind_50, xe_Model_ofKind_536, xe_Model_ofKind_380, xd_Model_ofKind, xrb_Model_ofKind, xin_Model_ofKind, T_Model_sort_e, TF_Model_sort, T_Model_at_e, TF_Model_at, mh, mp0, mp2, mp3, mp4, mp5, mp6, mp7, mp8, mp9, mp10, mp11, mp12, mp13, mp14, mp15, mp16, mp17, mp18, mp19, mp20, mp21, mp22, mp24, mp25, mp26, mp27, mq0, mq2, mq3, mq4, mq5, mq6, mq7, mq8, mq9, mq10, mq11, mq12, mq13, mq14, mq15, mq16, mq17, mq18, mq19, mq20, mq21, mq22, mq24, mq25, mq26, mq27, Nat.reduceAdd, Nat.reduceMul, Nat.reduceEqDiff, reduceIte, Int.reduceNeg, Int.reduceLE, Int.reduceLT, Int.reduceAdd, Int.reduceSub, Int.reduceToNat, true_and, and_true, inR_e, Nat.reduceLT, Nat.reduceLeDiff, reduceCtorEq, Nat.add_zero, Nat.zero_add, or_false, false_or, or_true, true_or, not_true_eq_false, not_false_eq_true, Classical.not_not, Nat.add_eq_zero_iff, and_false, false_and, Int.reduceEq, List.mem_cons, List.not_mem_nil, forall_eq_or_imp, forall_eq, false_implies, implies_true, forall_const, aargs_0, aargs_i, aargs_r, aargs_l, aargs_n, nfT_e, eq_self, and_self, Nat.le_refl, fu_s, fu_fu, iu_iu, iu_s, fu_am, fu_a0, fu_0a, iu_l, Nat.reduceBEq, Int.reduceBEq, T_objInit_e]
    clear mp0 mp2 mp3 mp4 mp5 mp6 mp7 mp8 mp9 mp10 mp11 mp12 mp13 mp14 mp15 mp16 mp17 mp18 mp19 mp20 mp21 mp22 mp24 mp25 mp26 mp27
    rw [hJd]
    exact ⟨rfl, 0, by omega, rfl, rfl⟩
  · intro cp vs M1 hvs hM1 hlen hJ
    rw [hJd] at hJ
    obtain ⟨rfl, i, hi, rfl, rfl⟩ := hJ
    have cR := cntZ_R (fun i => decide (srt U (st 2 i) = 0 ∧ kdv U (st 2 i) = x)) i
    (obtain ⟨mh, mp0, mp2, mp3, mp4, mp5, mp6, mp7, mp8, mp9, mp10, mp11, mp12, mp13, mp14, mp15, mp16, mp17, mp18, mp19, mp20, mp21, mp22, mp24, mp25, mp26, mp27, mq0, mq2, mq3, mq4, mq5, mq6, mq7, mq8, mq9, mq10, mq11, mq12, mq13, mq14, mq15, mq16, mq17, mq18, mq19, mq20, mq21, mq22, mq24, mq25, mq26, mq27⟩ := (show LModel lay ρ _ from hL); unfold wps; simp only [Option.getD_some, List.zip_cons_cons, List.zip_nil_left, List.zip_nil_right, List.zip_nil_right, si_iload_n0, si_iload_n1, si_iload_n2, si_iload_n3, si_iload, si_lload_n0, si_lload_n1, si_lload_n2, si_lload_n3, si_lload, si_aload_n0, si_aload_n1, si_aload_n2, si_aload_n3, si_aload, si_istore_n0, si_istore_n1, si_istore_n2, si_istore_n3, si_istore, si_astore_n0, si_astore_n1, si_astore_n2, si_astore_n3, si_astore, si_lstore_n0, si_lstore_n1, si_lstore_n2, si_lstore_n3, si_lstore, si_iconst, si_bipush, si_sipush, si_ldc, si_ldc2_w, si_lconst0, si_lconst1, si_aconst_null, si_iinc, si_dup, si_dup2, si_iadd, si_isub, si_imul, si_idiv, si_irem, si_iand, si_ior, si_ishl, si_ishr, si_ladd, si_lmul, si_lor, si_lxor, si_lshl, si_lushr, si_lcmp, si_i2b, si_i2l, si_l2i, si_icmp_eq, si_icmp_ne, si_icmp_lt, si_icmp_ge, si_icmp_gt, si_icmp_le, si_if_eq, si_if_ne, si_if_lt, si_if_ge, si_if_gt, si_if_le, si_ifnull, si_ifnonnull, si_goto, si_tableswitch, si_lookupswitch, si_getfield, si_putfield, si_getstatic, si_iaload, si_baload, si_laload, si_aaload, si_iastore, si_bastore, si_lastore, si_aastore, si_arraylength, si_new, si_newarray, si_anewarray, si_invokevirtual, si_invokespecial, si_invokestatic, si_ireturn, si_lreturn, si_areturn, si_return_, pI_e, pL_e, pR_e, pA_r, pA_n, pN_n, pN_r, oI_e, oL_e, oA_r, oA_n, lget_e, lrm1_0, lrm2_0, lrm1_i, lrm1_r, lrm1_n, lrm1_l, lrm2_i, lrm2_r, lrm2_n, lrm2_l, popN_0, popN_s, acat_i, acat_l, acat_r, acat_n, stw_0, stw_s, psh_s, psh_n, wgf_r, wgf_i, wgf_b, wgf_n, wgf_m, wpf_i, wpf_r, wpf_b, wnew_e, callE_e, rbk_0, rbk_1, tsw_0, tsw_s, lsw_0, lsw_s, wp_s, wq_t, wq_f, oV_e, pick_0, pick_s, oZ_e, oY_e, r_Model_ofKind_0, r_Model_ofKind_1, r_Model_ofKind_2, r_Model_ofKind_3, r_Model_ofKind_5, r_Model_ofKind_7, r_Model_ofKind_8, r_Model_ofKind_11, r_Model_ofKind_12, r_Model_ofKind_13, r_Model_ofKind_16, r_Model_ofKind_17, r_Model_ofKind_18, r_Model_ofKind_19, r_Model_ofKind_21, r_Model_ofKind_24, r_Model_ofKind_27, r_Model_ofKind_28, r_Model_ofKind_29, r_Model_ofKind_30, r_Model_ofKind_33, r_Model_ofKind_36, r_Model_ofKind_37, r_Model_ofKind_38, r_Model_ofKind_40, r_Model_ofKind_41, r_Model_ofKind_42, r_Model_ofKind_43, r_Model_ofKind_44, r_Model_ofKind_47, r_Model_ofKind_48, r_Model_ofKind_51, r_Model_ofKind_52, r_Model_ofKind_55, r_Model_ofKind_56, r_Model_ofKind_57, r_Model_ofKind_58, r_Model_ofKind_61, r_Model_ofKind_64, r_Model_ofKind_65, xf_Model_ofKind_47, xf_Model_ofKind_50, xe_Model_ofKind_536, xe_Model_ofKind_380, xd_Model_ofKind, xrb_Model_ofKind, xin_Model_ofKind, T_Model_sort_e, TF_Model_sort, T_Model_at_e, TF_Model_at, mh, mp0, mp2, mp3, mp4, mp5, mp6, mp7, mp8, mp9, mp10, mp11, mp12, mp13, mp14, mp15, mp16, mp17, mp18, mp19, mp20, mp21, mp22, mp24, mp25, mp26, mp27, mq0, mq2, mq3, mq4, mq5, mq6, mq7, mq8, mq9, mq10, mq11, mq12, mq13, mq14, mq15, mq16, mq17, mq18, mq19, mq20, mq21, mq22, mq24, mq25, mq26, mq27, Nat.reduceAdd, Nat.reduceMul, Nat.reduceEqDiff, reduceIte, Int.reduceNeg, Int.reduceLE, Int.reduceLT, Int.reduceAdd, Int.reduceSub, Int.reduceToNat, true_and, and_true, inR_e, Nat.reduceLT, Nat.reduceLeDiff, reduceCtorEq, Nat.add_zero, Nat.zero_add, or_false, false_or, or_true, true_or, not_true_eq_false, not_false_eq_true, Classical.not_not, Nat.add_eq_zero_iff, and_false, false_and, Int.reduceEq, List.mem_cons, List.not_mem_nil, forall_eq_or_imp, forall_eq, false_implies, implies_true, forall_const, aargs_0, aargs_i, aargs_r, aargs_l, aargs_n, nfT_e, eq_self, and_self, Nat.le_refl, fu_s, fu_fu, iu_iu, iu_s, fu_am, fu_a0, fu_0a, iu_l, Nat.reduceBEq, Int.reduceBEq, T_objInit_e]; clear mp0 mp2 mp3 mp4 mp5 mp6 mp7 mp8 mp9 mp10 mp11 mp12 mp13 mp14 mp15 mp16 mp17 mp18 mp19 mp20 mp21 mp22 mp24 mp25 mp26 mp27)
    rw [m14]
    refine ⟨by omega, by omega, fun z => ?_, fun z => ?_⟩
    · rw [show i = (st 0 7).toNat by omega]
      exact hT
    · have tv := hS.tv (i := (i : Int)) (by omega)
      have t0 := tv.1.2.1
      have t4 := tv.1.2.2.1
      have t5 := tv.1.1
      rw [m13 i (by omega)]
      have no : ¬ (srt U (st 2 i) = 0 ∧ kdv U (st 2 i) = x) → J 5 [vR o, vI p, vI x, vI (cntZ (fun i => decide (srt U (st 2 i) = 0 ∧ kdv U (st 2 i) = x)) i + 0), vI ((i : Int) + 1)] (sz, sl, lay, ρ, σ, τ) := by
        intro a
        rw [hJd]
        refine ⟨rfl, i + 1, by omega, ?_, rfl⟩
        rw [cntZ_f (q := (fun i => decide (srt U (st 2 i) = 0 ∧ kdv U (st 2 i) = x))) (by rw [decide_eq_true_eq]; exact a), Int.add_zero]
        rfl
      refine ⟨hL, U, len, st 1, hB, by omega, by omega, fun a => ?_, fun a => ?_⟩
      · exact ⟨by omega, by omega, no (fun q => a q.1), (by rw [hμ]; simp only [gI_e, List.getD_cons_succ, List.getD_cons_zero]; omega)⟩
      · have ek : kdv U (st 2 i) = U (st 2 i + 3) := by
          unfold kdv
          rw [if_neg]
          intro z2
          unfold srt at a
          rw [if_neg (by omega), if_neg (by omega)] at a
          omega
        rw [b3 (st 2 i + 3) (by omega)]
        refine ⟨by omega, by omega, by omega, by omega, by omega, hL, b1, by omega, fun b => ⟨by omega, by omega, no (fun q => b (by rw [← ek]; exact q.2)), (by rw [hμ]; simp only [gI_e, List.getD_cons_succ, List.getD_cons_zero]; omega)⟩, fun b => ⟨by omega, by omega, ?_, (by rw [hμ]; simp only [gI_e, List.getD_cons_succ, List.getD_cons_zero]; omega)⟩⟩
        rw [hJd]
        refine ⟨rfl, i + 1, by omega, ?_, rfl⟩
        rw [cntZ_t (q := (fun i => decide (srt U (st 2 i) = 0 ∧ kdv U (st 2 i) = x))) (by rw [decide_eq_true_eq]; exact ⟨a, by rw [ek]; exact b⟩)]
        rfl

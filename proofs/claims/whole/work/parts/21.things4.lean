theorem co_X7_424 : CallOK RX7 (.invokevirtual 106) (3, 2, 0, 0, T_Things_valueOf) := call_V S_Things_valueOf (by decide) (ci := 7) rfl (by decide +kernel) (by decide +kernel) (by decide +kernel) (by decide +kernel) (by decide +kernel) (by decide +kernel) T_Things_valueOf_r
def TF_Things_sameValues (o : Nat) (i : Int) (b : Nat) (j : Int) (sz sl : Nat) (lay : Nat → Nat × Int) (ρ : Nat → Int → Nat) (σ : Nat → Int → Int) (τ : Nat → Int → Int64) (k : Option AV → Mm → Prop) : Prop := LThings lay ρ o ∧ (0 ≤ σ o 12 ∧ σ o 12 ≤ 600) ∧ (∀ i, 0 ≤ i → i ≤ σ o 12 → 0 ≤ σ (o + 8) i ∧ σ (o + 8) i ≤ 8000) ∧ LThings lay ρ b ∧ (0 ≤ σ b 12 ∧ σ b 12 ≤ 600) ∧ (∀ i, 0 ≤ i → i ≤ σ b 12 → 0 ≤ σ (b + 8) i ∧ σ (b + 8) i ≤ 8000) ∧ (0 ≤ i ∧ i < σ o 12) ∧ (0 ≤ j ∧ j < σ b 12) ∧ (0 ≤ σ (o + 8) (i + 1) - σ (o + 8) i ∧ 0 ≤ σ (b + 8) (j + 1) - σ (b + 8) j) ∧ (σ (o + 8) (i + 1) - σ (o + 8) i = σ (b + 8) (j + 1) - σ (b + 8) j ∧ (∀ t, 0 ≤ t ∧ t < σ (o + 8) (i + 1) - σ (o + 8) i → τ (o + 10) (σ (o + 8) i + t) = τ (b + 10) (σ (b + 8) j + t)) → k (some (vI (1))) (sz, sl, lay, ρ, σ, τ)) ∧ (¬ (σ (o + 8) (i + 1) - σ (o + 8) i = σ (b + 8) (j + 1) - σ (b + 8) j ∧ (∀ t, 0 ≤ t ∧ t < σ (o + 8) (i + 1) - σ (o + 8) i → τ (o + 10) (σ (o + 8) i + t) = τ (b + 10) (σ (b + 8) j + t))) → k (some (vI (0))) (sz, sl, lay, ρ, σ, τ))
def T_Things_sameValues : Tr := mkT 7 fun o as M k => pI as fun i as => pR as fun b as => pI as fun j as => as = [] ∧ TF_Things_sameValues o i b j M.1 M.2.1 M.2.2.1 M.2.2.2.1 M.2.2.2.2.1 M.2.2.2.2.2 k
theorem T_Things_sameValues_e {o : Nat} {i : Int} {b : Nat} {j : Int} {sz sl : Nat} {lay : Nat → Nat × Int} {ρ : Nat → Int → Nat} {σ : Nat → Int → Int} {τ : Nat → Int → Int64} {k : Option AV → Mm → Prop} : T_Things_sameValues [vR o, vI i, vR b, vI j] (sz, sl, lay, ρ, σ, τ) k = (lay o = (17, 0) ∧ TF_Things_sameValues o i b j sz sl lay ρ σ τ k) := by simp [T_Things_sameValues, mkT_e, pI_e, pR_e, pL_e]
theorem T_Things_sameValues_r (as : List AV) (M : Mm) (k : Option AV → Mm → Prop) (h : T_Things_sameValues as M k) : ∃ b As, as = vR b :: As ∧ M.2.2.1 b = (10 + 7, 0) := by
  obtain ⟨b, As, h1, h2, -⟩ := mkT_r h
  exact ⟨b, As, h1, h2⟩
def tb_Things_sameValues : List (Nat × Option (List Nat) × Instr × List Nat) := [(0, none, .aload_n 0, []), (1, none, .iload_n 1, []), (2, none, .invokevirtual 100, []), (5, none, .istore 4, []), (7, none, .iload 4, []), (9, none, .aload_n 2, []), (10, none, .iload_n 3, []), (11, none, .invokevirtual 100, []), (14, none, .if_icmp .eq 5, [19]), (17, none, .iconst 0, []), (18, none, .ireturn, []), (19, none, .iconst 0, []), (20, none, .istore 5, []), (22, some [0, 1, 2, 3, 4, 5], .iload 5, []), (24, none, .iload 4, []), (26, none, .if_icmp .ge 29, [55]), (29, none, .aload_n 0, []), (30, none, .iload_n 1, []), (31, none, .iload 5, []), (33, none, .invokevirtual 106, []), (36, none, .aload_n 2, []), (37, none, .iload_n 3, []), (38, none, .iload 5, []), (40, none, .invokevirtual 106, []), (43, none, .lcmp, []), (44, none, .ifCond .eq 5, [49]), (47, none, .iconst 0, []), (48, none, .ireturn, []), (49, none, .iinc 5 1, []), (52, none, .goto (-30), [22]), (55, none, .iconst 1, []), (56, none, .ireturn, [])]
def P_Things_sameValues : Nat → Option (List Nat) × Instr × List Nat := plk tb_Things_sameValues
theorem r_Things_sameValues_0 : P_Things_sameValues 0 = (none, .aload_n 0, []) := by decide +kernel
theorem r_Things_sameValues_1 : P_Things_sameValues 1 = (none, .iload_n 1, []) := by decide +kernel
theorem r_Things_sameValues_2 : P_Things_sameValues 2 = (none, .invokevirtual 100, []) := by decide +kernel
theorem r_Things_sameValues_5 : P_Things_sameValues 5 = (none, .istore 4, []) := by decide +kernel
theorem r_Things_sameValues_7 : P_Things_sameValues 7 = (none, .iload 4, []) := by decide +kernel
theorem r_Things_sameValues_9 : P_Things_sameValues 9 = (none, .aload_n 2, []) := by decide +kernel
theorem r_Things_sameValues_10 : P_Things_sameValues 10 = (none, .iload_n 3, []) := by decide +kernel
theorem r_Things_sameValues_11 : P_Things_sameValues 11 = (none, .invokevirtual 100, []) := by decide +kernel
theorem r_Things_sameValues_14 : P_Things_sameValues 14 = (none, .if_icmp .eq 5, [19]) := by decide +kernel
theorem r_Things_sameValues_17 : P_Things_sameValues 17 = (none, .iconst 0, []) := by decide +kernel
theorem r_Things_sameValues_18 : P_Things_sameValues 18 = (none, .ireturn, []) := by decide +kernel
theorem r_Things_sameValues_19 : P_Things_sameValues 19 = (none, .iconst 0, []) := by decide +kernel
theorem r_Things_sameValues_20 : P_Things_sameValues 20 = (none, .istore 5, []) := by decide +kernel
theorem r_Things_sameValues_22 : P_Things_sameValues 22 = (some [0, 1, 2, 3, 4, 5], .iload 5, []) := by decide +kernel
theorem r_Things_sameValues_24 : P_Things_sameValues 24 = (none, .iload 4, []) := by decide +kernel
theorem r_Things_sameValues_26 : P_Things_sameValues 26 = (none, .if_icmp .ge 29, [55]) := by decide +kernel
theorem r_Things_sameValues_29 : P_Things_sameValues 29 = (none, .aload_n 0, []) := by decide +kernel
theorem r_Things_sameValues_30 : P_Things_sameValues 30 = (none, .iload_n 1, []) := by decide +kernel
theorem r_Things_sameValues_31 : P_Things_sameValues 31 = (none, .iload 5, []) := by decide +kernel
theorem r_Things_sameValues_33 : P_Things_sameValues 33 = (none, .invokevirtual 106, []) := by decide +kernel
theorem r_Things_sameValues_36 : P_Things_sameValues 36 = (none, .aload_n 2, []) := by decide +kernel
theorem r_Things_sameValues_37 : P_Things_sameValues 37 = (none, .iload_n 3, []) := by decide +kernel
theorem r_Things_sameValues_38 : P_Things_sameValues 38 = (none, .iload 5, []) := by decide +kernel
theorem r_Things_sameValues_40 : P_Things_sameValues 40 = (none, .invokevirtual 106, []) := by decide +kernel
theorem r_Things_sameValues_43 : P_Things_sameValues 43 = (none, .lcmp, []) := by decide +kernel
theorem r_Things_sameValues_44 : P_Things_sameValues 44 = (none, .ifCond .eq 5, [49]) := by decide +kernel
theorem r_Things_sameValues_47 : P_Things_sameValues 47 = (none, .iconst 0, []) := by decide +kernel
theorem r_Things_sameValues_48 : P_Things_sameValues 48 = (none, .ireturn, []) := by decide +kernel
theorem r_Things_sameValues_49 : P_Things_sameValues 49 = (none, .iinc 5 1, []) := by decide +kernel
theorem r_Things_sameValues_52 : P_Things_sameValues 52 = (none, .goto (-30), [22]) := by decide +kernel
theorem r_Things_sameValues_55 : P_Things_sameValues 55 = (none, .iconst 1, []) := by decide +kernel
theorem r_Things_sameValues_56 : P_Things_sameValues 56 = (none, .ireturn, []) := by decide +kernel
def E_Things_sameValues : List (Nat × Ent) := [(400, (2, 1, 0, 0, T_Things_valueCount)), (424, (3, 2, 0, 0, T_Things_valueOf))]
def X_Things_sameValues : Cx := (llk (0, 0, 9) ftX7, llk 99 ntX7, llk none kcX7, llk none klX7, llk dEnt E_Things_sameValues, 3, 1, false)
theorem xok_Things_sameValues : Xok RX7 X_Things_sameValues := xok_of ftX7_ok ntX7_ok kcX7_ok klX7_ok (E := E_Things_sameValues) (List.forall_mem_cons.mpr ⟨co_X7_400, List.forall_mem_cons.mpr ⟨co_X7_424, fun _ h => absurd h List.not_mem_nil⟩⟩)
theorem xe_Things_sameValues_400 : xE X_Things_sameValues (4 * 100 + 0) = (2, 1, 0, 0, T_Things_valueCount) := rfl
theorem xe_Things_sameValues_424 : xE X_Things_sameValues (4 * 106 + 0) = (3, 2, 0, 0, T_Things_valueOf) := rfl
theorem xd_Things_sameValues : xd X_Things_sameValues = 3 := rfl
theorem xrb_Things_sameValues : xrb X_Things_sameValues = 1 := rfl
theorem xin_Things_sameValues : xin X_Things_sameValues = false := rfl
set_option maxHeartbeats 4000000 in
set_option maxRecDepth 100000 in
theorem S_Things_sameValues : Snd yX7_sameValues cX7_sameValues 6 (some .boolean) T_Things_sameValues 3 0 0 := by
  refine snd_of (X := X_Things_sameValues) (P := P_Things_sameValues) (tb := tb_Things_sameValues) (own := RX7) (by decide) rfl rfl (by decide +kernel) xok_Things_sameValues rfl rk1 (fun h => by first | rfl | cases h) ?_
  intro as M k has hM hT0
  obtain ⟨sz, sl, lay, ρ, σ, τ⟩ := M
  obtain ⟨o, as1, e, hlo, hT1⟩ := mkT_r hT0
  clear hT0
  subst e
  obtain ⟨i, as2, e, hT2⟩ := pI_x hT1
  clear hT1
  subst e
  obtain ⟨b, as3, e, hT3⟩ := pR_x hT2
  clear hT2
  subst e
  obtain ⟨j, as4, e, hT4⟩ := pI_x hT3
  clear hT3
  subst e
  obtain ⟨e, hT⟩ := hT4
  subst e
  replace hlo : lay o = (17, 0) := hlo
  have r_i : -2147483648 ≤ i ∧ i ≤ 2147483647 := has (vI i) (by simp)
  have r_j : -2147483648 ≤ j ∧ j ≤ 2147483647 := has (vI j) (by simp)
  clear has
  replace hM : ∀ a i, -2147483648 ≤ σ a i ∧ σ a i ≤ 2147483647 := hM
  replace hT : TF_Things_sameValues o i b j sz sl lay ρ σ τ k := hT
  unfold TF_Things_sameValues at hT
  obtain ⟨hL, hn, hv, hL2, hn2, hv2, hi, hj, hp, h1, h0⟩ := hT
  obtain ⟨lh, lp0, lp1, lp2, lp3, lp4, lp5, lp6, lp7, lp8, lp9, lp10, lp11, lq0, lq1, lq2, lq3, lq4, lq5, lq6, lq7, lq8, lq9, lq10, lq11⟩ := (show LThings lay ρ _ from hL)
  obtain ⟨mh, mp0, mp1, mp2, mp3, mp4, mp5, mp6, mp7, mp8, mp9, mp10, mp11, mq0, mq1, mq2, mq3, mq4, mq5, mq6, mq7, mq8, mq9, mq10, mq11⟩ := (show LThings lay ρ _ from hL2)
  obtain ⟨J, hJd⟩ : ∃ J : Nat → List AV → Mm → Prop, J = (fun c vs M1 => c = 22 ∧ ∃ n : Int, (0 ≤ n ∧ n ≤ σ (o + 8) (i + 1) - σ (o + 8) i) ∧ σ (o + 8) (i + 1) - σ (o + 8) i = σ (b + 8) (j + 1) - σ (b + 8) j ∧ (∀ t, 0 ≤ t ∧ t < n → τ (o + 10) (σ (o + 8) i + t) = τ (b + 10) (σ (b + 8) j + t)) ∧ vs = [vR o, vI i, vR b, vI j, vI (σ (o + 8) (i + 1) - σ (o + 8) i), vI n] ∧ M1 = (sz, sl, lay, ρ, σ, τ)) := ⟨_, rfl⟩
  obtain ⟨μ, hμ⟩ : ∃ μ : Nat → List AV → Mm → Nat, μ = (fun _ vs _ => (σ (o + 8) (i + 1) - σ (o + 8) i - gI (vs.getD 5 vN)).toNat) := ⟨_, rfl⟩
  refine ⟨Nat.le_of_ble_eq_true rfl, J, μ, 40, ?_, ?_⟩
  · unfold wps
    simp only [si_iload_n0, si_iload_n1, si_iload_n2, si_iload_n3, si_iload, si_lload_n0, si_lload_n1, si_lload_n2, si_lload_n3, si_lload, si_aload_n0, si_aload_n1, si_aload_n2, si_aload_n3, si_aload, si_istore_n0, si_istore_n1, si_istore_n2, si_istore_n3, si_istore, si_astore_n0, si_astore_n1, si_astore_n2, si_astore_n3, si_astore, si_lstore_n0, si_lstore_n1, si_lstore_n2, si_lstore_n3, si_lstore, si_iconst, si_bipush, si_sipush, si_ldc, si_ldc2_w, si_lconst0, si_lconst1, si_aconst_null, si_iinc, si_dup, si_dup2, si_iadd, si_isub, si_imul, si_idiv, si_irem, si_iand, si_ior, si_ishl, si_ishr, si_ladd, si_lmul, si_lor, si_lxor, si_lshl, si_lushr, si_lcmp, si_i2b, si_i2l, si_l2i, si_icmp_eq, si_icmp_ne, si_icmp_lt, si_icmp_ge, si_icmp_gt, si_icmp_le, si_if_eq, si_if_ne, si_if_lt, si_if_ge, si_if_gt, si_if_le, si_ifnull, si_ifnonnull, si_goto, si_tableswitch, si_lookupswitch, si_getfield, si_putfield, si_getstatic, si_iaload, si_baload, si_laload, si_aaload, si_iastore, si_bastore, si_lastore, si_aastore, si_arraylength, si_new, si_newarray, si_anewarray, si_invokevirtual, si_invokespecial, si_invokestatic, si_ireturn, si_lreturn, si_areturn, si_return_, pI_e, pL_e, pR_e, pA_r, pA_n, pN_n, pN_r, oI_e, oL_e, oA_r, oA_n, lget_e, lrm1_0, lrm2_0, lrm1_i, lrm1_r, lrm1_n, lrm1_l, lrm2_i, lrm2_r, lrm2_n, lrm2_l, popN_0, popN_s, acat_i, acat_l, acat_r, acat_n, stw_0, stw_s, psh_s, psh_n, wgf_r, wgf_i, wgf_b, wgf_n, wgf_m, wpf_i, wpf_r, wpf_b, wnew_e, callE_e, rbk_0, rbk_1, tsw_0, tsw_s, lsw_0, lsw_s, wp_s, wq_t, wq_f, oV_e, pick_0, pick_s, oZ_e, oY_e, r_Things_sameValues_0, r_Things_sameValues_1, r_Things_sameValues_2, r_Things_sameValues_5, r_Things_sameValues_7, r_Things_sameValues_9, r_Things_sameValues_10, r_Things_sameValues_11, r_Things_sameValues_14, r_Things_sameValues_17, r_Things_sameValues_18, r_Things_sameValues_19, r_Things_sameValues_20, r_Things_sameValues_22, r_Things_sameValues_24, r_Things_sameValues_26, r_Things_sameValues_29, r_Things_sameValues_30, r_Things_sameValues_31, r_Things_sameValues_33, r_Things_sameValues_36, r_Things_sameValues_37, r_Things_sameValues_38, r_Things_sameValues_40, r_Things_sameValues_43, r_Things_sameValues_44, r_Things_sameValues_47, r_Things_sameValues_48, r_Things_sameValues_49, r_Things_sameValues_52, r_Things_sameValues_55, r_Things_sameValues_56, xe_Things_sameValues_400, xe_Things_sameValues_424, xd_Things_sameValues, xrb_Things_sameValues, xin_Things_sameValues, T_Things_valueCount_e, TF_Things_valueCount, T_Things_valueOf_e, TF_Things_valueOf, lh, lp0, lp1, lp2, lp3, lp4, lp5, lp6, lp7, lp8, lp9, lp10, lp11, lq0, lq1, lq2, lq3, lq4, lq5, lq6, lq7, lq8, lq9, lq10, lq11, mh, mp0, mp1, mp2, mp3, mp4, mp5, mp6, mp7, mp8, mp9, mp10, mp11, mq0, mq1, mq2, mq3, mq4, mq5, mq6, mq7, mq8, mq9, mq10, mq11, cmpL_eq, Nat.reduceAdd, Nat.reduceMul, Nat.reduceEqDiff, reduceIte, Int.reduceNeg, Int.reduceLE, Int.reduceLT, Int.reduceAdd, Int.reduceSub, Int.reduceToNat, true_and, and_true, inR_e, Nat.reduceLT, Nat.reduceLeDiff, reduceCtorEq, Nat.add_zero, Nat.zero_add, or_false, false_or, or_true, true_or, not_true_eq_false, not_false_eq_true, Classical.not_not, Nat.add_eq_zero_iff, and_false, false_and, Int.reduceEq, List.mem_cons, List.not_mem_nil, forall_eq_or_imp, forall_eq, false_implies, implies_true, forall_const, aargs_0, aargs_i, aargs_r, aargs_l, aargs_n, nfT_e, eq_self, and_self, Nat.le_refl, fu_s, fu_fu, iu_iu, iu_s, fu_am, fu_a0, fu_0a, iu_l, Nat.reduceBEq, Int.reduceBEq, T_objInit_e]
    have q1 := hv i
    have q2 := hv (i + 1)
    have q3 := hv2 j
    have q4 := hv2 (j + 1)
    refine ⟨hL, hn, hv, fun a => ⟨hL2, hn2, hv2, fun a2 => ⟨fun g => ?_, fun g => h0 (fun z => g z.1)⟩, fun a2 => absurd hj a2⟩, fun a => absurd hi a⟩
    rw [hJd]
    exact ⟨rfl, 0, by omega, g, (fun t ht => by omega), rfl, rfl⟩
  · intro cp vs M1 hvs hM1 hlen hJ
    rw [hJd] at hJ
    obtain ⟨rfl, n, h2, h3, h4, rfl, rfl⟩ := hJ
    unfold wps
    simp only [Option.getD_some, List.zip_cons_cons, List.zip_nil_left, List.zip_nil_right, List.zip_nil_right, si_iload_n0, si_iload_n1, si_iload_n2, si_iload_n3, si_iload, si_lload_n0, si_lload_n1, si_lload_n2, si_lload_n3, si_lload, si_aload_n0, si_aload_n1, si_aload_n2, si_aload_n3, si_aload, si_istore_n0, si_istore_n1, si_istore_n2, si_istore_n3, si_istore, si_astore_n0, si_astore_n1, si_astore_n2, si_astore_n3, si_astore, si_lstore_n0, si_lstore_n1, si_lstore_n2, si_lstore_n3, si_lstore, si_iconst, si_bipush, si_sipush, si_ldc, si_ldc2_w, si_lconst0, si_lconst1, si_aconst_null, si_iinc, si_dup, si_dup2, si_iadd, si_isub, si_imul, si_idiv, si_irem, si_iand, si_ior, si_ishl, si_ishr, si_ladd, si_lmul, si_lor, si_lxor, si_lshl, si_lushr, si_lcmp, si_i2b, si_i2l, si_l2i, si_icmp_eq, si_icmp_ne, si_icmp_lt, si_icmp_ge, si_icmp_gt, si_icmp_le, si_if_eq, si_if_ne, si_if_lt, si_if_ge, si_if_gt, si_if_le, si_ifnull, si_ifnonnull, si_goto, si_tableswitch, si_lookupswitch, si_getfield, si_putfield, si_getstatic, si_iaload, si_baload, si_laload, si_aaload, si_iastore, si_bastore, si_lastore, si_aastore, si_arraylength, si_new, si_newarray, si_anewarray, si_invokevirtual, si_invokespecial, si_invokestatic, si_ireturn, si_lreturn, si_areturn, si_return_, pI_e, pL_e, pR_e, pA_r, pA_n, pN_n, pN_r, oI_e, oL_e, oA_r, oA_n, lget_e, lrm1_0, lrm2_0, lrm1_i, lrm1_r, lrm1_n, lrm1_l, lrm2_i, lrm2_r, lrm2_n, lrm2_l, popN_0, popN_s, acat_i, acat_l, acat_r, acat_n, stw_0, stw_s, psh_s, psh_n, wgf_r, wgf_i, wgf_b, wgf_n, wgf_m, wpf_i, wpf_r, wpf_b, wnew_e, callE_e, rbk_0, rbk_1, tsw_0, tsw_s, lsw_0, lsw_s, wp_s, wq_t, wq_f, oV_e, pick_0, pick_s, oZ_e, oY_e, r_Things_sameValues_0, r_Things_sameValues_1, r_Things_sameValues_2, r_Things_sameValues_5, r_Things_sameValues_7, r_Things_sameValues_9, r_Things_sameValues_10, r_Things_sameValues_11, r_Things_sameValues_14, r_Things_sameValues_17, r_Things_sameValues_18, r_Things_sameValues_19, r_Things_sameValues_20, r_Things_sameValues_22, r_Things_sameValues_24, r_Things_sameValues_26, r_Things_sameValues_29, r_Things_sameValues_30, r_Things_sameValues_31, r_Things_sameValues_33, r_Things_sameValues_36, r_Things_sameValues_37, r_Things_sameValues_38, r_Things_sameValues_40, r_Things_sameValues_43, r_Things_sameValues_44, r_Things_sameValues_47, r_Things_sameValues_48, r_Things_sameValues_49, r_Things_sameValues_52, r_Things_sameValues_55, r_Things_sameValues_56, xe_Things_sameValues_400, xe_Things_sameValues_424, xd_Things_sameValues, xrb_Things_sameValues, xin_Things_sameValues, T_Things_valueCount_e, TF_Things_valueCount, T_Things_valueOf_e, TF_Things_valueOf, lh, lp0, lp1, lp2, lp3, lp4, lp5, lp6, lp7, lp8, lp9, lp10, lp11, lq0, lq1, lq2, lq3, lq4, lq5, lq6, lq7, lq8, lq9, lq10, lq11, mh, mp0, mp1, mp2, mp3, mp4, mp5, mp6, mp7, mp8, mp9, mp10, mp11, mq0, mq1, mq2, mq3, mq4, mq5, mq6, mq7, mq8, mq9, mq10, mq11, cmpL_eq, Nat.reduceAdd, Nat.reduceMul, Nat.reduceEqDiff, reduceIte, Int.reduceNeg, Int.reduceLE, Int.reduceLT, Int.reduceAdd, Int.reduceSub, Int.reduceToNat, true_and, and_true, inR_e, Nat.reduceLT, Nat.reduceLeDiff, reduceCtorEq, Nat.add_zero, Nat.zero_add, or_false, false_or, or_true, true_or, not_true_eq_false, not_false_eq_true, Classical.not_not, Nat.add_eq_zero_iff, and_false, false_and, Int.reduceEq, List.mem_cons, List.not_mem_nil, forall_eq_or_imp, forall_eq, false_implies, implies_true, forall_const, aargs_0, aargs_i, aargs_r, aargs_l, aargs_n, nfT_e, eq_self, and_self, Nat.le_refl, fu_s, fu_fu, iu_iu, iu_s, fu_am, fu_a0, fu_0a, iu_l, Nat.reduceBEq, Int.reduceBEq, T_objInit_e]
    refine ⟨fun h => ?_, fun h => ?_⟩
    · exact h1 ⟨h3, fun t ht => h4 t (by omega)⟩
    · have q1 := hv i
      have q2 := hv (i + 1)
      refine ⟨hL, hn, hv, fun a => ⟨hL2, hn2, hv2, fun a2 => ⟨fun g => ?_, fun g => ?_⟩, fun a2 => absurd a2 (by omega)⟩, fun a => absurd a (by omega)⟩
      · refine ⟨by omega, ?_, (by rw [hμ]; simp only [gI_e, List.getD_cons_succ, List.getD_cons_zero]; omega)⟩
        rw [hJd]
        refine ⟨rfl, n + 1, by omega, h3, fun t ht => ?_, rfl, rfl⟩
        by_cases e : t = n
        · rw [e]; exact g
        · exact h4 t (by omega)
      · exact h0 (fun z => g (z.2 n (by omega)))
def TF_Things_printOf (o : Nat) (i : Int) (sz sl : Nat) (lay : Nat → Nat × Int) (ρ : Nat → Int → Nat) (σ : Nat → Int → Int) (τ : Nat → Int → Int64) (k : Option AV → Mm → Prop) : Prop := LThings lay ρ o ∧ (0 ≤ σ o 12 ∧ σ o 12 ≤ 600) ∧ (∀ i, 0 ≤ i → i ≤ σ o 12 → 0 ≤ σ (o + 8) i ∧ σ (o + 8) i ≤ 8000) ∧ (0 ≤ i ∧ i < σ o 12) ∧ 0 ≤ σ (o + 8) (i + 1) - σ (o + 8) i ∧ k (some (vI (l2iZ (prF (fun t => τ (o + 10) (σ (o + 8) i + t)) (σ (o + 8) (i + 1) - σ (o + 8) i).toNat (Int64.ofInt (σ (o + 8) (i + 1) - σ (o + 8) i)) ^^^ ushrL (prF (fun t => τ (o + 10) (σ (o + 8) i + t)) (σ (o + 8) (i + 1) - σ (o + 8) i).toNat (Int64.ofInt (σ (o + 8) (i + 1) - σ (o + 8) i))) 32)))) (sz, sl, lay, ρ, σ, τ)
def T_Things_printOf : Tr := mkT 7 fun o as M k => pI as fun i as => as = [] ∧ TF_Things_printOf o i M.1 M.2.1 M.2.2.1 M.2.2.2.1 M.2.2.2.2.1 M.2.2.2.2.2 k
theorem T_Things_printOf_e {o : Nat} {i : Int} {sz sl : Nat} {lay : Nat → Nat × Int} {ρ : Nat → Int → Nat} {σ : Nat → Int → Int} {τ : Nat → Int → Int64} {k : Option AV → Mm → Prop} : T_Things_printOf [vR o, vI i] (sz, sl, lay, ρ, σ, τ) k = (lay o = (17, 0) ∧ TF_Things_printOf o i sz sl lay ρ σ τ k) := by simp [T_Things_printOf, mkT_e, pI_e, pR_e, pL_e]
theorem T_Things_printOf_r (as : List AV) (M : Mm) (k : Option AV → Mm → Prop) (h : T_Things_printOf as M k) : ∃ b As, as = vR b :: As ∧ M.2.2.1 b = (10 + 7, 0) := by
  obtain ⟨b, As, h1, h2, -⟩ := mkT_r h
  exact ⟨b, As, h1, h2⟩
def tb_Things_printOf : List (Nat × Option (List Nat) × Instr × List Nat) := [(0, none, .aload_n 0, []), (1, none, .iload_n 1, []), (2, none, .invokevirtual 100, []), (5, none, .istore_n 2, []), (6, none, .iload_n 2, []), (7, none, .i2l, []), (8, none, .lstore_n 3, []), (9, none, .iconst 0, []), (10, none, .istore 5, []), (12, some [0, 1, 2, 3, 5], .iload 5, []), (14, none, .iload_n 2, []), (15, none, .if_icmp .ge 23, [38]), (18, none, .lload_n 3, []), (19, none, .ldc2_w 110, []), (22, none, .lmul, []), (23, none, .aload_n 0, []), (24, none, .iload_n 1, []), (25, none, .iload 5, []), (27, none, .invokevirtual 106, []), (30, none, .ladd, []), (31, none, .lstore_n 3, []), (32, none, .iinc 5 1, []), (35, none, .goto (-23), [12]), (38, none, .lload_n 3, []), (39, none, .lload_n 3, []), (40, none, .bipush 32, []), (42, none, .lushr, []), (43, none, .lxor, []), (44, none, .l2i, []), (45, none, .ireturn, [])]
def P_Things_printOf : Nat → Option (List Nat) × Instr × List Nat := plk tb_Things_printOf
theorem r_Things_printOf_0 : P_Things_printOf 0 = (none, .aload_n 0, []) := by decide +kernel
theorem r_Things_printOf_1 : P_Things_printOf 1 = (none, .iload_n 1, []) := by decide +kernel
theorem r_Things_printOf_2 : P_Things_printOf 2 = (none, .invokevirtual 100, []) := by decide +kernel
theorem r_Things_printOf_5 : P_Things_printOf 5 = (none, .istore_n 2, []) := by decide +kernel
theorem r_Things_printOf_6 : P_Things_printOf 6 = (none, .iload_n 2, []) := by decide +kernel
theorem r_Things_printOf_7 : P_Things_printOf 7 = (none, .i2l, []) := by decide +kernel
theorem r_Things_printOf_8 : P_Things_printOf 8 = (none, .lstore_n 3, []) := by decide +kernel
theorem r_Things_printOf_9 : P_Things_printOf 9 = (none, .iconst 0, []) := by decide +kernel
theorem r_Things_printOf_10 : P_Things_printOf 10 = (none, .istore 5, []) := by decide +kernel
theorem r_Things_printOf_12 : P_Things_printOf 12 = (some [0, 1, 2, 3, 5], .iload 5, []) := by decide +kernel
theorem r_Things_printOf_14 : P_Things_printOf 14 = (none, .iload_n 2, []) := by decide +kernel
theorem r_Things_printOf_15 : P_Things_printOf 15 = (none, .if_icmp .ge 23, [38]) := by decide +kernel
theorem r_Things_printOf_18 : P_Things_printOf 18 = (none, .lload_n 3, []) := by decide +kernel
theorem r_Things_printOf_19 : P_Things_printOf 19 = (none, .ldc2_w 110, []) := by decide +kernel
theorem r_Things_printOf_22 : P_Things_printOf 22 = (none, .lmul, []) := by decide +kernel
theorem r_Things_printOf_23 : P_Things_printOf 23 = (none, .aload_n 0, []) := by decide +kernel
theorem r_Things_printOf_24 : P_Things_printOf 24 = (none, .iload_n 1, []) := by decide +kernel
theorem r_Things_printOf_25 : P_Things_printOf 25 = (none, .iload 5, []) := by decide +kernel
theorem r_Things_printOf_27 : P_Things_printOf 27 = (none, .invokevirtual 106, []) := by decide +kernel
theorem r_Things_printOf_30 : P_Things_printOf 30 = (none, .ladd, []) := by decide +kernel
theorem r_Things_printOf_31 : P_Things_printOf 31 = (none, .lstore_n 3, []) := by decide +kernel
theorem r_Things_printOf_32 : P_Things_printOf 32 = (none, .iinc 5 1, []) := by decide +kernel
theorem r_Things_printOf_35 : P_Things_printOf 35 = (none, .goto (-23), [12]) := by decide +kernel
theorem r_Things_printOf_38 : P_Things_printOf 38 = (none, .lload_n 3, []) := by decide +kernel
theorem r_Things_printOf_39 : P_Things_printOf 39 = (none, .lload_n 3, []) := by decide +kernel
theorem r_Things_printOf_40 : P_Things_printOf 40 = (none, .bipush 32, []) := by decide +kernel
theorem r_Things_printOf_42 : P_Things_printOf 42 = (none, .lushr, []) := by decide +kernel
theorem r_Things_printOf_43 : P_Things_printOf 43 = (none, .lxor, []) := by decide +kernel
theorem r_Things_printOf_44 : P_Things_printOf 44 = (none, .l2i, []) := by decide +kernel
theorem r_Things_printOf_45 : P_Things_printOf 45 = (none, .ireturn, []) := by decide +kernel
def E_Things_printOf : List (Nat × Ent) := [(400, (2, 1, 0, 0, T_Things_valueCount)), (424, (3, 2, 0, 0, T_Things_valueOf))]
def X_Things_printOf : Cx := (llk (0, 0, 9) ftX7, llk 99 ntX7, llk none kcX7, llk none klX7, llk dEnt E_Things_printOf, 3, 0, false)
theorem xok_Things_printOf : Xok RX7 X_Things_printOf := xok_of ftX7_ok ntX7_ok kcX7_ok klX7_ok (E := E_Things_printOf) (List.forall_mem_cons.mpr ⟨co_X7_400, List.forall_mem_cons.mpr ⟨co_X7_424, fun _ h => absurd h List.not_mem_nil⟩⟩)
theorem xl_Things_printOf_110 : xkl X_Things_printOf 110 = some 31 := by decide +kernel
theorem xe_Things_printOf_400 : xE X_Things_printOf (4 * 100 + 0) = (2, 1, 0, 0, T_Things_valueCount) := rfl
theorem xe_Things_printOf_424 : xE X_Things_printOf (4 * 106 + 0) = (3, 2, 0, 0, T_Things_valueOf) := rfl
theorem xd_Things_printOf : xd X_Things_printOf = 3 := rfl
theorem xrb_Things_printOf : xrb X_Things_printOf = 0 := rfl
theorem xin_Things_printOf : xin X_Things_printOf = false := rfl
set_option maxHeartbeats 4000000 in
set_option maxRecDepth 100000 in
theorem S_Things_printOf : Snd yX7_printOf cX7_printOf 6 (some .int) T_Things_printOf 3 0 0 := by
  refine snd_of (X := X_Things_printOf) (P := P_Things_printOf) (tb := tb_Things_printOf) (own := RX7) (by decide) rfl rfl (by decide +kernel) xok_Things_printOf rfl rk0 (fun h => by first | rfl | cases h) ?_
  intro as M k has hM hT0
  obtain ⟨sz, sl, lay, ρ, σ, τ⟩ := M
  obtain ⟨o, as1, e, hlo, hT1⟩ := mkT_r hT0
  clear hT0
  subst e
  obtain ⟨i, as2, e, hT2⟩ := pI_x hT1
  clear hT1
  subst e
  obtain ⟨e, hT⟩ := hT2
  subst e
  replace hlo : lay o = (17, 0) := hlo
  have r_i : -2147483648 ≤ i ∧ i ≤ 2147483647 := has (vI i) (by simp)
  clear has
  replace hM : ∀ a i, -2147483648 ≤ σ a i ∧ σ a i ≤ 2147483647 := hM
  replace hT : TF_Things_printOf o i sz sl lay ρ σ τ k := hT
  unfold TF_Things_printOf at hT
  obtain ⟨hL, hn, hv, hi, hp, hT⟩ := hT
  obtain ⟨lh, lp0, lp1, lp2, lp3, lp4, lp5, lp6, lp7, lp8, lp9, lp10, lp11, lq0, lq1, lq2, lq3, lq4, lq5, lq6, lq7, lq8, lq9, lq10, lq11⟩ := (show LThings lay ρ _ from hL)
  obtain ⟨J, hJd⟩ : ∃ J : Nat → List AV → Mm → Prop, J = (fun c vs M1 => c = 12 ∧ ∃ n : Nat, n ≤ σ (o + 8) (i + 1) - σ (o + 8) i ∧ vs = [vR o, vI i, vI (σ (o + 8) (i + 1) - σ (o + 8) i), vL (prF (fun t => τ (o + 10) (σ (o + 8) i + t)) n (Int64.ofInt (σ (o + 8) (i + 1) - σ (o + 8) i))), vI n] ∧ M1 = (sz, sl, lay, ρ, σ, τ)) := ⟨_, rfl⟩
  obtain ⟨μ, hμ⟩ : ∃ μ : Nat → List AV → Mm → Nat, μ = (fun _ vs _ => (σ (o + 8) (i + 1) - σ (o + 8) i - gI (vs.getD 4 vN)).toNat) := ⟨_, rfl⟩
  refine ⟨Nat.le_of_ble_eq_true rfl, J, μ, 38, ?_, ?_⟩
  · unfold wps
    simp only [si_iload_n0, si_iload_n1, si_iload_n2, si_iload_n3, si_iload, si_lload_n0, si_lload_n1, si_lload_n2, si_lload_n3, si_lload, si_aload_n0, si_aload_n1, si_aload_n2, si_aload_n3, si_aload, si_istore_n0, si_istore_n1, si_istore_n2, si_istore_n3, si_istore, si_astore_n0, si_astore_n1, si_astore_n2, si_astore_n3, si_astore, si_lstore_n0, si_lstore_n1, si_lstore_n2, si_lstore_n3, si_lstore, si_iconst, si_bipush, si_sipush, si_ldc, si_ldc2_w, si_lconst0, si_lconst1, si_aconst_null, si_iinc, si_dup, si_dup2, si_iadd, si_isub, si_imul, si_idiv, si_irem, si_iand, si_ior, si_ishl, si_ishr, si_ladd, si_lmul, si_lor, si_lxor, si_lshl, si_lushr, si_lcmp, si_i2b, si_i2l, si_l2i, si_icmp_eq, si_icmp_ne, si_icmp_lt, si_icmp_ge, si_icmp_gt, si_icmp_le, si_if_eq, si_if_ne, si_if_lt, si_if_ge, si_if_gt, si_if_le, si_ifnull, si_ifnonnull, si_goto, si_tableswitch, si_lookupswitch, si_getfield, si_putfield, si_getstatic, si_iaload, si_baload, si_laload, si_aaload, si_iastore, si_bastore, si_lastore, si_aastore, si_arraylength, si_new, si_newarray, si_anewarray, si_invokevirtual, si_invokespecial, si_invokestatic, si_ireturn, si_lreturn, si_areturn, si_return_, pI_e, pL_e, pR_e, pA_r, pA_n, pN_n, pN_r, oI_e, oL_e, oA_r, oA_n, lget_e, lrm1_0, lrm2_0, lrm1_i, lrm1_r, lrm1_n, lrm1_l, lrm2_i, lrm2_r, lrm2_n, lrm2_l, popN_0, popN_s, acat_i, acat_l, acat_r, acat_n, stw_0, stw_s, psh_s, psh_n, wgf_r, wgf_i, wgf_b, wgf_n, wgf_m, wpf_i, wpf_r, wpf_b, wnew_e, callE_e, rbk_0, rbk_1, tsw_0, tsw_s, lsw_0, lsw_s, wp_s, wq_t, wq_f, oV_e, pick_0, pick_s, oZ_e, oY_e, r_Things_printOf_0, r_Things_printOf_1, r_Things_printOf_2, r_Things_printOf_5, r_Things_printOf_6, r_Things_printOf_7, r_Things_printOf_8, r_Things_printOf_9, r_Things_printOf_10, r_Things_printOf_12, r_Things_printOf_14, r_Things_printOf_15, r_Things_printOf_18, r_Things_printOf_19, r_Things_printOf_22, r_Things_printOf_23, r_Things_printOf_24, r_Things_printOf_25, r_Things_printOf_27, r_Things_printOf_30, r_Things_printOf_31, r_Things_printOf_32, r_Things_printOf_35, r_Things_printOf_38, r_Things_printOf_39, r_Things_printOf_40, r_Things_printOf_42, r_Things_printOf_43, r_Things_printOf_44, r_Things_printOf_45, xl_Things_printOf_110, xe_Things_printOf_400, xe_Things_printOf_424, xd_Things_printOf, xrb_Things_printOf, xin_Things_printOf, T_Things_valueCount_e, TF_Things_valueCount, T_Things_valueOf_e, TF_Things_valueOf, lh, lp0, lp1, lp2, lp3, lp4, lp5, lp6, lp7, lp8, lp9, lp10, lp11, lq0, lq1, lq2, lq3, lq4, lq5, lq6, lq7, lq8, lq9, lq10, lq11, Nat.reduceAdd, Nat.reduceMul, Nat.reduceEqDiff, reduceIte, Int.reduceNeg, Int.reduceLE, Int.reduceLT, Int.reduceAdd, Int.reduceSub, Int.reduceToNat, true_and, and_true, inR_e, Nat.reduceLT, Nat.reduceLeDiff, reduceCtorEq, Nat.add_zero, Nat.zero_add, or_false, false_or, or_true, true_or, not_true_eq_false, not_false_eq_true, Classical.not_not, Nat.add_eq_zero_iff, and_false, false_and, Int.reduceEq, List.mem_cons, List.not_mem_nil, forall_eq_or_imp, forall_eq, false_implies, implies_true, forall_const, aargs_0, aargs_i, aargs_r, aargs_l, aargs_n, nfT_e, eq_self, and_self, Nat.le_refl, fu_s, fu_fu, iu_iu, iu_s, fu_am, fu_a0, fu_0a, iu_l, Nat.reduceBEq, Int.reduceBEq, T_objInit_e]
    have q1 := hv i
    have q2 := hv (i + 1)
    refine ⟨hL, hn, hv, fun a => ?_, fun a => absurd hi a⟩
    rw [hJd]
    exact ⟨rfl, 0, by omega, rfl, rfl⟩
  · intro cp vs M1 hvs hM1 hlen hJ
    rw [hJd] at hJ
    obtain ⟨rfl, n, h2, rfl, rfl⟩ := hJ
    unfold wps
    simp only [Option.getD_some, List.zip_cons_cons, List.zip_nil_left, List.zip_nil_right, List.zip_nil_right, si_iload_n0, si_iload_n1, si_iload_n2, si_iload_n3, si_iload, si_lload_n0, si_lload_n1, si_lload_n2, si_lload_n3, si_lload, si_aload_n0, si_aload_n1, si_aload_n2, si_aload_n3, si_aload, si_istore_n0, si_istore_n1, si_istore_n2, si_istore_n3, si_istore, si_astore_n0, si_astore_n1, si_astore_n2, si_astore_n3, si_astore, si_lstore_n0, si_lstore_n1, si_lstore_n2, si_lstore_n3, si_lstore, si_iconst, si_bipush, si_sipush, si_ldc, si_ldc2_w, si_lconst0, si_lconst1, si_aconst_null, si_iinc, si_dup, si_dup2, si_iadd, si_isub, si_imul, si_idiv, si_irem, si_iand, si_ior, si_ishl, si_ishr, si_ladd, si_lmul, si_lor, si_lxor, si_lshl, si_lushr, si_lcmp, si_i2b, si_i2l, si_l2i, si_icmp_eq, si_icmp_ne, si_icmp_lt, si_icmp_ge, si_icmp_gt, si_icmp_le, si_if_eq, si_if_ne, si_if_lt, si_if_ge, si_if_gt, si_if_le, si_ifnull, si_ifnonnull, si_goto, si_tableswitch, si_lookupswitch, si_getfield, si_putfield, si_getstatic, si_iaload, si_baload, si_laload, si_aaload, si_iastore, si_bastore, si_lastore, si_aastore, si_arraylength, si_new, si_newarray, si_anewarray, si_invokevirtual, si_invokespecial, si_invokestatic, si_ireturn, si_lreturn, si_areturn, si_return_, pI_e, pL_e, pR_e, pA_r, pA_n, pN_n, pN_r, oI_e, oL_e, oA_r, oA_n, lget_e, lrm1_0, lrm2_0, lrm1_i, lrm1_r, lrm1_n, lrm1_l, lrm2_i, lrm2_r, lrm2_n, lrm2_l, popN_0, popN_s, acat_i, acat_l, acat_r, acat_n, stw_0, stw_s, psh_s, psh_n, wgf_r, wgf_i, wgf_b, wgf_n, wgf_m, wpf_i, wpf_r, wpf_b, wnew_e, callE_e, rbk_0, rbk_1, tsw_0, tsw_s, lsw_0, lsw_s, wp_s, wq_t, wq_f, oV_e, pick_0, pick_s, oZ_e, oY_e, r_Things_printOf_0, r_Things_printOf_1, r_Things_printOf_2, r_Things_printOf_5, r_Things_printOf_6, r_Things_printOf_7, r_Things_printOf_8, r_Things_printOf_9, r_Things_printOf_10, r_Things_printOf_12, r_Things_printOf_14, r_Things_printOf_15, r_Things_printOf_18, r_Things_printOf_19, r_Things_printOf_22, r_Things_printOf_23, r_Things_printOf_24, r_Things_printOf_25, r_Things_printOf_27, r_Things_printOf_30, r_Things_printOf_31, r_Things_printOf_32, r_Things_printOf_35, r_Things_printOf_38, r_Things_printOf_39, r_Things_printOf_40, r_Things_printOf_42, r_Things_printOf_43, r_Things_printOf_44, r_Things_printOf_45, xl_Things_printOf_110, xe_Things_printOf_400, xe_Things_printOf_424, xd_Things_printOf, xrb_Things_printOf, xin_Things_printOf, T_Things_valueCount_e, TF_Things_valueCount, T_Things_valueOf_e, TF_Things_valueOf, lh, lp0, lp1, lp2, lp3, lp4, lp5, lp6, lp7, lp8, lp9, lp10, lp11, lq0, lq1, lq2, lq3, lq4, lq5, lq6, lq7, lq8, lq9, lq10, lq11, Nat.reduceAdd, Nat.reduceMul, Nat.reduceEqDiff, reduceIte, Int.reduceNeg, Int.reduceLE, Int.reduceLT, Int.reduceAdd, Int.reduceSub, Int.reduceToNat, true_and, and_true, inR_e, Nat.reduceLT, Nat.reduceLeDiff, reduceCtorEq, Nat.add_zero, Nat.zero_add, or_false, false_or, or_true, true_or, not_true_eq_false, not_false_eq_true, Classical.not_not, Nat.add_eq_zero_iff, and_false, false_and, Int.reduceEq, List.mem_cons, List.not_mem_nil, forall_eq_or_imp, forall_eq, false_implies, implies_true, forall_const, aargs_0, aargs_i, aargs_r, aargs_l, aargs_n, nfT_e, eq_self, and_self, Nat.le_refl, fu_s, fu_fu, iu_iu, iu_s, fu_am, fu_a0, fu_0a, iu_l, Nat.reduceBEq, Int.reduceBEq, T_objInit_e]
    refine ⟨fun h => ?_, fun h => ?_⟩
    · rw [show (σ (o + 8) (i + 1) - σ (o + 8) i).toNat = n by omega] at hT
      exact hT
    · have q1 := hv i
      have q2 := hv (i + 1)
      refine ⟨hL, hn, hv, fun a => ?_, fun a => absurd a (by omega)⟩
      refine ⟨by omega, ?_, (by rw [hμ]; simp only [gI_e, List.getD_cons_succ, List.getD_cons_zero]; omega)⟩
      rw [hJd]
      exact ⟨rfl, n + 1, by omega, rfl, rfl⟩
theorem co_X7_338 : CallOK RX7 (.invokestatic 84) (5, 0, 0, 0, T_copy) := call_copy (by decide +kernel) (by decide +kernel) (by decide +kernel) (by decide +kernel)
def TF_Things_enlist (o : Nat) (x : Int) (sz sl : Nat) (lay : Nat → Nat × Int) (ρ : Nat → Int → Nat) (σ : Nat → Int → Int) (τ : Nat → Int → Int64) (k : Option AV → Mm → Prop) : Prop := LThings lay ρ o ∧ (0 ≤ σ o 12 ∧ σ o 12 < 600) ∧ ThB σ o ∧ (∀ r, (0 ≤ r ∧ r ≤ σ o 12) → (∀ i, 0 ≤ i ∧ i < r → σ (o + 1) (σ (o + 7) i) < x) → (∀ i, r ≤ i ∧ i < σ o 12 → x ≤ σ (o + 1) (σ (o + 7) i)) → k none (sz, sl, lay, ρ, fu σ (o + 7) (iu (fun i => if r + 1 ≤ i ∧ i < r + 1 + (σ o 12 - r) then σ (o + 7) (r + (i - (r + 1))) else σ (o + 7) i) r (σ o 12)), τ))
def T_Things_enlist : Tr := mkT 7 fun o as M k => pI as fun x as => as = [] ∧ TF_Things_enlist o x M.1 M.2.1 M.2.2.1 M.2.2.2.1 M.2.2.2.2.1 M.2.2.2.2.2 k
theorem T_Things_enlist_e {o : Nat} {x : Int} {sz sl : Nat} {lay : Nat → Nat × Int} {ρ : Nat → Int → Nat} {σ : Nat → Int → Int} {τ : Nat → Int → Int64} {k : Option AV → Mm → Prop} : T_Things_enlist [vR o, vI x] (sz, sl, lay, ρ, σ, τ) k = (lay o = (17, 0) ∧ TF_Things_enlist o x sz sl lay ρ σ τ k) := by simp [T_Things_enlist, mkT_e, pI_e, pR_e, pL_e]
theorem T_Things_enlist_r (as : List AV) (M : Mm) (k : Option AV → Mm → Prop) (h : T_Things_enlist as M k) : ∃ b As, as = vR b :: As ∧ M.2.2.1 b = (10 + 7, 0) := by
  obtain ⟨b, As, h1, h2, -⟩ := mkT_r h
  exact ⟨b, As, h1, h2⟩
def tb_Things_enlist : List (Nat × Option (List Nat) × Instr × List Nat) := [(0, none, .aload_n 0, []), (1, none, .iload_n 1, []), (2, none, .invokevirtual 81, []), (5, none, .istore_n 2, []), (6, none, .aload_n 0, []), (7, none, .getfield 30, []), (10, none, .iload_n 2, []), (11, none, .aload_n 0, []), (12, none, .getfield 30, []), (15, none, .iload_n 2, []), (16, none, .iconst 1, []), (17, none, .iadd, []), (18, none, .aload_n 0, []), (19, none, .getfield 49, []), (22, none, .iload_n 2, []), (23, none, .isub, []), (24, none, .invokestatic 84, []), (27, none, .aload_n 0, []), (28, none, .getfield 30, []), (31, none, .iload_n 2, []), (32, none, .aload_n 0, []), (33, none, .getfield 49, []), (36, none, .iastore, []), (37, none, .return_, [])]
def P_Things_enlist : Nat → Option (List Nat) × Instr × List Nat := plk tb_Things_enlist
theorem r_Things_enlist_0 : P_Things_enlist 0 = (none, .aload_n 0, []) := by decide +kernel
theorem r_Things_enlist_1 : P_Things_enlist 1 = (none, .iload_n 1, []) := by decide +kernel
theorem r_Things_enlist_2 : P_Things_enlist 2 = (none, .invokevirtual 81, []) := by decide +kernel
theorem r_Things_enlist_5 : P_Things_enlist 5 = (none, .istore_n 2, []) := by decide +kernel
theorem r_Things_enlist_6 : P_Things_enlist 6 = (none, .aload_n 0, []) := by decide +kernel
theorem r_Things_enlist_7 : P_Things_enlist 7 = (none, .getfield 30, []) := by decide +kernel
theorem r_Things_enlist_10 : P_Things_enlist 10 = (none, .iload_n 2, []) := by decide +kernel
theorem r_Things_enlist_11 : P_Things_enlist 11 = (none, .aload_n 0, []) := by decide +kernel
theorem r_Things_enlist_12 : P_Things_enlist 12 = (none, .getfield 30, []) := by decide +kernel
theorem r_Things_enlist_15 : P_Things_enlist 15 = (none, .iload_n 2, []) := by decide +kernel
theorem r_Things_enlist_16 : P_Things_enlist 16 = (none, .iconst 1, []) := by decide +kernel
theorem r_Things_enlist_17 : P_Things_enlist 17 = (none, .iadd, []) := by decide +kernel
theorem r_Things_enlist_18 : P_Things_enlist 18 = (none, .aload_n 0, []) := by decide +kernel
theorem r_Things_enlist_19 : P_Things_enlist 19 = (none, .getfield 49, []) := by decide +kernel
theorem r_Things_enlist_22 : P_Things_enlist 22 = (none, .iload_n 2, []) := by decide +kernel
theorem r_Things_enlist_23 : P_Things_enlist 23 = (none, .isub, []) := by decide +kernel
theorem r_Things_enlist_24 : P_Things_enlist 24 = (none, .invokestatic 84, []) := by decide +kernel
theorem r_Things_enlist_27 : P_Things_enlist 27 = (none, .aload_n 0, []) := by decide +kernel
theorem r_Things_enlist_28 : P_Things_enlist 28 = (none, .getfield 30, []) := by decide +kernel
theorem r_Things_enlist_31 : P_Things_enlist 31 = (none, .iload_n 2, []) := by decide +kernel
theorem r_Things_enlist_32 : P_Things_enlist 32 = (none, .aload_n 0, []) := by decide +kernel
theorem r_Things_enlist_33 : P_Things_enlist 33 = (none, .getfield 49, []) := by decide +kernel
theorem r_Things_enlist_36 : P_Things_enlist 36 = (none, .iastore, []) := by decide +kernel
theorem r_Things_enlist_37 : P_Things_enlist 37 = (none, .return_, []) := by decide +kernel
def E_Things_enlist : List (Nat × Ent) := [(338, (5, 0, 0, 0, T_copy)), (324, (2, 1, 0, 0, T_Things_countBelow))]
def X_Things_enlist : Cx := (llk (0, 0, 9) ftX7, llk 99 ntX7, llk none kcX7, llk none klX7, llk dEnt E_Things_enlist, 2, 3, false)
theorem xok_Things_enlist : Xok RX7 X_Things_enlist := xok_of ftX7_ok ntX7_ok kcX7_ok klX7_ok (E := E_Things_enlist) (List.forall_mem_cons.mpr ⟨co_X7_338, List.forall_mem_cons.mpr ⟨co_X7_324, fun _ h => absurd h List.not_mem_nil⟩⟩)
theorem xf_Things_enlist_30 : xfl X_Things_enlist 30 = (7, 6, 1) := by decide +kernel
theorem xf_Things_enlist_49 : xfl X_Things_enlist 49 = (7, 12, 0) := by decide +kernel
theorem xe_Things_enlist_338 : xE X_Things_enlist (4 * 84 + 2) = (5, 0, 0, 0, T_copy) := rfl
theorem xe_Things_enlist_324 : xE X_Things_enlist (4 * 81 + 0) = (2, 1, 0, 0, T_Things_countBelow) := rfl
theorem xd_Things_enlist : xd X_Things_enlist = 2 := rfl
theorem xrb_Things_enlist : xrb X_Things_enlist = 3 := rfl
theorem xin_Things_enlist : xin X_Things_enlist = false := rfl
set_option maxHeartbeats 4000000 in
set_option maxRecDepth 100000 in
theorem S_Things_enlist : Snd yX7_enlist cX7_enlist 3 none T_Things_enlist 2 0 0 := by
  refine snd_of (X := X_Things_enlist) (P := P_Things_enlist) (tb := tb_Things_enlist) (own := RX7) (by decide) rfl rfl (by decide +kernel) xok_Things_enlist rfl rk3 (fun h => by first | rfl | cases h) ?_
  intro as M k has hM hT0
  obtain ⟨sz, sl, lay, ρ, σ, τ⟩ := M
  obtain ⟨o, as1, e, hlo, hT1⟩ := mkT_r hT0
  clear hT0
  subst e
  obtain ⟨x, as2, e, hT2⟩ := pI_x hT1
  clear hT1
  subst e
  obtain ⟨e, hT⟩ := hT2
  subst e
  replace hlo : lay o = (17, 0) := hlo
  have r_x : -2147483648 ≤ x ∧ x ≤ 2147483647 := has (vI x) (by simp)
  clear has
  replace hM : ∀ a i, -2147483648 ≤ σ a i ∧ σ a i ≤ 2147483647 := hM
  replace hT : TF_Things_enlist o x sz sl lay ρ σ τ k := hT
  unfold TF_Things_enlist at hT
  obtain ⟨hL, hn, hB, hT⟩ := hT
  obtain ⟨lh, lp0, lp1, lp2, lp3, lp4, lp5, lp6, lp7, lp8, lp9, lp10, lp11, lq0, lq1, lq2, lq3, lq4, lq5, lq6, lq7, lq8, lq9, lq10, lq11⟩ := (show LThings lay ρ _ from hL)
  refine ⟨Nat.le_of_ble_eq_true rfl, fun _ _ _ => False, fun _ _ _ => 0, 32, ?_, fun _ _ _ _ _ _ h => h.elim⟩
  unfold wps
  simp only [si_iload_n0, si_iload_n1, si_iload_n2, si_iload_n3, si_iload, si_lload_n0, si_lload_n1, si_lload_n2, si_lload_n3, si_lload, si_aload_n0, si_aload_n1, si_aload_n2, si_aload_n3, si_aload, si_istore_n0, si_istore_n1, si_istore_n2, si_istore_n3, si_istore, si_astore_n0, si_astore_n1, si_astore_n2, si_astore_n3, si_astore, si_lstore_n0, si_lstore_n1, si_lstore_n2, si_lstore_n3, si_lstore, si_iconst, si_bipush, si_sipush, si_ldc, si_ldc2_w, si_lconst0, si_lconst1, si_aconst_null, si_iinc, si_dup, si_dup2, si_iadd, si_isub, si_imul, si_idiv, si_irem, si_iand, si_ior, si_ishl, si_ishr, si_ladd, si_lmul, si_lor, si_lxor, si_lshl, si_lushr, si_lcmp, si_i2b, si_i2l, si_l2i, si_icmp_eq, si_icmp_ne, si_icmp_lt, si_icmp_ge, si_icmp_gt, si_icmp_le, si_if_eq, si_if_ne, si_if_lt, si_if_ge, si_if_gt, si_if_le, si_ifnull, si_ifnonnull, si_goto, si_tableswitch, si_lookupswitch, si_getfield, si_putfield, si_getstatic, si_iaload, si_baload, si_laload, si_aaload, si_iastore, si_bastore, si_lastore, si_aastore, si_arraylength, si_new, si_newarray, si_anewarray, si_invokevirtual, si_invokespecial, si_invokestatic, si_ireturn, si_lreturn, si_areturn, si_return_, pI_e, pL_e, pR_e, pA_r, pA_n, pN_n, pN_r, oI_e, oL_e, oA_r, oA_n, lget_e, lrm1_0, lrm2_0, lrm1_i, lrm1_r, lrm1_n, lrm1_l, lrm2_i, lrm2_r, lrm2_n, lrm2_l, popN_0, popN_s, acat_i, acat_l, acat_r, acat_n, stw_0, stw_s, psh_s, psh_n, wgf_r, wgf_i, wgf_b, wgf_n, wgf_m, wpf_i, wpf_r, wpf_b, wnew_e, callE_e, rbk_0, rbk_1, tsw_0, tsw_s, lsw_0, lsw_s, wp_s, wq_t, wq_f, oV_e, pick_0, pick_s, oZ_e, oY_e, r_Things_enlist_0, r_Things_enlist_1, r_Things_enlist_2, r_Things_enlist_5, r_Things_enlist_6, r_Things_enlist_7, r_Things_enlist_10, r_Things_enlist_11, r_Things_enlist_12, r_Things_enlist_15, r_Things_enlist_16, r_Things_enlist_17, r_Things_enlist_18, r_Things_enlist_19, r_Things_enlist_22, r_Things_enlist_23, r_Things_enlist_24, r_Things_enlist_27, r_Things_enlist_28, r_Things_enlist_31, r_Things_enlist_32, r_Things_enlist_33, r_Things_enlist_36, r_Things_enlist_37, xf_Things_enlist_30, xf_Things_enlist_49, xe_Things_enlist_338, xe_Things_enlist_324, xd_Things_enlist, xrb_Things_enlist, xin_Things_enlist, T_copy, T_Things_countBelow_e, TF_Things_countBelow, lh, lp0, lp1, lp2, lp3, lp4, lp5, lp6, lp7, lp8, lp9, lp10, lp11, lq0, lq1, lq2, lq3, lq4, lq5, lq6, lq7, lq8, lq9, lq10, lq11, pR_e, pI_e, Nat.reduceAdd, Nat.reduceMul, Nat.reduceEqDiff, reduceIte, Int.reduceNeg, Int.reduceLE, Int.reduceLT, Int.reduceAdd, Int.reduceSub, Int.reduceToNat, true_and, and_true, inR_e, Nat.reduceLT, Nat.reduceLeDiff, reduceCtorEq, Nat.add_zero, Nat.zero_add, or_false, false_or, or_true, true_or, not_true_eq_false, not_false_eq_true, Classical.not_not, Nat.add_eq_zero_iff, and_false, false_and, Int.reduceEq, List.mem_cons, List.not_mem_nil, forall_eq_or_imp, forall_eq, false_implies, implies_true, forall_const, aargs_0, aargs_i, aargs_r, aargs_l, aargs_n, nfT_e, eq_self, and_self, Nat.le_refl, fu_s, fu_fu, iu_iu, iu_s, fu_am, fu_a0, fu_0a, iu_l, Nat.reduceBEq, Int.reduceBEq, T_objInit_e]
  refine ⟨hL, by omega, hB, fun r hr a1 a2 => ?_⟩
  have hT := hT r hr a1 a2
  repeat' (first | assumption | intro _ | apply And.intro)
  all_goals first | omega | assumption

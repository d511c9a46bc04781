set_option maxHeartbeats 8000000 in
set_option maxRecDepth 100000 in
theorem law_0 {sz sl b : Nat} {L : Int} {lay : Nat → Nat × Int} {ρ : Nat → Int → Nat} {σ : Nat → Int → Int} {τ : Nat → Int → Int64} (hL : 0 ≤ L ∧ L ≤ 3072) (hb : lay b = (6, L)) (hbs : b < sz) (hW : Wd lay ρ σ) (hr : ρ 0 0 < sz) : wps X_law P_law (lmL sz sl) (QLaw sz sl) (JLaw sz sl b L) 120 0 (aargs 0 [vR b]) [] (sz, sl, lay, ρ, σ, τ) := by
  unfold wps lmL QLaw
  simp only [T_PR_init_e, TF_PR_init, T_Model_init_e, TF_Model_init, nfA_0, nfA_1, nfA_2, nfA_3, nfA_4, nfA_5, nfA_6, nfA_7, nfA_8, nfA_9, nfA_10, nfA_11, si_iload_n0, si_iload_n1, si_iload_n2, si_iload_n3, si_iload, si_lload_n0, si_lload_n1, si_lload_n2, si_lload_n3, si_lload, si_aload_n0, si_aload_n1, si_aload_n2, si_aload_n3, si_aload, si_istore_n0, si_istore_n1, si_istore_n2, si_istore_n3, si_istore, si_astore_n0, si_astore_n1, si_astore_n2, si_astore_n3, si_astore, si_lstore_n0, si_lstore_n1, si_lstore_n2, si_lstore_n3, si_lstore, si_iconst, si_bipush, si_sipush, si_ldc, si_ldc2_w, si_lconst0, si_lconst1, si_aconst_null, si_iinc, si_dup, si_dup2, si_iadd, si_isub, si_imul, si_idiv, si_irem, si_iand, si_ior, si_ishl, si_ishr, si_ladd, si_lmul, si_lor, si_lxor, si_lshl, si_lushr, si_lcmp, si_i2b, si_i2l, si_l2i, si_icmp_eq, si_icmp_ne, si_icmp_lt, si_icmp_ge, si_icmp_gt, si_icmp_le, si_if_eq, si_if_ne, si_if_lt, si_if_ge, si_if_gt, si_if_le, si_ifnull, si_ifnonnull, si_goto, si_tableswitch, si_lookupswitch, si_getfield, si_putfield, si_getstatic, si_iaload, si_baload, si_laload, si_aaload, si_iastore, si_bastore, si_lastore, si_aastore, si_arraylength, si_new, si_newarray, si_anewarray, si_invokevirtual, si_invokespecial, si_invokestatic, si_ireturn, si_lreturn, si_areturn, si_return_, pI_e, pL_e, pR_e, pA_r, pA_n, pN_n, pN_r, oI_e, oL_e, oA_r, oA_n, lget_e, lrm1_0, lrm2_0, lrm1_i, lrm1_r, lrm1_n, lrm1_l, lrm2_i, lrm2_r, lrm2_n, lrm2_l, popN_0, popN_s, acat_i, acat_l, acat_r, acat_n, stw_0, stw_s, psh_s, psh_n, wgf_r, wgf_i, wgf_b, wgf_n, wgf_m, wpf_i, wpf_r, wpf_b, wnew_e, callE_e, rbk_0, rbk_1, tsw_0, tsw_s, lsw_0, lsw_s, wp_s, wq_t, wq_f, oV_e, pick_0, pick_s, oZ_e, oY_e, r_law_0, r_law_3, r_law_4, r_law_7, r_law_8, r_law_11, r_law_12, r_law_15, r_law_16, r_law_17, r_law_18, xn_law_7, xn_law_10, xd_law, xrb_law, xin_law, xe_law_37, xe_law_49, Nat.le_add_right, Nat.add_assoc, Nat.reduceAdd, Nat.reduceMul, Nat.reduceEqDiff, reduceIte, Int.reduceNeg, Int.reduceLE, Int.reduceLT, Int.reduceAdd, Int.reduceSub, Int.reduceToNat, true_and, and_true, inR_e, Nat.reduceLT, Nat.reduceLeDiff, reduceCtorEq, Nat.add_zero, Nat.zero_add, or_false, false_or, or_true, true_or, not_true_eq_false, not_false_eq_true, Classical.not_not, Nat.add_eq_zero_iff, and_false, false_and, Int.reduceEq, List.mem_cons, List.not_mem_nil, forall_eq_or_imp, forall_eq, false_implies, implies_true, forall_const, aargs_0, aargs_i, aargs_r, aargs_l, aargs_n, nfT_e, eq_self, and_self, Nat.le_refl, fu_s, fu_fu, iu_iu, iu_s, fu_am, fu_a0, fu_0a, iu_l, Nat.reduceBEq, Int.reduceBEq, T_objInit_e]
  refine ⟨by omega, fun lay2 ρ2 σ2 τ2 n2 l2 z2 lay3 ρ3 σ3 τ3 n3 l3 z3 z4 => ?_⟩
  have b2 : ∀ a, a < sz → lay2 a = lay a ∧ ρ2 a = ρ a ∧ σ2 a = σ a ∧ τ2 a = τ a := fun a ha => by
    have h := n2 a ha
    simp only [fu_n (show ¬ a = sz by omega)] at h
    exact h
  have b3 : ∀ a, a < sz + 138 → lay3 a = lay2 a ∧ ρ3 a = ρ2 a ∧ σ3 a = σ2 a ∧ τ3 a = τ2 a := fun a ha => by
    have h := n3 a ha
    simp only [fu_n (show ¬ a = sz + 138 by omega)] at h
    exact h
  have r0 : ρ3 0 0 = ρ 0 0 := by rw [(b3 0 (by omega)).2.1, (b2 0 (by omega)).2.1]
  refine JLaw_18 (by omega) (LI.start (l2.cg (fun a ha => ⟨(b3 a (by omega)).1, (b3 a (by omega)).2.1⟩)) l3 rfl ?_ (by rw [r0]; exact hr) (fun a ha i => by rw [(b3 a (by omega)).2.2.1]; exact z2 a ha i) (fun a ha hn i => z3 a (by omega) (by omega) i) z4) ?_ hbs
  · unfold Wd
    rw [r0, (b3 (ρ 0 0) (by omega)).1, (b2 (ρ 0 0) hr).1, (b3 (ρ 0 0) (by omega)).2.2.1, (b2 (ρ 0 0) hr).2.2.1]
    exact hW
  · rw [(b3 b (by omega)).1, (b2 b hbs).1]
    exact hb
set_option maxRecDepth 100000 in
theorem law_go {sz sl b : Nat} {L : Int} (hL : 0 ≤ L ∧ L ≤ 3072) (c : Nat) (vs : List AV) (M1 : Mm) (hM : okM M1) (hJ : JLaw sz sl b L c vs M1) : wps X_law P_law (lmL sz sl) (QLaw sz sl) (fun c2 vs2 M2 => JLaw sz sl b L c2 vs2 M2 ∧ muLaw c2 vs2 M2 < muLaw c vs M1) 120 c (((P_law c).1.getD []).zip vs) [] M1 := by
  obtain ⟨hc, i, X, Mo, lay1, ρ1, σ1, τ1, hi, h, hb, hX, rfl, rfl⟩ := hJ
  rcases hc with rfl | ⟨hc, i2, e, h6⟩
  · rw [r_law_18]
    exact law_18 hL hi h hb hX hM
  · have ei : i = i2 := congrArg gI (show vI i = vI i2 from e)
    rw [← ei] at h6
    simp only [List.mem_cons, List.not_mem_nil, or_false] at hc
    rcases hc with rfl | rfl | rfl | rfl | rfl | rfl | rfl | rfl | rfl | rfl | rfl | rfl | rfl | rfl | rfl | rfl | rfl | rfl | rfl | rfl | rfl | rfl
    · rw [r_law_136]
      exact law_136 hL hi h hb hX hM h6
    · rw [r_law_199]
      exact law_199 hL hi h hb hX hM h6
    · rw [r_law_222]
      exact law_222 hL hi h hb hX hM h6
    · rw [r_law_245]
      exact law_245 hL hi h hb hX hM h6
    · rw [r_law_278]
      exact law_278 hL hi h hb hX hM h6
    · rw [r_law_321]
      exact law_321 hL hi h hb hX hM h6
    · rw [r_law_354]
      exact law_354 hL hi h hb hX hM h6
    · rw [r_law_397]
      exact law_397 hL hi h hb hX hM h6
    · rw [r_law_441]
      exact law_441 hL hi h hb hX hM h6
    · rw [r_law_484]
      exact law_484 hL hi h hb hX hM h6
    · rw [r_law_527]
      exact law_527 hL hi h hb hX hM h6
    · rw [r_law_560]
      exact law_560 hL hi h hb hX hM h6
    · rw [r_law_593]
      exact law_593 hL hi h hb hX hM h6
    · rw [r_law_626]
      exact law_626 hL hi h hb hX hM h6
    · rw [r_law_659]
      exact law_659 hL hi h hb hX hM h6
    · rw [r_law_702]
      exact law_702 hL hi h hb hX hM h6
    · rw [r_law_725]
      exact law_725 hL hi h hb hX hM h6
    · rw [r_law_748]
      exact law_748 hL hi h hb hX hM h6
    · rw [r_law_791]
      exact law_791 hL hi h hb hX hM h6
    · rw [r_law_824]
      exact law_824 hL hi h hb hX hM h6
    · rw [r_law_867]
      exact law_867 hL hi h hb hX hM h6
    · rw [r_law_920]
      exact law_920 hL hi h hb hX hM h6

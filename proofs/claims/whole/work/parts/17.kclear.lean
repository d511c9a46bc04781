def TF_Kinds_clear (o : Nat) (sz sl : Nat) (lay : Nat → Nat × Int) (ρ : Nat → Int → Nat) (σ : Nat → Int → Int) (τ : Nat → Int → Int64) (k : Option AV → Mm → Prop) : Prop := LKinds lay ρ o ∧ (∀ f : Int → Int, (∀ i, 0 ≤ i ∧ i < 40 → f i = 0) → (∀ i, f i = 0 ∨ f i = σ (o + 1) i) → k none (sz, sl, lay, ρ, fu (fu σ (o + 1) f) o (iu (σ o) 6 0), τ))
def T_Kinds_clear : Tr := mkT 1 fun o as M k => as = [] ∧ TF_Kinds_clear o M.1 M.2.1 M.2.2.1 M.2.2.2.1 M.2.2.2.2.1 M.2.2.2.2.2 k
theorem T_Kinds_clear_e {o : Nat} {sz sl : Nat} {lay : Nat → Nat × Int} {ρ : Nat → Int → Nat} {σ : Nat → Int → Int} {τ : Nat → Int → Int64} {k : Option AV → Mm → Prop} : T_Kinds_clear [vR o] (sz, sl, lay, ρ, σ, τ) k = (lay o = (11, 0) ∧ TF_Kinds_clear o sz sl lay ρ σ τ k) := by simp [T_Kinds_clear, mkT_e, pI_e, pR_e, pL_e]
theorem T_Kinds_clear_r (as : List AV) (M : Mm) (k : Option AV → Mm → Prop) (h : T_Kinds_clear as M k) : ∃ b As, as = vR b :: As ∧ M.2.2.1 b = (10 + 1, 0) := by
  obtain ⟨b, As, h1, h2, -⟩ := mkT_r h
  exact ⟨b, As, h1, h2⟩
def tb_Kinds_clear : List (Nat × Option (List Nat) × Instr × List Nat) := [(0, none, .iconst 0, []), (1, none, .istore_n 1, []), (2, some [0, 1], .iload_n 1, []), (3, none, .bipush 40, []), (5, none, .if_icmp .ge 16, [21]), (8, none, .aload_n 0, []), (9, none, .getfield 9, []), (12, none, .iload_n 1, []), (13, none, .iconst 0, []), (14, none, .bastore, []), (15, none, .iinc 1 1, []), (18, none, .goto (-16), [2]), (21, none, .aload_n 0, []), (22, none, .iconst 0, []), (23, none, .putfield 31, []), (26, none, .return_, [])]
def P_Kinds_clear : Nat → Option (List Nat) × Instr × List Nat := plk tb_Kinds_clear
theorem r_Kinds_clear_0 : P_Kinds_clear 0 = (none, .iconst 0, []) := by decide +kernel
theorem r_Kinds_clear_1 : P_Kinds_clear 1 = (none, .istore_n 1, []) := by decide +kernel
theorem r_Kinds_clear_2 : P_Kinds_clear 2 = (some [0, 1], .iload_n 1, []) := by decide +kernel
theorem r_Kinds_clear_3 : P_Kinds_clear 3 = (none, .bipush 40, []) := by decide +kernel
theorem r_Kinds_clear_5 : P_Kinds_clear 5 = (none, .if_icmp .ge 16, [21]) := by decide +kernel
theorem r_Kinds_clear_8 : P_Kinds_clear 8 = (none, .aload_n 0, []) := by decide +kernel
theorem r_Kinds_clear_9 : P_Kinds_clear 9 = (none, .getfield 9, []) := by decide +kernel
theorem r_Kinds_clear_12 : P_Kinds_clear 12 = (none, .iload_n 1, []) := by decide +kernel
theorem r_Kinds_clear_13 : P_Kinds_clear 13 = (none, .iconst 0, []) := by decide +kernel
theorem r_Kinds_clear_14 : P_Kinds_clear 14 = (none, .bastore, []) := by decide +kernel
theorem r_Kinds_clear_15 : P_Kinds_clear 15 = (none, .iinc 1 1, []) := by decide +kernel
theorem r_Kinds_clear_18 : P_Kinds_clear 18 = (none, .goto (-16), [2]) := by decide +kernel
theorem r_Kinds_clear_21 : P_Kinds_clear 21 = (none, .aload_n 0, []) := by decide +kernel
theorem r_Kinds_clear_22 : P_Kinds_clear 22 = (none, .iconst 0, []) := by decide +kernel
theorem r_Kinds_clear_23 : P_Kinds_clear 23 = (none, .putfield 31, []) := by decide +kernel
theorem r_Kinds_clear_26 : P_Kinds_clear 26 = (none, .return_, []) := by decide +kernel
def E_Kinds_clear : List (Nat × Ent) := []
def X_Kinds_clear : Cx := (llk (0, 0, 9) ftX1, llk 99 ntX1, llk none kcX1, llk none klX1, llk dEnt E_Kinds_clear, 0, 3, false)
theorem xok_Kinds_clear : Xok RX1 X_Kinds_clear := xok_of ftX1_ok ntX1_ok kcX1_ok klX1_ok (E := E_Kinds_clear) (fun _ h => absurd h List.not_mem_nil)
theorem xf_Kinds_clear_9 : xfl X_Kinds_clear 9 = (1, 0, 1) := by decide +kernel
theorem xf_Kinds_clear_31 : xfl X_Kinds_clear 31 = (1, 6, 0) := by decide +kernel
theorem xd_Kinds_clear : xd X_Kinds_clear = 0 := rfl
theorem xrb_Kinds_clear : xrb X_Kinds_clear = 3 := rfl
theorem xin_Kinds_clear : xin X_Kinds_clear = false := rfl
set_option maxHeartbeats 4000000 in
set_option maxRecDepth 100000 in
theorem S_Kinds_clear : Snd yX1_clear cX1_clear 2 none T_Kinds_clear 0 0 0 := by
  refine snd_of (X := X_Kinds_clear) (P := P_Kinds_clear) (tb := tb_Kinds_clear) (own := RX1) (by decide) rfl rfl (by decide +kernel) xok_Kinds_clear rfl rk3 (fun h => by first | rfl | cases h) ?_
  intro as M k has hM hT0
  obtain ⟨sz, sl, lay, ρ, σ, τ⟩ := M
  obtain ⟨o, as1, e, hlo, hT1⟩ := mkT_r hT0
  clear hT0
  subst e
  obtain ⟨e, hT⟩ := hT1
  subst e
  replace hlo : lay o = (11, 0) := hlo
  clear has
  replace hM : ∀ a i, -2147483648 ≤ σ a i ∧ σ a i ≤ 2147483647 := hM
  replace hT : TF_Kinds_clear o sz sl lay ρ σ τ k := hT
  unfold TF_Kinds_clear at hT
  obtain ⟨hL, hT⟩ := hT
  obtain ⟨lh, lp0, lp1, lp2, lp3, lp4, lp5, lq0, lq1, lq2, lq3, lq4, lq5⟩ := (show LKinds lay ρ _ from hL)
  obtain ⟨J, hJd⟩ : ∃ J : Nat → List AV → Mm → Prop, J = (fun c vs M1 => c = 2 ∧ ∃ (n : Int) (f : Int → Int), 0 ≤ n ∧ n ≤ 40 ∧ (∀ i, 0 ≤ i ∧ i < n → f i = 0) ∧ (∀ i, f i = 0 ∨ f i = σ (o + 1) i) ∧ vs = [vR o, vI n] ∧ M1 = (sz, sl, lay, ρ, fu σ (o + 1) f, τ)) := ⟨_, rfl⟩
  obtain ⟨μ, hμ⟩ : ∃ μ : Nat → List AV → Mm → Nat, μ = (fun _ vs _ => (40 - gI (vs.getD 1 vN)).toNat) := ⟨_, rfl⟩
  refine ⟨Nat.le_of_ble_eq_true rfl, J, μ, 24, ?_, ?_⟩
  · unfold wps
    simp only [si_iload_n0, si_iload_n1, si_iload_n2, si_iload_n3, si_iload, si_lload_n0, si_lload_n1, si_lload_n2, si_lload_n3, si_lload, si_aload_n0, si_aload_n1, si_aload_n2, si_aload_n3, si_aload, si_istore_n0, si_istore_n1, si_istore_n2, si_istore_n3, si_istore, si_astore_n0, si_astore_n1, si_astore_n2, si_astore_n3, si_astore, si_lstore_n0, si_lstore_n1, si_lstore_n2, si_lstore_n3, si_lstore, si_iconst, si_bipush, si_sipush, si_ldc, si_ldc2_w, si_lconst0, si_lconst1, si_aconst_null, si_iinc, si_dup, si_dup2, si_iadd, si_isub, si_imul, si_idiv, si_irem, si_iand, si_ior, si_ishl, si_ishr, si_ladd, si_lmul, si_lor, si_lxor, si_lshl, si_lushr, si_lcmp, si_i2b, si_i2l, si_l2i, si_icmp_eq, si_icmp_ne, si_icmp_lt, si_icmp_ge, si_icmp_gt, si_icmp_le, si_if_eq, si_if_ne, si_if_lt, si_if_ge, si_if_gt, si_if_le, si_ifnull, si_ifnonnull, si_goto, si_tableswitch, si_lookupswitch, si_getfield, si_putfield, si_getstatic, si_iaload, si_baload, si_laload, si_aaload, si_iastore, si_bastore, si_lastore, si_aastore, si_arraylength, si_new, si_newarray, si_anewarray, si_invokevirtual, si_invokespecial, si_invokestatic, si_ireturn, si_lreturn, si_areturn, si_return_, pI_e, pL_e, pR_e, pA_r, pA_n, pN_n, pN_r, oI_e, oL_e, oA_r, oA_n, lget_e, lrm1_0, lrm2_0, lrm1_i, lrm1_r, lrm1_n, lrm1_l, lrm2_i, lrm2_r, lrm2_n, lrm2_l, popN_0, popN_s, acat_i, acat_l, acat_r, acat_n, stw_0, stw_s, psh_s, psh_n, wgf_r, wgf_i, wgf_b, wgf_n, wgf_m, wpf_i, wpf_r, wpf_b, wnew_e, callE_e, rbk_0, rbk_1, tsw_0, tsw_s, lsw_0, lsw_s, wp_s, wq_t, wq_f, oV_e, pick_0, pick_s, oZ_e, oY_e, r_Kinds_clear_0, r_Kinds_clear_1, r_Kinds_clear_2, r_Kinds_clear_3, r_Kinds_clear_5, r_Kinds_clear_8, r_Kinds_clear_9, r_Kinds_clear_12, r_Kinds_clear_13, r_Kinds_clear_14, r_Kinds_clear_15, r_Kinds_clear_18, r_Kinds_clear_21, r_Kinds_clear_22, r_Kinds_clear_23, r_Kinds_clear_26, xf_Kinds_clear_9, xf_Kinds_clear_31, xd_Kinds_clear, xrb_Kinds_clear, xin_Kinds_clear, lh, lp0, lp1, lp2, lp3, lp4, lp5, lq0, lq1, lq2, lq3, lq4, lq5, Nat.reduceAdd, Nat.reduceMul, Nat.reduceEqDiff, reduceIte, Int.reduceNeg, Int.reduceLE, Int.reduceLT, Int.reduceAdd, Int.reduceSub, Int.reduceToNat, true_and, and_true, inR_e, Nat.reduceLT, Nat.reduceLeDiff, reduceCtorEq, Nat.add_zero, Nat.zero_add, or_false, false_or, or_true, true_or, not_true_eq_false, not_false_eq_true, Classical.not_not, Nat.add_eq_zero_iff, and_false, false_and, Int.reduceEq, List.mem_cons, List.not_mem_nil, forall_eq_or_imp, forall_eq, false_implies, implies_true, forall_const, aargs_0, aargs_i, aargs_r, aargs_l, aargs_n, nfT_e, eq_self, and_self, Nat.le_refl, fu_s, fu_fu, iu_iu, iu_s, fu_am, fu_a0, fu_0a, iu_l, Nat.reduceBEq, Int.reduceBEq, T_objInit_e]
    rw [hJd]
    exact ⟨rfl, 0, σ (o + 1), by omega, by omega, (fun i h => by omega), (fun i => Or.inr rfl), rfl, by rw [fu_self]⟩
  · intro cp vs M1 hvs hM1 hlen hJ
    rw [hJd] at hJ
    obtain ⟨rfl, n, f, h1, h2, h3, h4, rfl, rfl⟩ := hJ
    unfold wps
    simp only [Option.getD_some, List.zip_cons_cons, List.zip_nil_left, List.zip_nil_right, List.zip_nil_right, si_iload_n0, si_iload_n1, si_iload_n2, si_iload_n3, si_iload, si_lload_n0, si_lload_n1, si_lload_n2, si_lload_n3, si_lload, si_aload_n0, si_aload_n1, si_aload_n2, si_aload_n3, si_aload, si_istore_n0, si_istore_n1, si_istore_n2, si_istore_n3, si_istore, si_astore_n0, si_astore_n1, si_astore_n2, si_astore_n3, si_astore, si_lstore_n0, si_lstore_n1, si_lstore_n2, si_lstore_n3, si_lstore, si_iconst, si_bipush, si_sipush, si_ldc, si_ldc2_w, si_lconst0, si_lconst1, si_aconst_null, si_iinc, si_dup, si_dup2, si_iadd, si_isub, si_imul, si_idiv, si_irem, si_iand, si_ior, si_ishl, si_ishr, si_ladd, si_lmul, si_lor, si_lxor, si_lshl, si_lushr, si_lcmp, si_i2b, si_i2l, si_l2i, si_icmp_eq, si_icmp_ne, si_icmp_lt, si_icmp_ge, si_icmp_gt, si_icmp_le, si_if_eq, si_if_ne, si_if_lt, si_if_ge, si_if_gt, si_if_le, si_ifnull, si_ifnonnull, si_goto, si_tableswitch, si_lookupswitch, si_getfield, si_putfield, si_getstatic, si_iaload, si_baload, si_laload, si_aaload, si_iastore, si_bastore, si_lastore, si_aastore, si_arraylength, si_new, si_newarray, si_anewarray, si_invokevirtual, si_invokespecial, si_invokestatic, si_ireturn, si_lreturn, si_areturn, si_return_, pI_e, pL_e, pR_e, pA_r, pA_n, pN_n, pN_r, oI_e, oL_e, oA_r, oA_n, lget_e, lrm1_0, lrm2_0, lrm1_i, lrm1_r, lrm1_n, lrm1_l, lrm2_i, lrm2_r, lrm2_n, lrm2_l, popN_0, popN_s, acat_i, acat_l, acat_r, acat_n, stw_0, stw_s, psh_s, psh_n, wgf_r, wgf_i, wgf_b, wgf_n, wgf_m, wpf_i, wpf_r, wpf_b, wnew_e, callE_e, rbk_0, rbk_1, tsw_0, tsw_s, lsw_0, lsw_s, wp_s, wq_t, wq_f, oV_e, pick_0, pick_s, oZ_e, oY_e, r_Kinds_clear_0, r_Kinds_clear_1, r_Kinds_clear_2, r_Kinds_clear_3, r_Kinds_clear_5, r_Kinds_clear_8, r_Kinds_clear_9, r_Kinds_clear_12, r_Kinds_clear_13, r_Kinds_clear_14, r_Kinds_clear_15, r_Kinds_clear_18, r_Kinds_clear_21, r_Kinds_clear_22, r_Kinds_clear_23, r_Kinds_clear_26, xf_Kinds_clear_9, xf_Kinds_clear_31, xd_Kinds_clear, xrb_Kinds_clear, xin_Kinds_clear, lh, lp0, lp1, lp2, lp3, lp4, lp5, lq0, lq1, lq2, lq3, lq4, lq5, Nat.reduceAdd, Nat.reduceMul, Nat.reduceEqDiff, reduceIte, Int.reduceNeg, Int.reduceLE, Int.reduceLT, Int.reduceAdd, Int.reduceSub, Int.reduceToNat, true_and, and_true, inR_e, Nat.reduceLT, Nat.reduceLeDiff, reduceCtorEq, Nat.add_zero, Nat.zero_add, or_false, false_or, or_true, true_or, not_true_eq_false, not_false_eq_true, Classical.not_not, Nat.add_eq_zero_iff, and_false, false_and, Int.reduceEq, List.mem_cons, List.not_mem_nil, forall_eq_or_imp, forall_eq, false_implies, implies_true, forall_const, aargs_0, aargs_i, aargs_r, aargs_l, aargs_n, nfT_e, eq_self, and_self, Nat.le_refl, fu_s, fu_fu, iu_iu, iu_s, fu_am, fu_a0, fu_0a, iu_l, Nat.reduceBEq, Int.reduceBEq, T_objInit_e]
    refine ⟨fun h => ?_, fun h => ?_⟩
    · exact hT f (fun i hi => h3 i (by omega)) h4
    · refine ⟨by omega, by omega, by omega, ?_, (by rw [hμ]; simp only [gI_e, List.getD_cons_succ, List.getD_cons_zero]; omega)⟩
      rw [hJd]
      refine ⟨rfl, n + 1, iu f n 0, by omega, by omega, (fun i hi => ?_), (fun i => ?_), rfl, rfl⟩
      · by_cases e : i = n
        · rw [e, iu_s]
        · rw [iu_n e]; exact h3 i (by omega)
      · by_cases e : i = n
        · rw [e, iu_s]; exact Or.inl rfl
        · rw [iu_n e]; exact h4 i

theorem co_X2_334 : CallOK RX2 (.invokestatic 83) (1, 0, 0, 0, T_PR_isId) := call_S S_PR_isId (by decide) (by decide +kernel) (Or.inr (by decide +kernel)) (by decide +kernel) (by decide +kernel) (by decide +kernel)
def TF_Life_keeperIdOf (o : Nat) (i : Int) (sz sl : Nat) (lay : Nat → Nat × Int) (ρ : Nat → Int → Nat) (σ : Nat → Int → Int) (τ : Nat → Int → Int64) (k : Option AV → Mm → Prop) : Prop := LLife lay ρ o ∧ (0 ≤ i ∧ i < 600 → k (some (vI (σ (o + 1) i))) (sz, sl, lay, ρ, σ, τ)) ∧ (¬ (0 ≤ i ∧ i < 600) → k (some (vI (-1))) (sz, sl, lay, ρ, σ, τ))
def T_Life_keeperIdOf : Tr := mkT 2 fun o as M k => pI as fun i as => as = [] ∧ TF_Life_keeperIdOf o i M.1 M.2.1 M.2.2.1 M.2.2.2.1 M.2.2.2.2.1 M.2.2.2.2.2 k
theorem T_Life_keeperIdOf_e {o : Nat} {i : Int} {sz sl : Nat} {lay : Nat → Nat × Int} {ρ : Nat → Int → Nat} {σ : Nat → Int → Int} {τ : Nat → Int → Int64} {k : Option AV → Mm → Prop} : T_Life_keeperIdOf [vR o, vI i] (sz, sl, lay, ρ, σ, τ) k = (lay o = (12, 0) ∧ TF_Life_keeperIdOf o i sz sl lay ρ σ τ k) := by simp [T_Life_keeperIdOf, mkT_e, pI_e, pR_e, pL_e]
theorem T_Life_keeperIdOf_r (as : List AV) (M : Mm) (k : Option AV → Mm → Prop) (h : T_Life_keeperIdOf as M k) : ∃ b As, as = vR b :: As ∧ M.2.2.1 b = (10 + 2, 0) := by
  obtain ⟨b, As, h1, h2, -⟩ := mkT_r h
  exact ⟨b, As, h1, h2⟩
def tb_Life_keeperIdOf : List (Nat × Option (List Nat) × Instr × List Nat) := [(0, none, .iload_n 1, []), (1, none, .invokestatic 83, []), (4, none, .ifCond .eq 12, [16]), (7, none, .aload_n 0, []), (8, none, .getfield 9, []), (11, none, .iload_n 1, []), (12, none, .iaload, []), (13, none, .goto 4, [17]), (16, none, .iconst (-1), []), (17, none, .ireturn, [])]
def P_Life_keeperIdOf : Nat → Option (List Nat) × Instr × List Nat := plk tb_Life_keeperIdOf
theorem r_Life_keeperIdOf_0 : P_Life_keeperIdOf 0 = (none, .iload_n 1, []) := by decide +kernel
theorem r_Life_keeperIdOf_1 : P_Life_keeperIdOf 1 = (none, .invokestatic 83, []) := by decide +kernel
theorem r_Life_keeperIdOf_4 : P_Life_keeperIdOf 4 = (none, .ifCond .eq 12, [16]) := by decide +kernel
theorem r_Life_keeperIdOf_7 : P_Life_keeperIdOf 7 = (none, .aload_n 0, []) := by decide +kernel
theorem r_Life_keeperIdOf_8 : P_Life_keeperIdOf 8 = (none, .getfield 9, []) := by decide +kernel
theorem r_Life_keeperIdOf_11 : P_Life_keeperIdOf 11 = (none, .iload_n 1, []) := by decide +kernel
theorem r_Life_keeperIdOf_12 : P_Life_keeperIdOf 12 = (none, .iaload, []) := by decide +kernel
theorem r_Life_keeperIdOf_13 : P_Life_keeperIdOf 13 = (none, .goto 4, [17]) := by decide +kernel
theorem r_Life_keeperIdOf_16 : P_Life_keeperIdOf 16 = (none, .iconst (-1), []) := by decide +kernel
theorem r_Life_keeperIdOf_17 : P_Life_keeperIdOf 17 = (none, .ireturn, []) := by decide +kernel
def E_Life_keeperIdOf : List (Nat × Ent) := [(334, (1, 0, 0, 0, T_PR_isId))]
def X_Life_keeperIdOf : Cx := (llk (0, 0, 9) ftX2, llk 99 ntX2, llk none kcX2, llk none klX2, llk dEnt E_Life_keeperIdOf, 1, 0, false)
theorem xok_Life_keeperIdOf : Xok RX2 X_Life_keeperIdOf := xok_of ftX2_ok ntX2_ok kcX2_ok klX2_ok (E := E_Life_keeperIdOf) (List.forall_mem_cons.mpr ⟨co_X2_334, fun _ h => absurd h List.not_mem_nil⟩)
theorem xf_Life_keeperIdOf_9 : xfl X_Life_keeperIdOf 9 = (2, 0, 1) := by decide +kernel
theorem xe_Life_keeperIdOf_334 : xE X_Life_keeperIdOf (4 * 83 + 2) = (1, 0, 0, 0, T_PR_isId) := rfl
theorem xd_Life_keeperIdOf : xd X_Life_keeperIdOf = 1 := rfl
theorem xrb_Life_keeperIdOf : xrb X_Life_keeperIdOf = 0 := rfl
theorem xin_Life_keeperIdOf : xin X_Life_keeperIdOf = false := rfl
set_option maxHeartbeats 4000000 in
set_option maxRecDepth 100000 in
theorem S_Life_keeperIdOf : Snd yX2_keeperIdOf cX2_keeperIdOf 2 (some .int) T_Life_keeperIdOf 1 0 0 := by
  refine snd_of (X := X_Life_keeperIdOf) (P := P_Life_keeperIdOf) (tb := tb_Life_keeperIdOf) (own := RX2) (by decide) rfl rfl (by decide +kernel) xok_Life_keeperIdOf rfl rk0 (fun h => by first | rfl | cases h) ?_
  intro as M k has hM hT0
  obtain ⟨sz, sl, lay, ρ, σ, τ⟩ := M
  obtain ⟨o, as1, e, hlo, hT1⟩ := mkT_r hT0
  clear hT0
  subst e
  obtain ⟨i, as2, e, hT2⟩ := pI_x hT1
  clear hT1
  subst e
  obtain ⟨e, hT⟩ := hT2
  subst e
  replace hlo : lay o = (12, 0) := hlo
  have r_i : -2147483648 ≤ i ∧ i ≤ 2147483647 := has (vI i) (by simp)
  clear has
  replace hM : ∀ a i, -2147483648 ≤ σ a i ∧ σ a i ≤ 2147483647 := hM
  replace hT : TF_Life_keeperIdOf o i sz sl lay ρ σ τ k := hT
  unfold TF_Life_keeperIdOf at hT
  obtain ⟨hF, h1, h0⟩ := hT
  obtain ⟨fh, fp0, fp1, fp2, fp3, fq0, fq1, fq2, fq3⟩ := (show LLife lay ρ _ from hF)
  refine ⟨Nat.le_of_ble_eq_true rfl, fun _ _ _ => False, fun _ _ _ => 0, 18, ?_, fun _ _ _ _ _ _ h => h.elim⟩
  unfold wps
  simp only [si_iload_n0, si_iload_n1, si_iload_n2, si_iload_n3, si_iload, si_lload_n0, si_lload_n1, si_lload_n2, si_lload_n3, si_lload, si_aload_n0, si_aload_n1, si_aload_n2, si_aload_n3, si_aload, si_istore_n0, si_istore_n1, si_istore_n2, si_istore_n3, si_istore, si_astore_n0, si_astore_n1, si_astore_n2, si_astore_n3, si_astore, si_lstore_n0, si_lstore_n1, si_lstore_n2, si_lstore_n3, si_lstore, si_iconst, si_bipush, si_sipush, si_ldc, si_ldc2_w, si_lconst0, si_lconst1, si_aconst_null, si_iinc, si_dup, si_dup2, si_iadd, si_isub, si_imul, si_idiv, si_irem, si_iand, si_ior, si_ishl, si_ishr, si_ladd, si_lmul, si_lor, si_lxor, si_lshl, si_lushr, si_lcmp, si_i2b, si_i2l, si_l2i, si_icmp_eq, si_icmp_ne, si_icmp_lt, si_icmp_ge, si_icmp_gt, si_icmp_le, si_if_eq, si_if_ne, si_if_lt, si_if_ge, si_if_gt, si_if_le, si_ifnull, si_ifnonnull, si_goto, si_tableswitch, si_lookupswitch, si_getfield, si_putfield, si_getstatic, si_iaload, si_baload, si_laload, si_aaload, si_iastore, si_bastore, si_lastore, si_aastore, si_arraylength, si_new, si_newarray, si_anewarray, si_invokevirtual, si_invokespecial, si_invokestatic, si_ireturn, si_lreturn, si_areturn, si_return_, pI_e, pL_e, pR_e, pA_r, pA_n, pN_n, pN_r, oI_e, oL_e, oA_r, oA_n, lget_e, lrm1_0, lrm2_0, lrm1_i, lrm1_r, lrm1_n, lrm1_l, lrm2_i, lrm2_r, lrm2_n, lrm2_l, popN_0, popN_s, acat_i, acat_l, acat_r, acat_n, stw_0, stw_s, psh_s, psh_n, wgf_r, wgf_i, wgf_b, wgf_n, wgf_m, wpf_i, wpf_r, wpf_b, wnew_e, callE_e, rbk_0, rbk_1, tsw_0, tsw_s, lsw_0, lsw_s, wp_s, wq_t, wq_f, oV_e, pick_0, pick_s, oZ_e, oY_e, r_Life_keeperIdOf_0, r_Life_keeperIdOf_1, r_Life_keeperIdOf_4, r_Life_keeperIdOf_7, r_Life_keeperIdOf_8, r_Life_keeperIdOf_11, r_Life_keeperIdOf_12, r_Life_keeperIdOf_13, r_Life_keeperIdOf_16, r_Life_keeperIdOf_17, xf_Life_keeperIdOf_9, xe_Life_keeperIdOf_334, xd_Life_keeperIdOf, xrb_Life_keeperIdOf, xin_Life_keeperIdOf, T_PR_isId_e, TF_PR_isId, fh, fp0, fp1, fp2, fp3, fq0, fq1, fq2, fq3, Nat.reduceAdd, Nat.reduceMul, Nat.reduceEqDiff, reduceIte, Int.reduceNeg, Int.reduceLE, Int.reduceLT, Int.reduceAdd, Int.reduceSub, Int.reduceToNat, true_and, and_true, inR_e, Nat.reduceLT, Nat.reduceLeDiff, reduceCtorEq, Nat.add_zero, Nat.zero_add, or_false, false_or, or_true, true_or, not_true_eq_false, not_false_eq_true, Classical.not_not, Nat.add_eq_zero_iff, and_false, false_and, Int.reduceEq, List.mem_cons, List.not_mem_nil, forall_eq_or_imp, forall_eq, false_implies, implies_true, forall_const, aargs_0, aargs_i, aargs_r, aargs_l, aargs_n, nfT_e, eq_self, and_self, Nat.le_refl, fu_s, fu_fu, iu_iu, iu_s, fu_am, fu_a0, fu_0a, iu_l, Nat.reduceBEq, Int.reduceBEq, T_objInit_e]
  repeat' (first | assumption | intro _ | apply And.intro)
  all_goals first | omega | assumption | (exact h1 (by omega)) | (exact h0 (by omega)) | (exact h1 ⟨by omega, by omega⟩) | (exact h0 ⟨by omega, by omega⟩) | (exact h1 ⟨by omega, by omega, by omega⟩) | (exact h0 ⟨by omega, by omega, by omega⟩)
def TF_Life_size (o : Nat) (sz sl : Nat) (lay : Nat → Nat × Int) (ρ : Nat → Int → Nat) (σ : Nat → Int → Int) (τ : Nat → Int → Int64) (k : Option AV → Mm → Prop) : Prop := k (some (vI (σ o 4))) (sz, sl, lay, ρ, σ, τ)
def T_Life_size : Tr := mkT 2 fun o as M k => as = [] ∧ TF_Life_size o M.1 M.2.1 M.2.2.1 M.2.2.2.1 M.2.2.2.2.1 M.2.2.2.2.2 k
theorem T_Life_size_e {o : Nat} {sz sl : Nat} {lay : Nat → Nat × Int} {ρ : Nat → Int → Nat} {σ : Nat → Int → Int} {τ : Nat → Int → Int64} {k : Option AV → Mm → Prop} : T_Life_size [vR o] (sz, sl, lay, ρ, σ, τ) k = (lay o = (12, 0) ∧ TF_Life_size o sz sl lay ρ σ τ k) := by simp [T_Life_size, mkT_e, pI_e, pR_e, pL_e]
theorem T_Life_size_r (as : List AV) (M : Mm) (k : Option AV → Mm → Prop) (h : T_Life_size as M k) : ∃ b As, as = vR b :: As ∧ M.2.2.1 b = (10 + 2, 0) := by
  obtain ⟨b, As, h1, h2, -⟩ := mkT_r h
  exact ⟨b, As, h1, h2⟩
def tb_Life_size : List (Nat × Option (List Nat) × Instr × List Nat) := [(0, none, .aload_n 0, []), (1, none, .getfield 24, []), (4, none, .ireturn, [])]
def P_Life_size : Nat → Option (List Nat) × Instr × List Nat := plk tb_Life_size
theorem r_Life_size_0 : P_Life_size 0 = (none, .aload_n 0, []) := by decide +kernel
theorem r_Life_size_1 : P_Life_size 1 = (none, .getfield 24, []) := by decide +kernel
theorem r_Life_size_4 : P_Life_size 4 = (none, .ireturn, []) := by decide +kernel
def E_Life_size : List (Nat × Ent) := []
def X_Life_size : Cx := (llk (0, 0, 9) ftX2, llk 99 ntX2, llk none kcX2, llk none klX2, llk dEnt E_Life_size, 0, 0, false)
theorem xok_Life_size : Xok RX2 X_Life_size := xok_of ftX2_ok ntX2_ok kcX2_ok klX2_ok (E := E_Life_size) (fun _ h => absurd h List.not_mem_nil)
theorem xf_Life_size_24 : xfl X_Life_size 24 = (2, 4, 0) := by decide +kernel
theorem xd_Life_size : xd X_Life_size = 0 := rfl
theorem xrb_Life_size : xrb X_Life_size = 0 := rfl
theorem xin_Life_size : xin X_Life_size = false := rfl
set_option maxHeartbeats 4000000 in
set_option maxRecDepth 100000 in
theorem S_Life_size : Snd yX2_size cX2_size 1 (some .int) T_Life_size 0 0 0 := by
  refine snd_of (X := X_Life_size) (P := P_Life_size) (tb := tb_Life_size) (own := RX2) (by decide) rfl rfl (by decide +kernel) xok_Life_size rfl rk0 (fun h => by first | rfl | cases h) ?_
  intro as M k has hM hT0
  obtain ⟨sz, sl, lay, ρ, σ, τ⟩ := M
  obtain ⟨o, as1, e, hlo, hT1⟩ := mkT_r hT0
  clear hT0
  subst e
  obtain ⟨e, hT⟩ := hT1
  subst e
  replace hlo : lay o = (12, 0) := hlo
  clear has
  replace hM : ∀ a i, -2147483648 ≤ σ a i ∧ σ a i ≤ 2147483647 := hM
  replace hT : TF_Life_size o sz sl lay ρ σ τ k := hT
  unfold TF_Life_size at hT
  refine ⟨Nat.le_of_ble_eq_true rfl, fun _ _ _ => False, fun _ _ _ => 0, 11, ?_, fun _ _ _ _ _ _ h => h.elim⟩
  unfold wps
  simp only [si_iload_n0, si_iload_n1, si_iload_n2, si_iload_n3, si_iload, si_lload_n0, si_lload_n1, si_lload_n2, si_lload_n3, si_lload, si_aload_n0, si_aload_n1, si_aload_n2, si_aload_n3, si_aload, si_istore_n0, si_istore_n1, si_istore_n2, si_istore_n3, si_istore, si_astore_n0, si_astore_n1, si_astore_n2, si_astore_n3, si_astore, si_lstore_n0, si_lstore_n1, si_lstore_n2, si_lstore_n3, si_lstore, si_iconst, si_bipush, si_sipush, si_ldc, si_ldc2_w, si_lconst0, si_lconst1, si_aconst_null, si_iinc, si_dup, si_dup2, si_iadd, si_isub, si_imul, si_idiv, si_irem, si_iand, si_ior, si_ishl, si_ishr, si_ladd, si_lmul, si_lor, si_lxor, si_lshl, si_lushr, si_lcmp, si_i2b, si_i2l, si_l2i, si_icmp_eq, si_icmp_ne, si_icmp_lt, si_icmp_ge, si_icmp_gt, si_icmp_le, si_if_eq, si_if_ne, si_if_lt, si_if_ge, si_if_gt, si_if_le, si_ifnull, si_ifnonnull, si_goto, si_tableswitch, si_lookupswitch, si_getfield, si_putfield, si_getstatic, si_iaload, si_baload, si_laload, si_aaload, si_iastore, si_bastore, si_lastore, si_aastore, si_arraylength, si_new, si_newarray, si_anewarray, si_invokevirtual, si_invokespecial, si_invokestatic, si_ireturn, si_lreturn, si_areturn, si_return_, pI_e, pL_e, pR_e, pA_r, pA_n, pN_n, pN_r, oI_e, oL_e, oA_r, oA_n, lget_e, lrm1_0, lrm2_0, lrm1_i, lrm1_r, lrm1_n, lrm1_l, lrm2_i, lrm2_r, lrm2_n, lrm2_l, popN_0, popN_s, acat_i, acat_l, acat_r, acat_n, stw_0, stw_s, psh_s, psh_n, wgf_r, wgf_i, wgf_b, wgf_n, wgf_m, wpf_i, wpf_r, wpf_b, wnew_e, callE_e, rbk_0, rbk_1, tsw_0, tsw_s, lsw_0, lsw_s, wp_s, wq_t, wq_f, oV_e, pick_0, pick_s, oZ_e, oY_e, r_Life_size_0, r_Life_size_1, r_Life_size_4, xf_Life_size_24, xd_Life_size, xrb_Life_size, xin_Life_size, Nat.reduceAdd, Nat.reduceMul, Nat.reduceEqDiff, reduceIte, Int.reduceNeg, Int.reduceLE, Int.reduceLT, Int.reduceAdd, Int.reduceSub, Int.reduceToNat, true_and, and_true, inR_e, Nat.reduceLT, Nat.reduceLeDiff, reduceCtorEq, Nat.add_zero, Nat.zero_add, or_false, false_or, or_true, true_or, not_true_eq_false, not_false_eq_true, Classical.not_not, Nat.add_eq_zero_iff, and_false, false_and, Int.reduceEq, List.mem_cons, List.not_mem_nil, forall_eq_or_imp, forall_eq, false_implies, implies_true, forall_const, aargs_0, aargs_i, aargs_r, aargs_l, aargs_n, nfT_e, eq_self, and_self, Nat.le_refl, fu_s, fu_fu, iu_iu, iu_s, fu_am, fu_a0, fu_0a, iu_l, Nat.reduceBEq, Int.reduceBEq, T_objInit_e]
  exact ⟨hlo, hT⟩
def TF_Life_allSizes (o : Nat) (sz sl : Nat) (lay : Nat → Nat × Int) (ρ : Nat → Int → Nat) (σ : Nat → Int → Int) (τ : Nat → Int → Int64) (k : Option AV → Mm → Prop) : Prop := k (some (vI (σ o 5))) (sz, sl, lay, ρ, σ, τ)
def T_Life_allSizes : Tr := mkT 2 fun o as M k => as = [] ∧ TF_Life_allSizes o M.1 M.2.1 M.2.2.1 M.2.2.2.1 M.2.2.2.2.1 M.2.2.2.2.2 k
theorem T_Life_allSizes_e {o : Nat} {sz sl : Nat} {lay : Nat → Nat × Int} {ρ : Nat → Int → Nat} {σ : Nat → Int → Int} {τ : Nat → Int → Int64} {k : Option AV → Mm → Prop} : T_Life_allSizes [vR o] (sz, sl, lay, ρ, σ, τ) k = (lay o = (12, 0) ∧ TF_Life_allSizes o sz sl lay ρ σ τ k) := by simp [T_Life_allSizes, mkT_e, pI_e, pR_e, pL_e]
theorem T_Life_allSizes_r (as : List AV) (M : Mm) (k : Option AV → Mm → Prop) (h : T_Life_allSizes as M k) : ∃ b As, as = vR b :: As ∧ M.2.2.1 b = (10 + 2, 0) := by
  obtain ⟨b, As, h1, h2, -⟩ := mkT_r h
  exact ⟨b, As, h1, h2⟩
def tb_Life_allSizes : List (Nat × Option (List Nat) × Instr × List Nat) := [(0, none, .aload_n 0, []), (1, none, .getfield 28, []), (4, none, .ireturn, [])]
def P_Life_allSizes : Nat → Option (List Nat) × Instr × List Nat := plk tb_Life_allSizes
theorem r_Life_allSizes_0 : P_Life_allSizes 0 = (none, .aload_n 0, []) := by decide +kernel
theorem r_Life_allSizes_1 : P_Life_allSizes 1 = (none, .getfield 28, []) := by decide +kernel
theorem r_Life_allSizes_4 : P_Life_allSizes 4 = (none, .ireturn, []) := by decide +kernel
def E_Life_allSizes : List (Nat × Ent) := []
def X_Life_allSizes : Cx := (llk (0, 0, 9) ftX2, llk 99 ntX2, llk none kcX2, llk none klX2, llk dEnt E_Life_allSizes, 0, 0, false)
theorem xok_Life_allSizes : Xok RX2 X_Life_allSizes := xok_of ftX2_ok ntX2_ok kcX2_ok klX2_ok (E := E_Life_allSizes) (fun _ h => absurd h List.not_mem_nil)
theorem xf_Life_allSizes_28 : xfl X_Life_allSizes 28 = (2, 5, 0) := by decide +kernel
theorem xd_Life_allSizes : xd X_Life_allSizes = 0 := rfl
theorem xrb_Life_allSizes : xrb X_Life_allSizes = 0 := rfl
theorem xin_Life_allSizes : xin X_Life_allSizes = false := rfl
set_option maxHeartbeats 4000000 in
set_option maxRecDepth 100000 in
theorem S_Life_allSizes : Snd yX2_allSizes cX2_allSizes 1 (some .int) T_Life_allSizes 0 0 0 := by
  refine snd_of (X := X_Life_allSizes) (P := P_Life_allSizes) (tb := tb_Life_allSizes) (own := RX2) (by decide) rfl rfl (by decide +kernel) xok_Life_allSizes rfl rk0 (fun h => by first | rfl | cases h) ?_
  intro as M k has hM hT0
  obtain ⟨sz, sl, lay, ρ, σ, τ⟩ := M
  obtain ⟨o, as1, e, hlo, hT1⟩ := mkT_r hT0
  clear hT0
  subst e
  obtain ⟨e, hT⟩ := hT1
  subst e
  replace hlo : lay o = (12, 0) := hlo
  clear has
  replace hM : ∀ a i, -2147483648 ≤ σ a i ∧ σ a i ≤ 2147483647 := hM
  replace hT : TF_Life_allSizes o sz sl lay ρ σ τ k := hT
  unfold TF_Life_allSizes at hT
  refine ⟨Nat.le_of_ble_eq_true rfl, fun _ _ _ => False, fun _ _ _ => 0, 11, ?_, fun _ _ _ _ _ _ h => h.elim⟩
  unfold wps
  simp only [si_iload_n0, si_iload_n1, si_iload_n2, si_iload_n3, si_iload, si_lload_n0, si_lload_n1, si_lload_n2, si_lload_n3, si_lload, si_aload_n0, si_aload_n1, si_aload_n2, si_aload_n3, si_aload, si_istore_n0, si_istore_n1, si_istore_n2, si_istore_n3, si_istore, si_astore_n0, si_astore_n1, si_astore_n2, si_astore_n3, si_astore, si_lstore_n0, si_lstore_n1, si_lstore_n2, si_lstore_n3, si_lstore, si_iconst, si_bipush, si_sipush, si_ldc, si_ldc2_w, si_lconst0, si_lconst1, si_aconst_null, si_iinc, si_dup, si_dup2, si_iadd, si_isub, si_imul, si_idiv, si_irem, si_iand, si_ior, si_ishl, si_ishr, si_ladd, si_lmul, si_lor, si_lxor, si_lshl, si_lushr, si_lcmp, si_i2b, si_i2l, si_l2i, si_icmp_eq, si_icmp_ne, si_icmp_lt, si_icmp_ge, si_icmp_gt, si_icmp_le, si_if_eq, si_if_ne, si_if_lt, si_if_ge, si_if_gt, si_if_le, si_ifnull, si_ifnonnull, si_goto, si_tableswitch, si_lookupswitch, si_getfield, si_putfield, si_getstatic, si_iaload, si_baload, si_laload, si_aaload, si_iastore, si_bastore, si_lastore, si_aastore, si_arraylength, si_new, si_newarray, si_anewarray, si_invokevirtual, si_invokespecial, si_invokestatic, si_ireturn, si_lreturn, si_areturn, si_return_, pI_e, pL_e, pR_e, pA_r, pA_n, pN_n, pN_r, oI_e, oL_e, oA_r, oA_n, lget_e, lrm1_0, lrm2_0, lrm1_i, lrm1_r, lrm1_n, lrm1_l, lrm2_i, lrm2_r, lrm2_n, lrm2_l, popN_0, popN_s, acat_i, acat_l, acat_r, acat_n, stw_0, stw_s, psh_s, psh_n, wgf_r, wgf_i, wgf_b, wgf_n, wgf_m, wpf_i, wpf_r, wpf_b, wnew_e, callE_e, rbk_0, rbk_1, tsw_0, tsw_s, lsw_0, lsw_s, wp_s, wq_t, wq_f, oV_e, pick_0, pick_s, oZ_e, oY_e, r_Life_allSizes_0, r_Life_allSizes_1, r_Life_allSizes_4, xf_Life_allSizes_28, xd_Life_allSizes, xrb_Life_allSizes, xin_Life_allSizes, Nat.reduceAdd, Nat.reduceMul, Nat.reduceEqDiff, reduceIte, Int.reduceNeg, Int.reduceLE, Int.reduceLT, Int.reduceAdd, Int.reduceSub, Int.reduceToNat, true_and, and_true, inR_e, Nat.reduceLT, Nat.reduceLeDiff, reduceCtorEq, Nat.add_zero, Nat.zero_add, or_false, false_or, or_true, true_or, not_true_eq_false, not_false_eq_true, Classical.not_not, Nat.add_eq_zero_iff, and_false, false_and, Int.reduceEq, List.mem_cons, List.not_mem_nil, forall_eq_or_imp, forall_eq, false_implies, implies_true, forall_const, aargs_0, aargs_i, aargs_r, aargs_l, aargs_n, nfT_e, eq_self, and_self, Nat.le_refl, fu_s, fu_fu, iu_iu, iu_s, fu_am, fu_a0, fu_0a, iu_l, Nat.reduceBEq, Int.reduceBEq, T_objInit_e]
  exact ⟨hlo, hT⟩
def TF_Life_lives (o : Nat) (i : Int) (sz sl : Nat) (lay : Nat → Nat × Int) (ρ : Nat → Int → Nat) (σ : Nat → Int → Int) (τ : Nat → Int → Int64) (k : Option AV → Mm → Prop) : Prop := LLife lay ρ o ∧ (0 ≤ i ∧ i < 600 ∧ 0 < σ (o + 2) i → k (some (vI (1))) (sz, sl, lay, ρ, σ, τ)) ∧ (¬ (0 ≤ i ∧ i < 600 ∧ 0 < σ (o + 2) i) → k (some (vI (0))) (sz, sl, lay, ρ, σ, τ))
def T_Life_lives : Tr := mkT 2 fun o as M k => pI as fun i as => as = [] ∧ TF_Life_lives o i M.1 M.2.1 M.2.2.1 M.2.2.2.1 M.2.2.2.2.1 M.2.2.2.2.2 k
theorem T_Life_lives_e {o : Nat} {i : Int} {sz sl : Nat} {lay : Nat → Nat × Int} {ρ : Nat → Int → Nat} {σ : Nat → Int → Int} {τ : Nat → Int → Int64} {k : Option AV → Mm → Prop} : T_Life_lives [vR o, vI i] (sz, sl, lay, ρ, σ, τ) k = (lay o = (12, 0) ∧ TF_Life_lives o i sz sl lay ρ σ τ k) := by simp [T_Life_lives, mkT_e, pI_e, pR_e, pL_e]
theorem T_Life_lives_r (as : List AV) (M : Mm) (k : Option AV → Mm → Prop) (h : T_Life_lives as M k) : ∃ b As, as = vR b :: As ∧ M.2.2.1 b = (10 + 2, 0) := by
  obtain ⟨b, As, h1, h2, -⟩ := mkT_r h
  exact ⟨b, As, h1, h2⟩
def tb_Life_lives : List (Nat × Option (List Nat) × Instr × List Nat) := [(0, none, .iload_n 1, []), (1, none, .invokestatic 83, []), (4, none, .ifCond .eq 16, [20]), (7, none, .aload_n 0, []), (8, none, .getfield 15, []), (11, none, .iload_n 1, []), (12, none, .iaload, []), (13, none, .ifCond .le 7, [20]), (16, none, .iconst 1, []), (17, none, .goto 4, [21]), (20, none, .iconst 0, []), (21, none, .ireturn, [])]
def P_Life_lives : Nat → Option (List Nat) × Instr × List Nat := plk tb_Life_lives
theorem r_Life_lives_0 : P_Life_lives 0 = (none, .iload_n 1, []) := by decide +kernel
theorem r_Life_lives_1 : P_Life_lives 1 = (none, .invokestatic 83, []) := by decide +kernel
theorem r_Life_lives_4 : P_Life_lives 4 = (none, .ifCond .eq 16, [20]) := by decide +kernel
theorem r_Life_lives_7 : P_Life_lives 7 = (none, .aload_n 0, []) := by decide +kernel
theorem r_Life_lives_8 : P_Life_lives 8 = (none, .getfield 15, []) := by decide +kernel
theorem r_Life_lives_11 : P_Life_lives 11 = (none, .iload_n 1, []) := by decide +kernel
theorem r_Life_lives_12 : P_Life_lives 12 = (none, .iaload, []) := by decide +kernel
theorem r_Life_lives_13 : P_Life_lives 13 = (none, .ifCond .le 7, [20]) := by decide +kernel
theorem r_Life_lives_16 : P_Life_lives 16 = (none, .iconst 1, []) := by decide +kernel
theorem r_Life_lives_17 : P_Life_lives 17 = (none, .goto 4, [21]) := by decide +kernel
theorem r_Life_lives_20 : P_Life_lives 20 = (none, .iconst 0, []) := by decide +kernel
theorem r_Life_lives_21 : P_Life_lives 21 = (none, .ireturn, []) := by decide +kernel
def E_Life_lives : List (Nat × Ent) := [(334, (1, 0, 0, 0, T_PR_isId))]
def X_Life_lives : Cx := (llk (0, 0, 9) ftX2, llk 99 ntX2, llk none kcX2, llk none klX2, llk dEnt E_Life_lives, 1, 1, false)
theorem xok_Life_lives : Xok RX2 X_Life_lives := xok_of ftX2_ok ntX2_ok kcX2_ok klX2_ok (E := E_Life_lives) (List.forall_mem_cons.mpr ⟨co_X2_334, fun _ h => absurd h List.not_mem_nil⟩)
theorem xf_Life_lives_15 : xfl X_Life_lives 15 = (2, 1, 1) := by decide +kernel
theorem xe_Life_lives_334 : xE X_Life_lives (4 * 83 + 2) = (1, 0, 0, 0, T_PR_isId) := rfl
theorem xd_Life_lives : xd X_Life_lives = 1 := rfl
theorem xrb_Life_lives : xrb X_Life_lives = 1 := rfl
theorem xin_Life_lives : xin X_Life_lives = false := rfl
set_option maxHeartbeats 4000000 in
set_option maxRecDepth 100000 in
theorem S_Life_lives : Snd yX2_lives cX2_lives 2 (some .boolean) T_Life_lives 1 0 0 := by
  refine snd_of (X := X_Life_lives) (P := P_Life_lives) (tb := tb_Life_lives) (own := RX2) (by decide) rfl rfl (by decide +kernel) xok_Life_lives rfl rk1 (fun h => by first | rfl | cases h) ?_
  intro as M k has hM hT0
  obtain ⟨sz, sl, lay, ρ, σ, τ⟩ := M
  obtain ⟨o, as1, e, hlo, hT1⟩ := mkT_r hT0
  clear hT0
  subst e
  obtain ⟨i, as2, e, hT2⟩ := pI_x hT1
  clear hT1
  subst e
  obtain ⟨e, hT⟩ := hT2
  subst e
  replace hlo : lay o = (12, 0) := hlo
  have r_i : -2147483648 ≤ i ∧ i ≤ 2147483647 := has (vI i) (by simp)
  clear has
  replace hM : ∀ a i, -2147483648 ≤ σ a i ∧ σ a i ≤ 2147483647 := hM
  replace hT : TF_Life_lives o i sz sl lay ρ σ τ k := hT
  unfold TF_Life_lives at hT
  obtain ⟨hF, h1, h0⟩ := hT
  obtain ⟨fh, fp0, fp1, fp2, fp3, fq0, fq1, fq2, fq3⟩ := (show LLife lay ρ _ from hF)
  refine ⟨Nat.le_of_ble_eq_true rfl, fun _ _ _ => False, fun _ _ _ => 0, 20, ?_, fun _ _ _ _ _ _ h => h.elim⟩
  unfold wps
  simp only [si_iload_n0, si_iload_n1, si_iload_n2, si_iload_n3, si_iload, si_lload_n0, si_lload_n1, si_lload_n2, si_lload_n3, si_lload, si_aload_n0, si_aload_n1, si_aload_n2, si_aload_n3, si_aload, si_istore_n0, si_istore_n1, si_istore_n2, si_istore_n3, si_istore, si_astore_n0, si_astore_n1, si_astore_n2, si_astore_n3, si_astore, si_lstore_n0, si_lstore_n1, si_lstore_n2, si_lstore_n3, si_lstore, si_iconst, si_bipush, si_sipush, si_ldc, si_ldc2_w, si_lconst0, si_lconst1, si_aconst_null, si_iinc, si_dup, si_dup2, si_iadd, si_isub, si_imul, si_idiv, si_irem, si_iand, si_ior, si_ishl, si_ishr, si_ladd, si_lmul, si_lor, si_lxor, si_lshl, si_lushr, si_lcmp, si_i2b, si_i2l, si_l2i, si_icmp_eq, si_icmp_ne, si_icmp_lt, si_icmp_ge, si_icmp_gt, si_icmp_le, si_if_eq, si_if_ne, si_if_lt, si_if_ge, si_if_gt, si_if_le, si_ifnull, si_ifnonnull, si_goto, si_tableswitch, si_lookupswitch, si_getfield, si_putfield, si_getstatic, si_iaload, si_baload, si_laload, si_aaload, si_iastore, si_bastore, si_lastore, si_aastore, si_arraylength, si_new, si_newarray, si_anewarray, si_invokevirtual, si_invokespecial, si_invokestatic, si_ireturn, si_lreturn, si_areturn, si_return_, pI_e, pL_e, pR_e, pA_r, pA_n, pN_n, pN_r, oI_e, oL_e, oA_r, oA_n, lget_e, lrm1_0, lrm2_0, lrm1_i, lrm1_r, lrm1_n, lrm1_l, lrm2_i, lrm2_r, lrm2_n, lrm2_l, popN_0, popN_s, acat_i, acat_l, acat_r, acat_n, stw_0, stw_s, psh_s, psh_n, wgf_r, wgf_i, wgf_b, wgf_n, wgf_m, wpf_i, wpf_r, wpf_b, wnew_e, callE_e, rbk_0, rbk_1, tsw_0, tsw_s, lsw_0, lsw_s, wp_s, wq_t, wq_f, oV_e, pick_0, pick_s, oZ_e, oY_e, r_Life_lives_0, r_Life_lives_1, r_Life_lives_4, r_Life_lives_7, r_Life_lives_8, r_Life_lives_11, r_Life_lives_12, r_Life_lives_13, r_Life_lives_16, r_Life_lives_17, r_Life_lives_20, r_Life_lives_21, xf_Life_lives_15, xe_Life_lives_334, xd_Life_lives, xrb_Life_lives, xin_Life_lives, T_PR_isId_e, TF_PR_isId, fh, fp0, fp1, fp2, fp3, fq0, fq1, fq2, fq3, Nat.reduceAdd, Nat.reduceMul, Nat.reduceEqDiff, reduceIte, Int.reduceNeg, Int.reduceLE, Int.reduceLT, Int.reduceAdd, Int.reduceSub, Int.reduceToNat, true_and, and_true, inR_e, Nat.reduceLT, Nat.reduceLeDiff, reduceCtorEq, Nat.add_zero, Nat.zero_add, or_false, false_or, or_true, true_or, not_true_eq_false, not_false_eq_true, Classical.not_not, Nat.add_eq_zero_iff, and_false, false_and, Int.reduceEq, List.mem_cons, List.not_mem_nil, forall_eq_or_imp, forall_eq, false_implies, implies_true, forall_const, aargs_0, aargs_i, aargs_r, aargs_l, aargs_n, nfT_e, eq_self, and_self, Nat.le_refl, fu_s, fu_fu, iu_iu, iu_s, fu_am, fu_a0, fu_0a, iu_l, Nat.reduceBEq, Int.reduceBEq, T_objInit_e]
  repeat' (first | assumption | intro _ | apply And.intro)
  all_goals first | omega | assumption | (exact h1 (by omega)) | (exact h0 (by omega)) | (exact h1 ⟨by omega, by omega⟩) | (exact h0 ⟨by omega, by omega⟩) | (exact h1 ⟨by omega, by omega, by omega⟩) | (exact h0 ⟨by omega, by omega, by omega⟩)
theorem co_X2_372 : CallOK RX2 (.invokevirtual 93) (2, 1, 0, 0, T_Life_lives) := call_V S_Life_lives (by decide) (ci := 2) rfl (by decide +kernel) (by decide +kernel) (by decide +kernel) (by decide +kernel) (by decide +kernel) (by decide +kernel) T_Life_lives_r
def TF_Life_keptOf (o : Nat) (i : Int) (sz sl : Nat) (lay : Nat → Nat × Int) (ρ : Nat → Int → Nat) (σ : Nat → Int → Int) (τ : Nat → Int → Int64) (k : Option AV → Mm → Prop) : Prop := LLife lay ρ o ∧ (0 ≤ i ∧ i < 600 ∧ 0 < σ (o + 2) i → k (some (vI (σ (o + 3) i))) (sz, sl, lay, ρ, σ, τ)) ∧ (¬ (0 ≤ i ∧ i < 600 ∧ 0 < σ (o + 2) i) → k (some (vI (-1))) (sz, sl, lay, ρ, σ, τ))
def T_Life_keptOf : Tr := mkT 2 fun o as M k => pI as fun i as => as = [] ∧ TF_Life_keptOf o i M.1 M.2.1 M.2.2.1 M.2.2.2.1 M.2.2.2.2.1 M.2.2.2.2.2 k
theorem T_Life_keptOf_e {o : Nat} {i : Int} {sz sl : Nat} {lay : Nat → Nat × Int} {ρ : Nat → Int → Nat} {σ : Nat → Int → Int} {τ : Nat → Int → Int64} {k : Option AV → Mm → Prop} : T_Life_keptOf [vR o, vI i] (sz, sl, lay, ρ, σ, τ) k = (lay o = (12, 0) ∧ TF_Life_keptOf o i sz sl lay ρ σ τ k) := by simp [T_Life_keptOf, mkT_e, pI_e, pR_e, pL_e]
theorem T_Life_keptOf_r (as : List AV) (M : Mm) (k : Option AV → Mm → Prop) (h : T_Life_keptOf as M k) : ∃ b As, as = vR b :: As ∧ M.2.2.1 b = (10 + 2, 0) := by
  obtain ⟨b, As, h1, h2, -⟩ := mkT_r h
  exact ⟨b, As, h1, h2⟩
def tb_Life_keptOf : List (Nat × Option (List Nat) × Instr × List Nat) := [(0, none, .aload_n 0, []), (1, none, .iload_n 1, []), (2, none, .invokevirtual 93, []), (5, none, .ifCond .eq 12, [17]), (8, none, .aload_n 0, []), (9, none, .getfield 18, []), (12, none, .iload_n 1, []), (13, none, .iaload, []), (14, none, .goto 4, [18]), (17, none, .iconst (-1), []), (18, none, .ireturn, [])]
def P_Life_keptOf : Nat → Option (List Nat) × Instr × List Nat := plk tb_Life_keptOf
theorem r_Life_keptOf_0 : P_Life_keptOf 0 = (none, .aload_n 0, []) := by decide +kernel
theorem r_Life_keptOf_1 : P_Life_keptOf 1 = (none, .iload_n 1, []) := by decide +kernel
theorem r_Life_keptOf_2 : P_Life_keptOf 2 = (none, .invokevirtual 93, []) := by decide +kernel
theorem r_Life_keptOf_5 : P_Life_keptOf 5 = (none, .ifCond .eq 12, [17]) := by decide +kernel
theorem r_Life_keptOf_8 : P_Life_keptOf 8 = (none, .aload_n 0, []) := by decide +kernel
theorem r_Life_keptOf_9 : P_Life_keptOf 9 = (none, .getfield 18, []) := by decide +kernel
theorem r_Life_keptOf_12 : P_Life_keptOf 12 = (none, .iload_n 1, []) := by decide +kernel
theorem r_Life_keptOf_13 : P_Life_keptOf 13 = (none, .iaload, []) := by decide +kernel
theorem r_Life_keptOf_14 : P_Life_keptOf 14 = (none, .goto 4, [18]) := by decide +kernel
theorem r_Life_keptOf_17 : P_Life_keptOf 17 = (none, .iconst (-1), []) := by decide +kernel
theorem r_Life_keptOf_18 : P_Life_keptOf 18 = (none, .ireturn, []) := by decide +kernel
def E_Life_keptOf : List (Nat × Ent) := [(372, (2, 1, 0, 0, T_Life_lives))]
def X_Life_keptOf : Cx := (llk (0, 0, 9) ftX2, llk 99 ntX2, llk none kcX2, llk none klX2, llk dEnt E_Life_keptOf, 2, 0, false)
theorem xok_Life_keptOf : Xok RX2 X_Life_keptOf := xok_of ftX2_ok ntX2_ok kcX2_ok klX2_ok (E := E_Life_keptOf) (List.forall_mem_cons.mpr ⟨co_X2_372, fun _ h => absurd h List.not_mem_nil⟩)
theorem xf_Life_keptOf_18 : xfl X_Life_keptOf 18 = (2, 2, 1) := by decide +kernel
theorem xe_Life_keptOf_372 : xE X_Life_keptOf (4 * 93 + 0) = (2, 1, 0, 0, T_Life_lives) := rfl
theorem xd_Life_keptOf : xd X_Life_keptOf = 2 := rfl
theorem xrb_Life_keptOf : xrb X_Life_keptOf = 0 := rfl
theorem xin_Life_keptOf : xin X_Life_keptOf = false := rfl
set_option maxHeartbeats 4000000 in
set_option maxRecDepth 100000 in
theorem S_Life_keptOf : Snd yX2_keptOf cX2_keptOf 2 (some .int) T_Life_keptOf 2 0 0 := by
  refine snd_of (X := X_Life_keptOf) (P := P_Life_keptOf) (tb := tb_Life_keptOf) (own := RX2) (by decide) rfl rfl (by decide +kernel) xok_Life_keptOf rfl rk0 (fun h => by first | rfl | cases h) ?_
  intro as M k has hM hT0
  obtain ⟨sz, sl, lay, ρ, σ, τ⟩ := M
  obtain ⟨o, as1, e, hlo, hT1⟩ := mkT_r hT0
  clear hT0
  subst e
  obtain ⟨i, as2, e, hT2⟩ := pI_x hT1
  clear hT1
  subst e
  obtain ⟨e, hT⟩ := hT2
  subst e
  replace hlo : lay o = (12, 0) := hlo
  have r_i : -2147483648 ≤ i ∧ i ≤ 2147483647 := has (vI i) (by simp)
  clear has
  replace hM : ∀ a i, -2147483648 ≤ σ a i ∧ σ a i ≤ 2147483647 := hM
  replace hT : TF_Life_keptOf o i sz sl lay ρ σ τ k := hT
  unfold TF_Life_keptOf at hT
  obtain ⟨hF, h1, h0⟩ := hT
  obtain ⟨fh, fp0, fp1, fp2, fp3, fq0, fq1, fq2, fq3⟩ := (show LLife lay ρ _ from hF)
  refine ⟨Nat.le_of_ble_eq_true rfl, fun _ _ _ => False, fun _ _ _ => 0, 19, ?_, fun _ _ _ _ _ _ h => h.elim⟩
  unfold wps
  simp only [si_iload_n0, si_iload_n1, si_iload_n2, si_iload_n3, si_iload, si_lload_n0, si_lload_n1, si_lload_n2, si_lload_n3, si_lload, si_aload_n0, si_aload_n1, si_aload_n2, si_aload_n3, si_aload, si_istore_n0, si_istore_n1, si_istore_n2, si_istore_n3, si_istore, si_astore_n0, si_astore_n1, si_astore_n2, si_astore_n3, si_astore, si_lstore_n0, si_lstore_n1, si_lstore_n2, si_lstore_n3, si_lstore, si_iconst, si_bipush, si_sipush, si_ldc, si_ldc2_w, si_lconst0, si_lconst1, si_aconst_null, si_iinc, si_dup, si_dup2, si_iadd, si_isub, si_imul, si_idiv, si_irem, si_iand, si_ior, si_ishl, si_ishr, si_ladd, si_lmul, si_lor, si_lxor, si_lshl, si_lushr, si_lcmp, si_i2b, si_i2l, si_l2i, si_icmp_eq, si_icmp_ne, si_icmp_lt, si_icmp_ge, si_icmp_gt, si_icmp_le, si_if_eq, si_if_ne, si_if_lt, si_if_ge, si_if_gt, si_if_le, si_ifnull, si_ifnonnull, si_goto, si_tableswitch, si_lookupswitch, si_getfield, si_putfield, si_getstatic, si_iaload, si_baload, si_laload, si_aaload, si_iastore, si_bastore, si_lastore, si_aastore, si_arraylength, si_new, si_newarray, si_anewarray, si_invokevirtual, si_invokespecial, si_invokestatic, si_ireturn, si_lreturn, si_areturn, si_return_, pI_e, pL_e, pR_e, pA_r, pA_n, pN_n, pN_r, oI_e, oL_e, oA_r, oA_n, lget_e, lrm1_0, lrm2_0, lrm1_i, lrm1_r, lrm1_n, lrm1_l, lrm2_i, lrm2_r, lrm2_n, lrm2_l, popN_0, popN_s, acat_i, acat_l, acat_r, acat_n, stw_0, stw_s, psh_s, psh_n, wgf_r, wgf_i, wgf_b, wgf_n, wgf_m, wpf_i, wpf_r, wpf_b, wnew_e, callE_e, rbk_0, rbk_1, tsw_0, tsw_s, lsw_0, lsw_s, wp_s, wq_t, wq_f, oV_e, pick_0, pick_s, oZ_e, oY_e, r_Life_keptOf_0, r_Life_keptOf_1, r_Life_keptOf_2, r_Life_keptOf_5, r_Life_keptOf_8, r_Life_keptOf_9, r_Life_keptOf_12, r_Life_keptOf_13, r_Life_keptOf_14, r_Life_keptOf_17, r_Life_keptOf_18, xf_Life_keptOf_18, xe_Life_keptOf_372, xd_Life_keptOf, xrb_Life_keptOf, xin_Life_keptOf, T_Life_lives_e, TF_Life_lives, fh, fp0, fp1, fp2, fp3, fq0, fq1, fq2, fq3, Nat.reduceAdd, Nat.reduceMul, Nat.reduceEqDiff, reduceIte, Int.reduceNeg, Int.reduceLE, Int.reduceLT, Int.reduceAdd, Int.reduceSub, Int.reduceToNat, true_and, and_true, inR_e, Nat.reduceLT, Nat.reduceLeDiff, reduceCtorEq, Nat.add_zero, Nat.zero_add, or_false, false_or, or_true, true_or, not_true_eq_false, not_false_eq_true, Classical.not_not, Nat.add_eq_zero_iff, and_false, false_and, Int.reduceEq, List.mem_cons, List.not_mem_nil, forall_eq_or_imp, forall_eq, false_implies, implies_true, forall_const, aargs_0, aargs_i, aargs_r, aargs_l, aargs_n, nfT_e, eq_self, and_self, Nat.le_refl, fu_s, fu_fu, iu_iu, iu_s, fu_am, fu_a0, fu_0a, iu_l, Nat.reduceBEq, Int.reduceBEq, T_objInit_e]
  repeat' (first | assumption | intro _ | apply And.intro)
  all_goals first | omega | assumption | (exact h1 (by omega)) | (exact h0 (by omega)) | (exact h1 ⟨by omega, by omega⟩) | (exact h0 ⟨by omega, by omega⟩) | (exact h1 ⟨by omega, by omega, by omega⟩) | (exact h0 ⟨by omega, by omega, by omega⟩)
def TF_Life_heightOf (o : Nat) (i : Int) (sz sl : Nat) (lay : Nat → Nat × Int) (ρ : Nat → Int → Nat) (σ : Nat → Int → Int) (τ : Nat → Int → Int64) (k : Option AV → Mm → Prop) : Prop := LLife lay ρ o ∧ (0 ≤ i ∧ i < 600 ∧ 0 < σ (o + 2) i → k (some (vI (σ (o + 2) i))) (sz, sl, lay, ρ, σ, τ)) ∧ (¬ (0 ≤ i ∧ i < 600 ∧ 0 < σ (o + 2) i) → k (some (vI (-1))) (sz, sl, lay, ρ, σ, τ))
def T_Life_heightOf : Tr := mkT 2 fun o as M k => pI as fun i as => as = [] ∧ TF_Life_heightOf o i M.1 M.2.1 M.2.2.1 M.2.2.2.1 M.2.2.2.2.1 M.2.2.2.2.2 k
theorem T_Life_heightOf_e {o : Nat} {i : Int} {sz sl : Nat} {lay : Nat → Nat × Int} {ρ : Nat → Int → Nat} {σ : Nat → Int → Int} {τ : Nat → Int → Int64} {k : Option AV → Mm → Prop} : T_Life_heightOf [vR o, vI i] (sz, sl, lay, ρ, σ, τ) k = (lay o = (12, 0) ∧ TF_Life_heightOf o i sz sl lay ρ σ τ k) := by simp [T_Life_heightOf, mkT_e, pI_e, pR_e, pL_e]
theorem T_Life_heightOf_r (as : List AV) (M : Mm) (k : Option AV → Mm → Prop) (h : T_Life_heightOf as M k) : ∃ b As, as = vR b :: As ∧ M.2.2.1 b = (10 + 2, 0) := by
  obtain ⟨b, As, h1, h2, -⟩ := mkT_r h
  exact ⟨b, As, h1, h2⟩
def tb_Life_heightOf : List (Nat × Option (List Nat) × Instr × List Nat) := [(0, none, .aload_n 0, []), (1, none, .iload_n 1, []), (2, none, .invokevirtual 93, []), (5, none, .ifCond .eq 12, [17]), (8, none, .aload_n 0, []), (9, none, .getfield 15, []), (12, none, .iload_n 1, []), (13, none, .iaload, []), (14, none, .goto 4, [18]), (17, none, .iconst (-1), []), (18, none, .ireturn, [])]
def P_Life_heightOf : Nat → Option (List Nat) × Instr × List Nat := plk tb_Life_heightOf
theorem r_Life_heightOf_0 : P_Life_heightOf 0 = (none, .aload_n 0, []) := by decide +kernel
theorem r_Life_heightOf_1 : P_Life_heightOf 1 = (none, .iload_n 1, []) := by decide +kernel
theorem r_Life_heightOf_2 : P_Life_heightOf 2 = (none, .invokevirtual 93, []) := by decide +kernel
theorem r_Life_heightOf_5 : P_Life_heightOf 5 = (none, .ifCond .eq 12, [17]) := by decide +kernel
theorem r_Life_heightOf_8 : P_Life_heightOf 8 = (none, .aload_n 0, []) := by decide +kernel
theorem r_Life_heightOf_9 : P_Life_heightOf 9 = (none, .getfield 15, []) := by decide +kernel
theorem r_Life_heightOf_12 : P_Life_heightOf 12 = (none, .iload_n 1, []) := by decide +kernel
theorem r_Life_heightOf_13 : P_Life_heightOf 13 = (none, .iaload, []) := by decide +kernel
theorem r_Life_heightOf_14 : P_Life_heightOf 14 = (none, .goto 4, [18]) := by decide +kernel
theorem r_Life_heightOf_17 : P_Life_heightOf 17 = (none, .iconst (-1), []) := by decide +kernel
theorem r_Life_heightOf_18 : P_Life_heightOf 18 = (none, .ireturn, []) := by decide +kernel
def E_Life_heightOf : List (Nat × Ent) := [(372, (2, 1, 0, 0, T_Life_lives))]
def X_Life_heightOf : Cx := (llk (0, 0, 9) ftX2, llk 99 ntX2, llk none kcX2, llk none klX2, llk dEnt E_Life_heightOf, 2, 0, false)
theorem xok_Life_heightOf : Xok RX2 X_Life_heightOf := xok_of ftX2_ok ntX2_ok kcX2_ok klX2_ok (E := E_Life_heightOf) (List.forall_mem_cons.mpr ⟨co_X2_372, fun _ h => absurd h List.not_mem_nil⟩)
theorem xf_Life_heightOf_15 : xfl X_Life_heightOf 15 = (2, 1, 1) := by decide +kernel
theorem xe_Life_heightOf_372 : xE X_Life_heightOf (4 * 93 + 0) = (2, 1, 0, 0, T_Life_lives) := rfl
theorem xd_Life_heightOf : xd X_Life_heightOf = 2 := rfl
theorem xrb_Life_heightOf : xrb X_Life_heightOf = 0 := rfl
theorem xin_Life_heightOf : xin X_Life_heightOf = false := rfl
set_option maxHeartbeats 4000000 in
set_option maxRecDepth 100000 in
theorem S_Life_heightOf : Snd yX2_heightOf cX2_heightOf 2 (some .int) T_Life_heightOf 2 0 0 := by
  refine snd_of (X := X_Life_heightOf) (P := P_Life_heightOf) (tb := tb_Life_heightOf) (own := RX2) (by decide) rfl rfl (by decide +kernel) xok_Life_heightOf rfl rk0 (fun h => by first | rfl | cases h) ?_
  intro as M k has hM hT0
  obtain ⟨sz, sl, lay, ρ, σ, τ⟩ := M
  obtain ⟨o, as1, e, hlo, hT1⟩ := mkT_r hT0
  clear hT0
  subst e
  obtain ⟨i, as2, e, hT2⟩ := pI_x hT1
  clear hT1
  subst e
  obtain ⟨e, hT⟩ := hT2
  subst e
  replace hlo : lay o = (12, 0) := hlo
  have r_i : -2147483648 ≤ i ∧ i ≤ 2147483647 := has (vI i) (by simp)
  clear has
  replace hM : ∀ a i, -2147483648 ≤ σ a i ∧ σ a i ≤ 2147483647 := hM
  replace hT : TF_Life_heightOf o i sz sl lay ρ σ τ k := hT
  unfold TF_Life_heightOf at hT
  obtain ⟨hF, h1, h0⟩ := hT
  obtain ⟨fh, fp0, fp1, fp2, fp3, fq0, fq1, fq2, fq3⟩ := (show LLife lay ρ _ from hF)
  refine ⟨Nat.le_of_ble_eq_true rfl, fun _ _ _ => False, fun _ _ _ => 0, 19, ?_, fun _ _ _ _ _ _ h => h.elim⟩
  unfold wps
  simp only [si_iload_n0, si_iload_n1, si_iload_n2, si_iload_n3, si_iload, si_lload_n0, si_lload_n1, si_lload_n2, si_lload_n3, si_lload, si_aload_n0, si_aload_n1, si_aload_n2, si_aload_n3, si_aload, si_istore_n0, si_istore_n1, si_istore_n2, si_istore_n3, si_istore, si_astore_n0, si_astore_n1, si_astore_n2, si_astore_n3, si_astore, si_lstore_n0, si_lstore_n1, si_lstore_n2, si_lstore_n3, si_lstore, si_iconst, si_bipush, si_sipush, si_ldc, si_ldc2_w, si_lconst0, si_lconst1, si_aconst_null, si_iinc, si_dup, si_dup2, si_iadd, si_isub, si_imul, si_idiv, si_irem, si_iand, si_ior, si_ishl, si_ishr, si_ladd, si_lmul, si_lor, si_lxor, si_lshl, si_lushr, si_lcmp, si_i2b, si_i2l, si_l2i, si_icmp_eq, si_icmp_ne, si_icmp_lt, si_icmp_ge, si_icmp_gt, si_icmp_le, si_if_eq, si_if_ne, si_if_lt, si_if_ge, si_if_gt, si_if_le, si_ifnull, si_ifnonnull, si_goto, si_tableswitch, si_lookupswitch, si_getfield, si_putfield, si_getstatic, si_iaload, si_baload, si_laload, si_aaload, si_iastore, si_bastore, si_lastore, si_aastore, si_arraylength, si_new, si_newarray, si_anewarray, si_invokevirtual, si_invokespecial, si_invokestatic, si_ireturn, si_lreturn, si_areturn, si_return_, pI_e, pL_e, pR_e, pA_r, pA_n, pN_n, pN_r, oI_e, oL_e, oA_r, oA_n, lget_e, lrm1_0, lrm2_0, lrm1_i, lrm1_r, lrm1_n, lrm1_l, lrm2_i, lrm2_r, lrm2_n, lrm2_l, popN_0, popN_s, acat_i, acat_l, acat_r, acat_n, stw_0, stw_s, psh_s, psh_n, wgf_r, wgf_i, wgf_b, wgf_n, wgf_m, wpf_i, wpf_r, wpf_b, wnew_e, callE_e, rbk_0, rbk_1, tsw_0, tsw_s, lsw_0, lsw_s, wp_s, wq_t, wq_f, oV_e, pick_0, pick_s, oZ_e, oY_e, r_Life_heightOf_0, r_Life_heightOf_1, r_Life_heightOf_2, r_Life_heightOf_5, r_Life_heightOf_8, r_Life_heightOf_9, r_Life_heightOf_12, r_Life_heightOf_13, r_Life_heightOf_14, r_Life_heightOf_17, r_Life_heightOf_18, xf_Life_heightOf_15, xe_Life_heightOf_372, xd_Life_heightOf, xrb_Life_heightOf, xin_Life_heightOf, T_Life_lives_e, TF_Life_lives, fh, fp0, fp1, fp2, fp3, fq0, fq1, fq2, fq3, Nat.reduceAdd, Nat.reduceMul, Nat.reduceEqDiff, reduceIte, Int.reduceNeg, Int.reduceLE, Int.reduceLT, Int.reduceAdd, Int.reduceSub, Int.reduceToNat, true_and, and_true, inR_e, Nat.reduceLT, Nat.reduceLeDiff, reduceCtorEq, Nat.add_zero, Nat.zero_add, or_false, false_or, or_true, true_or, not_true_eq_false, not_false_eq_true, Classical.not_not, Nat.add_eq_zero_iff, and_false, false_and, Int.reduceEq, List.mem_cons, List.not_mem_nil, forall_eq_or_imp, forall_eq, false_implies, implies_true, forall_const, aargs_0, aargs_i, aargs_r, aargs_l, aargs_n, nfT_e, eq_self, and_self, Nat.le_refl, fu_s, fu_fu, iu_iu, iu_s, fu_am, fu_a0, fu_0a, iu_l, Nat.reduceBEq, Int.reduceBEq, T_objInit_e]
  repeat' (first | assumption | intro _ | apply And.intro)
  all_goals first | omega | assumption | (exact h1 (by omega)) | (exact h0 (by omega)) | (exact h1 ⟨by omega, by omega⟩) | (exact h0 ⟨by omega, by omega⟩) | (exact h1 ⟨by omega, by omega, by omega⟩) | (exact h0 ⟨by omega, by omega, by omega⟩)
def TF_Life_ranked (o : Nat) (i : Int) (sz sl : Nat) (lay : Nat → Nat × Int) (ρ : Nat → Int → Nat) (σ : Nat → Int → Int) (τ : Nat → Int → Int64) (k : Option AV → Mm → Prop) : Prop := LLife lay ρ o ∧ (0 ≤ σ o 4 ∧ σ o 4 ≤ 600) ∧ (0 ≤ i ∧ i < σ o 4 → k (some (vI (σ (o + 4) i))) (sz, sl, lay, ρ, σ, τ)) ∧ (¬ (0 ≤ i ∧ i < σ o 4) → k (some (vI (-1))) (sz, sl, lay, ρ, σ, τ))
def T_Life_ranked : Tr := mkT 2 fun o as M k => pI as fun i as => as = [] ∧ TF_Life_ranked o i M.1 M.2.1 M.2.2.1 M.2.2.2.1 M.2.2.2.2.1 M.2.2.2.2.2 k
theorem T_Life_ranked_e {o : Nat} {i : Int} {sz sl : Nat} {lay : Nat → Nat × Int} {ρ : Nat → Int → Nat} {σ : Nat → Int → Int} {τ : Nat → Int → Int64} {k : Option AV → Mm → Prop} : T_Life_ranked [vR o, vI i] (sz, sl, lay, ρ, σ, τ) k = (lay o = (12, 0) ∧ TF_Life_ranked o i sz sl lay ρ σ τ k) := by simp [T_Life_ranked, mkT_e, pI_e, pR_e, pL_e]
theorem T_Life_ranked_r (as : List AV) (M : Mm) (k : Option AV → Mm → Prop) (h : T_Life_ranked as M k) : ∃ b As, as = vR b :: As ∧ M.2.2.1 b = (10 + 2, 0) := by
  obtain ⟨b, As, h1, h2, -⟩ := mkT_r h
  exact ⟨b, As, h1, h2⟩
def tb_Life_ranked : List (Nat × Option (List Nat) × Instr × List Nat) := [(0, none, .iload_n 1, []), (1, none, .ifCond .lt 11, [12]), (4, none, .iload_n 1, []), (5, none, .aload_n 0, []), (6, none, .getfield 24, []), (9, none, .if_icmp .lt 7, [16]), (12, none, .iconst (-1), []), (13, none, .goto 9, [22]), (16, none, .aload_n 0, []), (17, none, .getfield 21, []), (20, none, .iload_n 1, []), (21, none, .iaload, []), (22, none, .ireturn, [])]
def P_Life_ranked : Nat → Option (List Nat) × Instr × List Nat := plk tb_Life_ranked
theorem r_Life_ranked_0 : P_Life_ranked 0 = (none, .iload_n 1, []) := by decide +kernel
theorem r_Life_ranked_1 : P_Life_ranked 1 = (none, .ifCond .lt 11, [12]) := by decide +kernel
theorem r_Life_ranked_4 : P_Life_ranked 4 = (none, .iload_n 1, []) := by decide +kernel
theorem r_Life_ranked_5 : P_Life_ranked 5 = (none, .aload_n 0, []) := by decide +kernel
theorem r_Life_ranked_6 : P_Life_ranked 6 = (none, .getfield 24, []) := by decide +kernel
theorem r_Life_ranked_9 : P_Life_ranked 9 = (none, .if_icmp .lt 7, [16]) := by decide +kernel
theorem r_Life_ranked_12 : P_Life_ranked 12 = (none, .iconst (-1), []) := by decide +kernel
theorem r_Life_ranked_13 : P_Life_ranked 13 = (none, .goto 9, [22]) := by decide +kernel
theorem r_Life_ranked_16 : P_Life_ranked 16 = (none, .aload_n 0, []) := by decide +kernel
theorem r_Life_ranked_17 : P_Life_ranked 17 = (none, .getfield 21, []) := by decide +kernel
theorem r_Life_ranked_20 : P_Life_ranked 20 = (none, .iload_n 1, []) := by decide +kernel
theorem r_Life_ranked_21 : P_Life_ranked 21 = (none, .iaload, []) := by decide +kernel
theorem r_Life_ranked_22 : P_Life_ranked 22 = (none, .ireturn, []) := by decide +kernel
def E_Life_ranked : List (Nat × Ent) := []
def X_Life_ranked : Cx := (llk (0, 0, 9) ftX2, llk 99 ntX2, llk none kcX2, llk none klX2, llk dEnt E_Life_ranked, 0, 0, false)
theorem xok_Life_ranked : Xok RX2 X_Life_ranked := xok_of ftX2_ok ntX2_ok kcX2_ok klX2_ok (E := E_Life_ranked) (fun _ h => absurd h List.not_mem_nil)
theorem xf_Life_ranked_21 : xfl X_Life_ranked 21 = (2, 3, 1) := by decide +kernel
theorem xf_Life_ranked_24 : xfl X_Life_ranked 24 = (2, 4, 0) := by decide +kernel
theorem xd_Life_ranked : xd X_Life_ranked = 0 := rfl
theorem xrb_Life_ranked : xrb X_Life_ranked = 0 := rfl
theorem xin_Life_ranked : xin X_Life_ranked = false := rfl
set_option maxHeartbeats 4000000 in
set_option maxRecDepth 100000 in
theorem S_Life_ranked : Snd yX2_ranked cX2_ranked 2 (some .int) T_Life_ranked 0 0 0 := by
  refine snd_of (X := X_Life_ranked) (P := P_Life_ranked) (tb := tb_Life_ranked) (own := RX2) (by decide) rfl rfl (by decide +kernel) xok_Life_ranked rfl rk0 (fun h => by first | rfl | cases h) ?_
  intro as M k has hM hT0
  obtain ⟨sz, sl, lay, ρ, σ, τ⟩ := M
  obtain ⟨o, as1, e, hlo, hT1⟩ := mkT_r hT0
  clear hT0
  subst e
  obtain ⟨i, as2, e, hT2⟩ := pI_x hT1
  clear hT1
  subst e
  obtain ⟨e, hT⟩ := hT2
  subst e
  replace hlo : lay o = (12, 0) := hlo
  have r_i : -2147483648 ≤ i ∧ i ≤ 2147483647 := has (vI i) (by simp)
  clear has
  replace hM : ∀ a i, -2147483648 ≤ σ a i ∧ σ a i ≤ 2147483647 := hM
  replace hT : TF_Life_ranked o i sz sl lay ρ σ τ k := hT
  unfold TF_Life_ranked at hT
  obtain ⟨hF, hc, h1, h0⟩ := hT
  obtain ⟨fh, fp0, fp1, fp2, fp3, fq0, fq1, fq2, fq3⟩ := (show LLife lay ρ _ from hF)
  refine ⟨Nat.le_of_ble_eq_true rfl, fun _ _ _ => False, fun _ _ _ => 0, 21, ?_, fun _ _ _ _ _ _ h => h.elim⟩
  unfold wps
  simp only [si_iload_n0, si_iload_n1, si_iload_n2, si_iload_n3, si_iload, si_lload_n0, si_lload_n1, si_lload_n2, si_lload_n3, si_lload, si_aload_n0, si_aload_n1, si_aload_n2, si_aload_n3, si_aload, si_istore_n0, si_istore_n1, si_istore_n2, si_istore_n3, si_istore, si_astore_n0, si_astore_n1, si_astore_n2, si_astore_n3, si_astore, si_lstore_n0, si_lstore_n1, si_lstore_n2, si_lstore_n3, si_lstore, si_iconst, si_bipush, si_sipush, si_ldc, si_ldc2_w, si_lconst0, si_lconst1, si_aconst_null, si_iinc, si_dup, si_dup2, si_iadd, si_isub, si_imul, si_idiv, si_irem, si_iand, si_ior, si_ishl, si_ishr, si_ladd, si_lmul, si_lor, si_lxor, si_lshl, si_lushr, si_lcmp, si_i2b, si_i2l, si_l2i, si_icmp_eq, si_icmp_ne, si_icmp_lt, si_icmp_ge, si_icmp_gt, si_icmp_le, si_if_eq, si_if_ne, si_if_lt, si_if_ge, si_if_gt, si_if_le, si_ifnull, si_ifnonnull, si_goto, si_tableswitch, si_lookupswitch, si_getfield, si_putfield, si_getstatic, si_iaload, si_baload, si_laload, si_aaload, si_iastore, si_bastore, si_lastore, si_aastore, si_arraylength, si_new, si_newarray, si_anewarray, si_invokevirtual, si_invokespecial, si_invokestatic, si_ireturn, si_lreturn, si_areturn, si_return_, pI_e, pL_e, pR_e, pA_r, pA_n, pN_n, pN_r, oI_e, oL_e, oA_r, oA_n, lget_e, lrm1_0, lrm2_0, lrm1_i, lrm1_r, lrm1_n, lrm1_l, lrm2_i, lrm2_r, lrm2_n, lrm2_l, popN_0, popN_s, acat_i, acat_l, acat_r, acat_n, stw_0, stw_s, psh_s, psh_n, wgf_r, wgf_i, wgf_b, wgf_n, wgf_m, wpf_i, wpf_r, wpf_b, wnew_e, callE_e, rbk_0, rbk_1, tsw_0, tsw_s, lsw_0, lsw_s, wp_s, wq_t, wq_f, oV_e, pick_0, pick_s, oZ_e, oY_e, r_Life_ranked_0, r_Life_ranked_1, r_Life_ranked_4, r_Life_ranked_5, r_Life_ranked_6, r_Life_ranked_9, r_Life_ranked_12, r_Life_ranked_13, r_Life_ranked_16, r_Life_ranked_17, r_Life_ranked_20, r_Life_ranked_21, r_Life_ranked_22, xf_Life_ranked_21, xf_Life_ranked_24, xd_Life_ranked, xrb_Life_ranked, xin_Life_ranked, fh, fp0, fp1, fp2, fp3, fq0, fq1, fq2, fq3, Nat.reduceAdd, Nat.reduceMul, Nat.reduceEqDiff, reduceIte, Int.reduceNeg, Int.reduceLE, Int.reduceLT, Int.reduceAdd, Int.reduceSub, Int.reduceToNat, true_and, and_true, inR_e, Nat.reduceLT, Nat.reduceLeDiff, reduceCtorEq, Nat.add_zero, Nat.zero_add, or_false, false_or, or_true, true_or, not_true_eq_false, not_false_eq_true, Classical.not_not, Nat.add_eq_zero_iff, and_false, false_and, Int.reduceEq, List.mem_cons, List.not_mem_nil, forall_eq_or_imp, forall_eq, false_implies, implies_true, forall_const, aargs_0, aargs_i, aargs_r, aargs_l, aargs_n, nfT_e, eq_self, and_self, Nat.le_refl, fu_s, fu_fu, iu_iu, iu_s, fu_am, fu_a0, fu_0a, iu_l, Nat.reduceBEq, Int.reduceBEq, T_objInit_e]
  repeat' (first | assumption | intro _ | apply And.intro)
  all_goals first | omega | assumption | (exact h1 (by omega)) | (exact h0 (by omega)) | (exact h1 ⟨by omega, by omega⟩) | (exact h0 ⟨by omega, by omega⟩) | (exact h1 ⟨by omega, by omega, by omega⟩) | (exact h0 ⟨by omega, by omega, by omega⟩)
theorem co_X2_384 : CallOK RX2 (.invokevirtual 96) (2, 1, 0, 0, T_Things_numberOf) := call_V S_Things_numberOf (by decide) (ci := 7) rfl (by decide +kernel) (by decide +kernel) (by decide +kernel) (by decide +kernel) (by decide +kernel) (by decide +kernel) T_Things_numberOf_r
def TF_Life_keeperOf (o : Nat) (t : Nat) (i : Int) (sz sl : Nat) (lay : Nat → Nat × Int) (ρ : Nat → Int → Nat) (σ : Nat → Int → Int) (τ : Nat → Int → Int64) (k : Option AV → Mm → Prop) : Prop := LLife lay ρ o ∧ LThings lay ρ t ∧ (0 ≤ σ t 12 ∧ σ t 12 ≤ 600) ∧ (0 ≤ i ∧ i < 600 ∧ 0 < σ (o + 2) i → σ (o + 1) i = -1 → k (some (vI (0))) (sz, sl, lay, ρ, σ, τ)) ∧ (0 ≤ i ∧ i < 600 ∧ 0 < σ (o + 2) i → (0 ≤ σ (o + 1) i ∧ σ (o + 1) i < σ t 12) → k (some (vI (σ (t + 1) (σ (o + 1) i)))) (sz, sl, lay, ρ, σ, τ)) ∧ (0 ≤ i ∧ i < 600 ∧ 0 < σ (o + 2) i → -1 ≤ σ (o + 1) i ∧ σ (o + 1) i < σ t 12) ∧ (¬ (0 ≤ i ∧ i < 600 ∧ 0 < σ (o + 2) i) → k (some (vI (-1))) (sz, sl, lay, ρ, σ, τ))
def T_Life_keeperOf : Tr := mkT 2 fun o as M k => pR as fun t as => pI as fun i as => as = [] ∧ TF_Life_keeperOf o t i M.1 M.2.1 M.2.2.1 M.2.2.2.1 M.2.2.2.2.1 M.2.2.2.2.2 k
theorem T_Life_keeperOf_e {o : Nat} {t : Nat} {i : Int} {sz sl : Nat} {lay : Nat → Nat × Int} {ρ : Nat → Int → Nat} {σ : Nat → Int → Int} {τ : Nat → Int → Int64} {k : Option AV → Mm → Prop} : T_Life_keeperOf [vR o, vR t, vI i] (sz, sl, lay, ρ, σ, τ) k = (lay o = (12, 0) ∧ TF_Life_keeperOf o t i sz sl lay ρ σ τ k) := by simp [T_Life_keeperOf, mkT_e, pI_e, pR_e, pL_e]
theorem T_Life_keeperOf_r (as : List AV) (M : Mm) (k : Option AV → Mm → Prop) (h : T_Life_keeperOf as M k) : ∃ b As, as = vR b :: As ∧ M.2.2.1 b = (10 + 2, 0) := by
  obtain ⟨b, As, h1, h2, -⟩ := mkT_r h
  exact ⟨b, As, h1, h2⟩
def tb_Life_keeperOf : List (Nat × Option (List Nat) × Instr × List Nat) := [(0, none, .aload_n 0, []), (1, none, .iload_n 2, []), (2, none, .invokevirtual 93, []), (5, none, .ifCond .ne 5, [10]), (8, none, .iconst (-1), []), (9, none, .ireturn, []), (10, none, .aload_n 0, []), (11, none, .getfield 9, []), (14, none, .iload_n 2, []), (15, none, .iaload, []), (16, none, .iconst (-1), []), (17, none, .if_icmp .ne 7, [24]), (20, none, .iconst 0, []), (21, none, .goto 13, [34]), (24, none, .aload_n 1, []), (25, none, .aload_n 0, []), (26, none, .getfield 9, []), (29, none, .iload_n 2, []), (30, none, .iaload, []), (31, none, .invokevirtual 96, []), (34, none, .ireturn, [])]
def P_Life_keeperOf : Nat → Option (List Nat) × Instr × List Nat := plk tb_Life_keeperOf
theorem r_Life_keeperOf_0 : P_Life_keeperOf 0 = (none, .aload_n 0, []) := by decide +kernel
theorem r_Life_keeperOf_1 : P_Life_keeperOf 1 = (none, .iload_n 2, []) := by decide +kernel
theorem r_Life_keeperOf_2 : P_Life_keeperOf 2 = (none, .invokevirtual 93, []) := by decide +kernel
theorem r_Life_keeperOf_5 : P_Life_keeperOf 5 = (none, .ifCond .ne 5, [10]) := by decide +kernel
theorem r_Life_keeperOf_8 : P_Life_keeperOf 8 = (none, .iconst (-1), []) := by decide +kernel
theorem r_Life_keeperOf_9 : P_Life_keeperOf 9 = (none, .ireturn, []) := by decide +kernel
theorem r_Life_keeperOf_10 : P_Life_keeperOf 10 = (none, .aload_n 0, []) := by decide +kernel
theorem r_Life_keeperOf_11 : P_Life_keeperOf 11 = (none, .getfield 9, []) := by decide +kernel
theorem r_Life_keeperOf_14 : P_Life_keeperOf 14 = (none, .iload_n 2, []) := by decide +kernel
theorem r_Life_keeperOf_15 : P_Life_keeperOf 15 = (none, .iaload, []) := by decide +kernel
theorem r_Life_keeperOf_16 : P_Life_keeperOf 16 = (none, .iconst (-1), []) := by decide +kernel
theorem r_Life_keeperOf_17 : P_Life_keeperOf 17 = (none, .if_icmp .ne 7, [24]) := by decide +kernel
theorem r_Life_keeperOf_20 : P_Life_keeperOf 20 = (none, .iconst 0, []) := by decide +kernel
theorem r_Life_keeperOf_21 : P_Life_keeperOf 21 = (none, .goto 13, [34]) := by decide +kernel
theorem r_Life_keeperOf_24 : P_Life_keeperOf 24 = (none, .aload_n 1, []) := by decide +kernel
theorem r_Life_keeperOf_25 : P_Life_keeperOf 25 = (none, .aload_n 0, []) := by decide +kernel
theorem r_Life_keeperOf_26 : P_Life_keeperOf 26 = (none, .getfield 9, []) := by decide +kernel
theorem r_Life_keeperOf_29 : P_Life_keeperOf 29 = (none, .iload_n 2, []) := by decide +kernel
theorem r_Life_keeperOf_30 : P_Life_keeperOf 30 = (none, .iaload, []) := by decide +kernel
theorem r_Life_keeperOf_31 : P_Life_keeperOf 31 = (none, .invokevirtual 96, []) := by decide +kernel
theorem r_Life_keeperOf_34 : P_Life_keeperOf 34 = (none, .ireturn, []) := by decide +kernel
def E_Life_keeperOf : List (Nat × Ent) := [(372, (2, 1, 0, 0, T_Life_lives)), (384, (2, 1, 0, 0, T_Things_numberOf))]
def X_Life_keeperOf : Cx := (llk (0, 0, 9) ftX2, llk 99 ntX2, llk none kcX2, llk none klX2, llk dEnt E_Life_keeperOf, 2, 0, false)
theorem xok_Life_keeperOf : Xok RX2 X_Life_keeperOf := xok_of ftX2_ok ntX2_ok kcX2_ok klX2_ok (E := E_Life_keeperOf) (List.forall_mem_cons.mpr ⟨co_X2_372, List.forall_mem_cons.mpr ⟨co_X2_384, fun _ h => absurd h List.not_mem_nil⟩⟩)
theorem xf_Life_keeperOf_9 : xfl X_Life_keeperOf 9 = (2, 0, 1) := by decide +kernel
theorem xe_Life_keeperOf_372 : xE X_Life_keeperOf (4 * 93 + 0) = (2, 1, 0, 0, T_Life_lives) := rfl
theorem xe_Life_keeperOf_384 : xE X_Life_keeperOf (4 * 96 + 0) = (2, 1, 0, 0, T_Things_numberOf) := rfl
theorem xd_Life_keeperOf : xd X_Life_keeperOf = 2 := rfl
theorem xrb_Life_keeperOf : xrb X_Life_keeperOf = 0 := rfl
theorem xin_Life_keeperOf : xin X_Life_keeperOf = false := rfl
set_option maxHeartbeats 4000000 in
set_option maxRecDepth 100000 in
theorem S_Life_keeperOf : Snd yX2_keeperOf cX2_keeperOf 3 (some .int) T_Life_keeperOf 2 0 0 := by
  refine snd_of (X := X_Life_keeperOf) (P := P_Life_keeperOf) (tb := tb_Life_keeperOf) (own := RX2) (by decide) rfl rfl (by decide +kernel) xok_Life_keeperOf rfl rk0 (fun h => by first | rfl | cases h) ?_
  intro as M k has hM hT0
  obtain ⟨sz, sl, lay, ρ, σ, τ⟩ := M
  obtain ⟨o, as1, e, hlo, hT1⟩ := mkT_r hT0
  clear hT0
  subst e
  obtain ⟨t, as2, e, hT2⟩ := pR_x hT1
  clear hT1
  subst e
  obtain ⟨i, as3, e, hT3⟩ := pI_x hT2
  clear hT2
  subst e
  obtain ⟨e, hT⟩ := hT3
  subst e
  replace hlo : lay o = (12, 0) := hlo
  have r_i : -2147483648 ≤ i ∧ i ≤ 2147483647 := has (vI i) (by simp)
  clear has
  replace hM : ∀ a i, -2147483648 ≤ σ a i ∧ σ a i ≤ 2147483647 := hM
  replace hT : TF_Life_keeperOf o t i sz sl lay ρ σ τ k := hT
  unfold TF_Life_keeperOf at hT
  obtain ⟨hF, hL, hn, h1, h2, hk, h0⟩ := hT
  obtain ⟨fh, fp0, fp1, fp2, fp3, fq0, fq1, fq2, fq3⟩ := (show LLife lay ρ _ from hF)
  obtain ⟨lh, lp0, lp1, lp2, lp3, lp4, lp5, lp6, lp7, lp8, lp9, lp10, lp11, lq0, lq1, lq2, lq3, lq4, lq5, lq6, lq7, lq8, lq9, lq10, lq11⟩ := (show LThings lay ρ _ from hL)
  refine ⟨Nat.le_of_ble_eq_true rfl, fun _ _ _ => False, fun _ _ _ => 0, 29, ?_, fun _ _ _ _ _ _ h => h.elim⟩
  unfold wps
  simp only [si_iload_n0, si_iload_n1, si_iload_n2, si_iload_n3, si_iload, si_lload_n0, si_lload_n1, si_lload_n2, si_lload_n3, si_lload, si_aload_n0, si_aload_n1, si_aload_n2, si_aload_n3, si_aload, si_istore_n0, si_istore_n1, si_istore_n2, si_istore_n3, si_istore, si_astore_n0, si_astore_n1, si_astore_n2, si_astore_n3, si_astore, si_lstore_n0, si_lstore_n1, si_lstore_n2, si_lstore_n3, si_lstore, si_iconst, si_bipush, si_sipush, si_ldc, si_ldc2_w, si_lconst0, si_lconst1, si_aconst_null, si_iinc, si_dup, si_dup2, si_iadd, si_isub, si_imul, si_idiv, si_irem, si_iand, si_ior, si_ishl, si_ishr, si_ladd, si_lmul, si_lor, si_lxor, si_lshl, si_lushr, si_lcmp, si_i2b, si_i2l, si_l2i, si_icmp_eq, si_icmp_ne, si_icmp_lt, si_icmp_ge, si_icmp_gt, si_icmp_le, si_if_eq, si_if_ne, si_if_lt, si_if_ge, si_if_gt, si_if_le, si_ifnull, si_ifnonnull, si_goto, si_tableswitch, si_lookupswitch, si_getfield, si_putfield, si_getstatic, si_iaload, si_baload, si_laload, si_aaload, si_iastore, si_bastore, si_lastore, si_aastore, si_arraylength, si_new, si_newarray, si_anewarray, si_invokevirtual, si_invokespecial, si_invokestatic, si_ireturn, si_lreturn, si_areturn, si_return_, pI_e, pL_e, pR_e, pA_r, pA_n, pN_n, pN_r, oI_e, oL_e, oA_r, oA_n, lget_e, lrm1_0, lrm2_0, lrm1_i, lrm1_r, lrm1_n, lrm1_l, lrm2_i, lrm2_r, lrm2_n, lrm2_l, popN_0, popN_s, acat_i, acat_l, acat_r, acat_n, stw_0, stw_s, psh_s, psh_n, wgf_r, wgf_i, wgf_b, wgf_n, wgf_m, wpf_i, wpf_r, wpf_b, wnew_e, callE_e, rbk_0, rbk_1, tsw_0, tsw_s, lsw_0, lsw_s, wp_s, wq_t, wq_f, oV_e, pick_0, pick_s, oZ_e, oY_e, r_Life_keeperOf_0, r_Life_keeperOf_1, r_Life_keeperOf_2, r_Life_keeperOf_5, r_Life_keeperOf_8, r_Life_keeperOf_9, r_Life_keeperOf_10, r_Life_keeperOf_11, r_Life_keeperOf_14, r_Life_keeperOf_15, r_Life_keeperOf_16, r_Life_keeperOf_17, r_Life_keeperOf_20, r_Life_keeperOf_21, r_Life_keeperOf_24, r_Life_keeperOf_25, r_Life_keeperOf_26, r_Life_keeperOf_29, r_Life_keeperOf_30, r_Life_keeperOf_31, r_Life_keeperOf_34, xf_Life_keeperOf_9, xe_Life_keeperOf_372, xe_Life_keeperOf_384, xd_Life_keeperOf, xrb_Life_keeperOf, xin_Life_keeperOf, T_Life_lives_e, TF_Life_lives, T_Things_numberOf_e, TF_Things_numberOf, fh, fp0, fp1, fp2, fp3, fq0, fq1, fq2, fq3, lh, lp0, lp1, lp2, lp3, lp4, lp5, lp6, lp7, lp8, lp9, lp10, lp11, lq0, lq1, lq2, lq3, lq4, lq5, lq6, lq7, lq8, lq9, lq10, lq11, Nat.reduceAdd, Nat.reduceMul, Nat.reduceEqDiff, reduceIte, Int.reduceNeg, Int.reduceLE, Int.reduceLT, Int.reduceAdd, Int.reduceSub, Int.reduceToNat, true_and, and_true, inR_e, Nat.reduceLT, Nat.reduceLeDiff, reduceCtorEq, Nat.add_zero, Nat.zero_add, or_false, false_or, or_true, true_or, not_true_eq_false, not_false_eq_true, Classical.not_not, Nat.add_eq_zero_iff, and_false, false_and, Int.reduceEq, List.mem_cons, List.not_mem_nil, forall_eq_or_imp, forall_eq, false_implies, implies_true, forall_const, aargs_0, aargs_i, aargs_r, aargs_l, aargs_n, nfT_e, eq_self, and_self, Nat.le_refl, fu_s, fu_fu, iu_iu, iu_s, fu_am, fu_a0, fu_0a, iu_l, Nat.reduceBEq, Int.reduceBEq, T_objInit_e]
  refine ⟨hF, fun a => ⟨by omega, by omega, fun b => ?_, fun b => h1 a b⟩, fun a => h0 a⟩
  have := hk a
  exact ⟨by omega, by omega, hL, hn, fun z => h2 a z, fun z => absurd z (by omega)⟩
theorem co_X2_292 : CallOK RX2 (.invokevirtual 73) (2, 1, 0, 0, T_Life_keeperIdOf) := call_V S_Life_keeperIdOf (by decide) (ci := 2) rfl (by decide +kernel) (by decide +kernel) (by decide +kernel) (by decide +kernel) (by decide +kernel) (by decide +kernel) T_Life_keeperIdOf_r
theorem co_X2_320 : CallOK RX2 (.invokevirtual 80) (2, 1, 0, 0, T_Spread_distanceOf) := call_V S_Spread_distanceOf (by decide) (ci := 5) rfl (by decide +kernel) (by decide +kernel) (by decide +kernel) (by decide +kernel) (by decide +kernel) (by decide +kernel) T_Spread_distanceOf_r
def TF_Life_lastShared (o : Nat) (w : Nat) (a : Int) (b : Int) (sz sl : Nat) (lay : Nat → Nat × Int) (ρ : Nat → Int → Nat) (σ : Nat → Int → Int) (τ : Nat → Int → Int64) (k : Option AV → Mm → Prop) : Prop := LLife lay ρ o ∧ LSpread lay ρ w ∧ ∃ (n : Int) (num : Int → Int) (E : Int → Int → Prop) (bp : Int → Int), SpF n num E (σ (w + 1)) (σ (w + 2)) (σ (w + 3)) bp (σ w 3) ∧ (0 ≤ n ∧ n ≤ 600) ∧ KI E (σ (w + 1)) (σ (w + 2)) (σ w 3) (σ (o + 1)) ∧ Lw (σ (w + 1)) (σ w 3) a ∧ Lw (σ (w + 1)) (σ w 3) b ∧ dv (σ (w + 2)) a + dv (σ (w + 2)) b ≤ 1199 ∧ (∀ s, Ch (σ (o + 1)) s a → Ch (σ (o + 1)) s b → (∀ z, Ch (σ (o + 1)) z a → Ch (σ (o + 1)) z b → Ch (σ (o + 1)) z s) → k (some (vI (s))) (sz, sl, lay, ρ, σ, τ))
def T_Life_lastShared : Tr := mkT 2 fun o as M k => pR as fun w as => pI as fun a as => pI as fun b as => as = [] ∧ TF_Life_lastShared o w a b M.1 M.2.1 M.2.2.1 M.2.2.2.1 M.2.2.2.2.1 M.2.2.2.2.2 k
theorem T_Life_lastShared_e {o : Nat} {w : Nat} {a : Int} {b : Int} {sz sl : Nat} {lay : Nat → Nat × Int} {ρ : Nat → Int → Nat} {σ : Nat → Int → Int} {τ : Nat → Int → Int64} {k : Option AV → Mm → Prop} : T_Life_lastShared [vR o, vR w, vI a, vI b] (sz, sl, lay, ρ, σ, τ) k = (lay o = (12, 0) ∧ TF_Life_lastShared o w a b sz sl lay ρ σ τ k) := by simp [T_Life_lastShared, mkT_e, pI_e, pR_e, pL_e]
theorem T_Life_lastShared_r (as : List AV) (M : Mm) (k : Option AV → Mm → Prop) (h : T_Life_lastShared as M k) : ∃ b As, as = vR b :: As ∧ M.2.2.1 b = (10 + 2, 0) := by
  obtain ⟨b, As, h1, h2, -⟩ := mkT_r h
  exact ⟨b, As, h1, h2⟩
def tb_Life_lastShared : List (Nat × Option (List Nat) × Instr × List Nat) := [(0, none, .iload_n 2, []), (1, none, .istore 4, []), (3, none, .iload_n 3, []), (4, none, .istore 5, []), (6, none, .iconst 0, []), (7, none, .istore 6, []), (9, some [0, 1, 2, 3, 4, 5, 6], .iload 6, []), (11, none, .sipush 1200, []), (14, none, .if_icmp .ge 50, [64]), (17, none, .iload 4, []), (19, none, .iload 5, []), (21, none, .if_icmp .eq 43, [64]), (24, none, .aload_n 1, []), (25, none, .iload 4, []), (27, none, .invokevirtual 80, []), (30, none, .aload_n 1, []), (31, none, .iload 5, []), (33, none, .invokevirtual 80, []), (36, none, .if_icmp .lt 14, [50]), (39, none, .aload_n 0, []), (40, none, .iload 4, []), (42, none, .invokevirtual 73, []), (45, none, .istore 4, []), (47, none, .goto 11, [58]), (50, none, .aload_n 0, []), (51, none, .iload 5, []), (53, none, .invokevirtual 73, []), (56, none, .istore 5, []), (58, none, .iinc 6 1, []), (61, none, .goto (-52), [9]), (64, none, .iload 4, []), (66, none, .ireturn, [])]
def P_Life_lastShared : Nat → Option (List Nat) × Instr × List Nat := plk tb_Life_lastShared
theorem r_Life_lastShared_0 : P_Life_lastShared 0 = (none, .iload_n 2, []) := by decide +kernel
theorem r_Life_lastShared_1 : P_Life_lastShared 1 = (none, .istore 4, []) := by decide +kernel
theorem r_Life_lastShared_3 : P_Life_lastShared 3 = (none, .iload_n 3, []) := by decide +kernel
theorem r_Life_lastShared_4 : P_Life_lastShared 4 = (none, .istore 5, []) := by decide +kernel
theorem r_Life_lastShared_6 : P_Life_lastShared 6 = (none, .iconst 0, []) := by decide +kernel
theorem r_Life_lastShared_7 : P_Life_lastShared 7 = (none, .istore 6, []) := by decide +kernel
theorem r_Life_lastShared_9 : P_Life_lastShared 9 = (some [0, 1, 2, 3, 4, 5, 6], .iload 6, []) := by decide +kernel
theorem r_Life_lastShared_11 : P_Life_lastShared 11 = (none, .sipush 1200, []) := by decide +kernel
theorem r_Life_lastShared_14 : P_Life_lastShared 14 = (none, .if_icmp .ge 50, [64]) := by decide +kernel
theorem r_Life_lastShared_17 : P_Life_lastShared 17 = (none, .iload 4, []) := by decide +kernel
theorem r_Life_lastShared_19 : P_Life_lastShared 19 = (none, .iload 5, []) := by decide +kernel
theorem r_Life_lastShared_21 : P_Life_lastShared 21 = (none, .if_icmp .eq 43, [64]) := by decide +kernel
theorem r_Life_lastShared_24 : P_Life_lastShared 24 = (none, .aload_n 1, []) := by decide +kernel
theorem r_Life_lastShared_25 : P_Life_lastShared 25 = (none, .iload 4, []) := by decide +kernel
theorem r_Life_lastShared_27 : P_Life_lastShared 27 = (none, .invokevirtual 80, []) := by decide +kernel
theorem r_Life_lastShared_30 : P_Life_lastShared 30 = (none, .aload_n 1, []) := by decide +kernel
theorem r_Life_lastShared_31 : P_Life_lastShared 31 = (none, .iload 5, []) := by decide +kernel
theorem r_Life_lastShared_33 : P_Life_lastShared 33 = (none, .invokevirtual 80, []) := by decide +kernel
theorem r_Life_lastShared_36 : P_Life_lastShared 36 = (none, .if_icmp .lt 14, [50]) := by decide +kernel
theorem r_Life_lastShared_39 : P_Life_lastShared 39 = (none, .aload_n 0, []) := by decide +kernel
theorem r_Life_lastShared_40 : P_Life_lastShared 40 = (none, .iload 4, []) := by decide +kernel
theorem r_Life_lastShared_42 : P_Life_lastShared 42 = (none, .invokevirtual 73, []) := by decide +kernel
theorem r_Life_lastShared_45 : P_Life_lastShared 45 = (none, .istore 4, []) := by decide +kernel
theorem r_Life_lastShared_47 : P_Life_lastShared 47 = (none, .goto 11, [58]) := by decide +kernel
theorem r_Life_lastShared_50 : P_Life_lastShared 50 = (none, .aload_n 0, []) := by decide +kernel
theorem r_Life_lastShared_51 : P_Life_lastShared 51 = (none, .iload 5, []) := by decide +kernel
theorem r_Life_lastShared_53 : P_Life_lastShared 53 = (none, .invokevirtual 73, []) := by decide +kernel
theorem r_Life_lastShared_56 : P_Life_lastShared 56 = (none, .istore 5, []) := by decide +kernel
theorem r_Life_lastShared_58 : P_Life_lastShared 58 = (none, .iinc 6 1, []) := by decide +kernel
theorem r_Life_lastShared_61 : P_Life_lastShared 61 = (none, .goto (-52), [9]) := by decide +kernel
theorem r_Life_lastShared_64 : P_Life_lastShared 64 = (none, .iload 4, []) := by decide +kernel
theorem r_Life_lastShared_66 : P_Life_lastShared 66 = (none, .ireturn, []) := by decide +kernel
def E_Life_lastShared : List (Nat × Ent) := [(292, (2, 1, 0, 0, T_Life_keeperIdOf)), (320, (2, 1, 0, 0, T_Spread_distanceOf))]
def X_Life_lastShared : Cx := (llk (0, 0, 9) ftX2, llk 99 ntX2, llk none kcX2, llk none klX2, llk dEnt E_Life_lastShared, 2, 0, false)
theorem xok_Life_lastShared : Xok RX2 X_Life_lastShared := xok_of ftX2_ok ntX2_ok kcX2_ok klX2_ok (E := E_Life_lastShared) (List.forall_mem_cons.mpr ⟨co_X2_292, List.forall_mem_cons.mpr ⟨co_X2_320, fun _ h => absurd h List.not_mem_nil⟩⟩)
theorem xe_Life_lastShared_292 : xE X_Life_lastShared (4 * 73 + 0) = (2, 1, 0, 0, T_Life_keeperIdOf) := rfl
theorem xe_Life_lastShared_320 : xE X_Life_lastShared (4 * 80 + 0) = (2, 1, 0, 0, T_Spread_distanceOf) := rfl
theorem xd_Life_lastShared : xd X_Life_lastShared = 2 := rfl
theorem xrb_Life_lastShared : xrb X_Life_lastShared = 0 := rfl
theorem xin_Life_lastShared : xin X_Life_lastShared = false := rfl
set_option maxHeartbeats 4000000 in
set_option maxRecDepth 100000 in
theorem S_Life_lastShared : Snd yX2_lastShared cX2_lastShared 7 (some .int) T_Life_lastShared 2 0 0 := by
  refine snd_of (X := X_Life_lastShared) (P := P_Life_lastShared) (tb := tb_Life_lastShared) (own := RX2) (by decide) rfl rfl (by decide +kernel) xok_Life_lastShared rfl rk0 (fun h => by first | rfl | cases h) ?_
  intro as M k has hM hT0
  obtain ⟨sz, sl, lay, ρ, σ, τ⟩ := M
  obtain ⟨o, as1, e, hlo, hT1⟩ := mkT_r hT0
  clear hT0
  subst e
  obtain ⟨w, as2, e, hT2⟩ := pR_x hT1
  clear hT1
  subst e
  obtain ⟨a, as3, e, hT3⟩ := pI_x hT2
  clear hT2
  subst e
  obtain ⟨b, as4, e, hT4⟩ := pI_x hT3
  clear hT3
  subst e
  obtain ⟨e, hT⟩ := hT4
  subst e
  replace hlo : lay o = (12, 0) := hlo
  have r_a : -2147483648 ≤ a ∧ a ≤ 2147483647 := has (vI a) (by simp)
  have r_b : -2147483648 ≤ b ∧ b ≤ 2147483647 := has (vI b) (by simp)
  clear has
  replace hM : ∀ a i, -2147483648 ≤ σ a i ∧ σ a i ≤ 2147483647 := hM
  replace hT : TF_Life_lastShared o w a b sz sl lay ρ σ τ k := hT
  unfold TF_Life_lastShared at hT
  obtain ⟨hF, hS, n, num, E, bp, hI, hn, hK, ha, hb, hd, hT⟩ := hT
  have hcn := hI.cn hn.1
  obtain ⟨J, hJd⟩ : ∃ J : Nat → List AV → Mm → Prop, J = (fun c vs M1 => c = 9 ∧ ∃ (x y i : Int), LSI (σ (o + 1)) a b x y ∧ Lw (σ (w + 1)) (σ w 3) x ∧ Lw (σ (w + 1)) (σ w 3) y ∧ 0 ≤ i ∧ i + dv (σ (w + 2)) x + dv (σ (w + 2)) y ≤ 1199 ∧ vs = [vR o, vR w, vI a, vI b, vI x, vI y, vI i] ∧ M1 = (sz, sl, lay, ρ, σ, τ)) := ⟨_, rfl⟩
  obtain ⟨μ, hμ⟩ : ∃ μ : Nat → List AV → Mm → Nat, μ = (fun _ vs _ => (1200 - gI (vs.getD 6 vN)).toNat) := ⟨_, rfl⟩
  refine ⟨Nat.le_of_ble_eq_true rfl, J, μ, 40, ?_, ?_⟩
  · obtain ⟨fh, fp0, fp1, fp2, fp3, fq0, fq1, fq2, fq3⟩ := (show LLife lay ρ _ from hF)
    obtain ⟨sh, sp0, sp1, sp2, sq0, sq1, sq2⟩ := (show LSpread lay ρ _ from hS)
    unfold wps
    simp only [si_iload_n0, si_iload_n1, si_iload_n2, si_iload_n3, si_iload, si_lload_n0, si_lload_n1, si_lload_n2, si_lload_n3, si_lload, si_aload_n0, si_aload_n1, si_aload_n2, si_aload_n3, si_aload, si_istore_n0, si_istore_n1, si_istore_n2, si_istore_n3, si_istore, si_astore_n0, si_astore_n1, si_astore_n2, si_astore_n3, si_astore, si_lstore_n0, si_lstore_n1, si_lstore_n2, si_lstore_n3, si_lstore, si_iconst, si_bipush, si_sipush, si_ldc, si_ldc2_w, si_lconst0, si_lconst1, si_aconst_null, si_iinc, si_dup, si_dup2, si_iadd, si_isub, si_imul, si_idiv, si_irem, si_iand, si_ior, si_ishl, si_ishr, si_ladd, si_lmul, si_lor, si_lxor, si_lshl, si_lushr, si_lcmp, si_i2b, si_i2l, si_l2i, si_icmp_eq, si_icmp_ne, si_icmp_lt, si_icmp_ge, si_icmp_gt, si_icmp_le, si_if_eq, si_if_ne, si_if_lt, si_if_ge, si_if_gt, si_if_le, si_ifnull, si_ifnonnull, si_goto, si_tableswitch, si_lookupswitch, si_getfield, si_putfield, si_getstatic, si_iaload, si_baload, si_laload, si_aaload, si_iastore, si_bastore, si_lastore, si_aastore, si_arraylength, si_new, si_newarray, si_anewarray, si_invokevirtual, si_invokespecial, si_invokestatic, si_ireturn, si_lreturn, si_areturn, si_return_, pI_e, pL_e, pR_e, pA_r, pA_n, pN_n, pN_r, oI_e, oL_e, oA_r, oA_n, lget_e, lrm1_0, lrm2_0, lrm1_i, lrm1_r, lrm1_n, lrm1_l, lrm2_i, lrm2_r, lrm2_n, lrm2_l, popN_0, popN_s, acat_i, acat_l, acat_r, acat_n, stw_0, stw_s, psh_s, psh_n, wgf_r, wgf_i, wgf_b, wgf_n, wgf_m, wpf_i, wpf_r, wpf_b, wnew_e, callE_e, rbk_0, rbk_1, tsw_0, tsw_s, lsw_0, lsw_s, wp_s, wq_t, wq_f, oV_e, pick_0, pick_s, oZ_e, oY_e, r_Life_lastShared_0, r_Life_lastShared_1, r_Life_lastShared_3, r_Life_lastShared_4, r_Life_lastShared_6, r_Life_lastShared_7, r_Life_lastShared_9, r_Life_lastShared_11, r_Life_lastShared_14, r_Life_lastShared_17, r_Life_lastShared_19, r_Life_lastShared_21, r_Life_lastShared_24, r_Life_lastShared_25, r_Life_lastShared_27, r_Life_lastShared_30, r_Life_lastShared_31, r_Life_lastShared_33, r_Life_lastShared_36, r_Life_lastShared_39, r_Life_lastShared_40, r_Life_lastShared_42, r_Life_lastShared_45, r_Life_lastShared_47, r_Life_lastShared_50, r_Life_lastShared_51, r_Life_lastShared_53, r_Life_lastShared_56, r_Life_lastShared_58, r_Life_lastShared_61, r_Life_lastShared_64, r_Life_lastShared_66, xe_Life_lastShared_292, xe_Life_lastShared_320, xd_Life_lastShared, xrb_Life_lastShared, xin_Life_lastShared, T_Life_keeperIdOf_e, TF_Life_keeperIdOf, T_Spread_distanceOf_e, TF_Spread_distanceOf, fh, fp0, fp1, fp2, fp3, fq0, fq1, fq2, fq3, sh, sp0, sp1, sp2, sq0, sq1, sq2, Nat.reduceAdd, Nat.reduceMul, Nat.reduceEqDiff, reduceIte, Int.reduceNeg, Int.reduceLE, Int.reduceLT, Int.reduceAdd, Int.reduceSub, Int.reduceToNat, true_and, and_true, inR_e, Nat.reduceLT, Nat.reduceLeDiff, reduceCtorEq, Nat.add_zero, Nat.zero_add, or_false, false_or, or_true, true_or, not_true_eq_false, not_false_eq_true, Classical.not_not, Nat.add_eq_zero_iff, and_false, false_and, Int.reduceEq, List.mem_cons, List.not_mem_nil, forall_eq_or_imp, forall_eq, false_implies, implies_true, forall_const, aargs_0, aargs_i, aargs_r, aargs_l, aargs_n, nfT_e, eq_self, and_self, Nat.le_refl, fu_s, fu_fu, iu_iu, iu_s, fu_am, fu_a0, fu_0a, iu_l, Nat.reduceBEq, Int.reduceBEq, T_objInit_e]
    clear fp0 fp1 fp2 fp3 sp0 sp1 sp2
    rw [hJd]
    exact ⟨rfl, a, b, 0, ⟨Ch.rf, Ch.rf, fun z h1 h2 => ⟨h1, h2⟩⟩, ha, hb, by omega, by omega, rfl, rfl⟩
  · intro cp vs M1 hvs hM1 hlen hJ
    rw [hJd] at hJ
    obtain ⟨rfl, x, y, i, g1, g2, g3, g4, g5, rfl, rfl⟩ := hJ
    have dx := hI.dvw g2
    have dy := hI.dvw g3
    have lx := hI.lw_c g2
    have ly := hI.lw_c g3
    have m1 : dv (σ (w + 2)) (-1) = 0 := dv_m
    have rx : x = -1 ∨ (0 ≤ x ∧ x < 600 ∧ Lv (σ (w + 1)) (σ w 3) x ∧ dv (σ (w + 2)) x = σ (w + 2) x) := by
      rcases lx with e | e
      · exact Or.inl e
      · have := hI.lv_R e
        exact Or.inr ⟨by omega, by omega, e, dv_p this.1⟩
    have ry : y = -1 ∨ (0 ≤ y ∧ y < 600 ∧ Lv (σ (w + 1)) (σ w 3) y ∧ dv (σ (w + 2)) y = σ (w + 2) y) := by
      rcases ly with e | e
      · exact Or.inl e
      · have := hI.lv_R e
        exact Or.inr ⟨by omega, by omega, e, dv_p this.1⟩
    have goL : ¬ x = y → 0 ≤ x → dv (σ (w + 2)) y ≤ dv (σ (w + 2)) x → LSI (σ (o + 1)) a b (σ (o + 1) x) y ∧ Lw (σ (w + 1)) (σ w 3) (σ (o + 1) x) ∧ dv (σ (w + 2)) (σ (o + 1) x) < dv (σ (w + 2)) x := fun q q0 q1 => LSI.l hI hK (g2.v q0) g3 q q1 g1
    have goR : ¬ x = y → 0 ≤ y → dv (σ (w + 2)) x < dv (σ (w + 2)) y → LSI (σ (o + 1)) a b x (σ (o + 1) y) ∧ Lw (σ (w + 1)) (σ w 3) (σ (o + 1) y) ∧ dv (σ (w + 2)) (σ (o + 1) y) < dv (σ (w + 2)) y := fun q q0 q1 => LSI.r hI hK g2 (g3.v q0) q q1 g1
    (obtain ⟨fh, fp0, fp1, fp2, fp3, fq0, fq1, fq2, fq3⟩ := (show LLife lay ρ _ from hF); obtain ⟨sh, sp0, sp1, sp2, sq0, sq1, sq2⟩ := (show LSpread lay ρ _ from hS); unfold wps; simp only [Option.getD_some, List.zip_cons_cons, List.zip_nil_left, List.zip_nil_right, List.zip_nil_right, si_iload_n0, si_iload_n1, si_iload_n2, si_iload_n3, si_iload, si_lload_n0, si_lload_n1, si_lload_n2, si_lload_n3, si_lload, si_aload_n0, si_aload_n1, si_aload_n2, si_aload_n3, si_aload, si_istore_n0, si_istore_n1, si_istore_n2, si_istore_n3, si_istore, si_astore_n0, si_astore_n1, si_astore_n2, si_astore_n3, si_astore, si_lstore_n0, si_lstore_n1, si_lstore_n2, si_lstore_n3, si_lstore, si_iconst, si_bipush, si_sipush, si_ldc, si_ldc2_w, si_lconst0, si_lconst1, si_aconst_null, si_iinc, si_dup, si_dup2, si_iadd, si_isub, si_imul, si_idiv, si_irem, si_iand, si_ior, si_ishl, si_ishr, si_ladd, si_lmul, si_lor, si_lxor, si_lshl, si_lushr, si_lcmp, si_i2b, si_i2l, si_l2i, si_icmp_eq, si_icmp_ne, si_icmp_lt, si_icmp_ge, si_icmp_gt, si_icmp_le, si_if_eq, si_if_ne, si_if_lt, si_if_ge, si_if_gt, si_if_le, si_ifnull, si_ifnonnull, si_goto, si_tableswitch, si_lookupswitch, si_getfield, si_putfield, si_getstatic, si_iaload, si_baload, si_laload, si_aaload, si_iastore, si_bastore, si_lastore, si_aastore, si_arraylength, si_new, si_newarray, si_anewarray, si_invokevirtual, si_invokespecial, si_invokestatic, si_ireturn, si_lreturn, si_areturn, si_return_, pI_e, pL_e, pR_e, pA_r, pA_n, pN_n, pN_r, oI_e, oL_e, oA_r, oA_n, lget_e, lrm1_0, lrm2_0, lrm1_i, lrm1_r, lrm1_n, lrm1_l, lrm2_i, lrm2_r, lrm2_n, lrm2_l, popN_0, popN_s, acat_i, acat_l, acat_r, acat_n, stw_0, stw_s, psh_s, psh_n, wgf_r, wgf_i, wgf_b, wgf_n, wgf_m, wpf_i, wpf_r, wpf_b, wnew_e, callE_e, rbk_0, rbk_1, tsw_0, tsw_s, lsw_0, lsw_s, wp_s, wq_t, wq_f, oV_e, pick_0, pick_s, oZ_e, oY_e, r_Life_lastShared_0, r_Life_lastShared_1, r_Life_lastShared_3, r_Life_lastShared_4, r_Life_lastShared_6, r_Life_lastShared_7, r_Life_lastShared_9, r_Life_lastShared_11, r_Life_lastShared_14, r_Life_lastShared_17, r_Life_lastShared_19, r_Life_lastShared_21, r_Life_lastShared_24, r_Life_lastShared_25, r_Life_lastShared_27, r_Life_lastShared_30, r_Life_lastShared_31, r_Life_lastShared_33, r_Life_lastShared_36, r_Life_lastShared_39, r_Life_lastShared_40, r_Life_lastShared_42, r_Life_lastShared_45, r_Life_lastShared_47, r_Life_lastShared_50, r_Life_lastShared_51, r_Life_lastShared_53, r_Life_lastShared_56, r_Life_lastShared_58, r_Life_lastShared_61, r_Life_lastShared_64, r_Life_lastShared_66, xe_Life_lastShared_292, xe_Life_lastShared_320, xd_Life_lastShared, xrb_Life_lastShared, xin_Life_lastShared, T_Life_keeperIdOf_e, TF_Life_keeperIdOf, T_Spread_distanceOf_e, TF_Spread_distanceOf, fh, fp0, fp1, fp2, fp3, fq0, fq1, fq2, fq3, sh, sp0, sp1, sp2, sq0, sq1, sq2, Nat.reduceAdd, Nat.reduceMul, Nat.reduceEqDiff, reduceIte, Int.reduceNeg, Int.reduceLE, Int.reduceLT, Int.reduceAdd, Int.reduceSub, Int.reduceToNat, true_and, and_true, inR_e, Nat.reduceLT, Nat.reduceLeDiff, reduceCtorEq, Nat.add_zero, Nat.zero_add, or_false, false_or, or_true, true_or, not_true_eq_false, not_false_eq_true, Classical.not_not, Nat.add_eq_zero_iff, and_false, false_and, Int.reduceEq, List.mem_cons, List.not_mem_nil, forall_eq_or_imp, forall_eq, false_implies, implies_true, forall_const, aargs_0, aargs_i, aargs_r, aargs_l, aargs_n, nfT_e, eq_self, and_self, Nat.le_refl, fu_s, fu_fu, iu_iu, iu_s, fu_am, fu_a0, fu_0a, iu_l, Nat.reduceBEq, Int.reduceBEq, T_objInit_e]; clear fp0 fp1 fp2 fp3 sp0 sp1 sp2)
    have L : ¬ x = y → 0 ≤ x → dv (σ (w + 2)) y ≤ dv (σ (w + 2)) x → J 9 [vR o, vR w, vI a, vI b, vI (σ (o + 1) x), vI y, vI (i + 1)] (sz, sl, lay, ρ, σ, τ) := by
      intro q1 q2 q3
      obtain ⟨w1, w2, w3⟩ := goL q1 q2 q3
      rw [hJd]
      exact ⟨rfl, σ (o + 1) x, y, i + 1, w1, w2, g3, by omega, by omega, rfl, rfl⟩
    have R : ¬ x = y → 0 ≤ y → dv (σ (w + 2)) x < dv (σ (w + 2)) y → J 9 [vR o, vR w, vI a, vI b, vI x, vI (σ (o + 1) y), vI (i + 1)] (sz, sl, lay, ρ, σ, τ) := by
      intro q1 q2 q3
      obtain ⟨w1, w2, w3⟩ := goR q1 q2 q3
      rw [hJd]
      exact ⟨rfl, x, σ (o + 1) y, i + 1, w1, g2, w2, by omega, by omega, rfl, rfl⟩
    have rx2 : x = -1 ∧ dv (σ (w + 2)) x = 0 ∨ (0 ≤ x ∧ x < 600 ∧ dv (σ (w + 2)) x = σ (w + 2) x ∧ 1 ≤ σ (w + 2) x) := by
      rcases rx with e | e
      · rw [e]; exact Or.inl ⟨rfl, m1⟩
      · exact Or.inr ⟨e.1, e.2.1, e.2.2.2, by have := dx.2.2 e.1; omega⟩
    have ry2 : y = -1 ∧ dv (σ (w + 2)) y = 0 ∨ (0 ≤ y ∧ y < 600 ∧ dv (σ (w + 2)) y = σ (w + 2) y ∧ 1 ≤ σ (w + 2) y) := by
      rcases ry with e | e
      · rw [e]; exact Or.inl ⟨rfl, m1⟩
      · exact Or.inr ⟨e.1, e.2.1, e.2.2.2, by have := dy.2.2 e.1; omega⟩
    clear rx ry lx ly m1 goL goR
    refine ⟨fun h => by omega, fun h => ⟨fun q => ?_, fun q => ?_⟩⟩
    · subst q
      exact hT x g1.1 g1.2.1 (fun z h1 h2 => (g1.2.2 z h1 h2).1)
    · repeat' (first | assumption | intro _ | apply And.intro)
      all_goals first | omega | (exact L (by omega) (by omega) (by omega)) | (exact R (by omega) (by omega) (by omega)) | (exfalso; omega) | exact (by rw [hμ]; simp only [gI_e, List.getD_cons_succ, List.getD_cons_zero]; omega)

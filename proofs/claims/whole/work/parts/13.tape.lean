def TF_PR_widthOf (s : Int) (sz sl : Nat) (lay : Nat → Nat × Int) (ρ : Nat → Int → Nat) (σ : Nat → Int → Int) (τ : Nat → Int → Int64) (k : Option AV → Mm → Prop) : Prop := Wd lay ρ σ ∧ k (some (vI (wd s))) (sz, sl, lay, ρ, σ, τ)
def T_PR_widthOf : Tr := fun as M k => pI as fun s as => as = [] ∧ TF_PR_widthOf s M.1 M.2.1 M.2.2.1 M.2.2.2.1 M.2.2.2.2.1 M.2.2.2.2.2 k
theorem T_PR_widthOf_e {s : Int} {sz sl : Nat} {lay : Nat → Nat × Int} {ρ : Nat → Int → Nat} {σ : Nat → Int → Int} {τ : Nat → Int → Int64} {k : Option AV → Mm → Prop} : T_PR_widthOf [vI s] (sz, sl, lay, ρ, σ, τ) k = TF_PR_widthOf s sz sl lay ρ σ τ k := by simp [T_PR_widthOf, pI_e, pR_e, pL_e]
def tb_PR_widthOf : List (Nat × Option (List Nat) × Instr × List Nat) := [(0, none, .iload_n 0, []), (1, none, .ifCond .lt 11, [12]), (4, none, .iload_n 0, []), (5, none, .getstatic 172, []), (8, none, .arraylength, []), (9, none, .if_icmp .lt 7, [16]), (12, none, .iconst 0, []), (13, none, .goto 8, [21]), (16, none, .getstatic 172, []), (19, none, .iload_n 0, []), (20, none, .iaload, []), (21, none, .ireturn, [])]
def P_PR_widthOf : Nat → Option (List Nat) × Instr × List Nat := plk tb_PR_widthOf
theorem r_PR_widthOf_0 : P_PR_widthOf 0 = (none, .iload_n 0, []) := by decide +kernel
theorem r_PR_widthOf_1 : P_PR_widthOf 1 = (none, .ifCond .lt 11, [12]) := by decide +kernel
theorem r_PR_widthOf_4 : P_PR_widthOf 4 = (none, .iload_n 0, []) := by decide +kernel
theorem r_PR_widthOf_5 : P_PR_widthOf 5 = (none, .getstatic 172, []) := by decide +kernel
theorem r_PR_widthOf_8 : P_PR_widthOf 8 = (none, .arraylength, []) := by decide +kernel
theorem r_PR_widthOf_9 : P_PR_widthOf 9 = (none, .if_icmp .lt 7, [16]) := by decide +kernel
theorem r_PR_widthOf_12 : P_PR_widthOf 12 = (none, .iconst 0, []) := by decide +kernel
theorem r_PR_widthOf_13 : P_PR_widthOf 13 = (none, .goto 8, [21]) := by decide +kernel
theorem r_PR_widthOf_16 : P_PR_widthOf 16 = (none, .getstatic 172, []) := by decide +kernel
theorem r_PR_widthOf_19 : P_PR_widthOf 19 = (none, .iload_n 0, []) := by decide +kernel
theorem r_PR_widthOf_20 : P_PR_widthOf 20 = (none, .iaload, []) := by decide +kernel
theorem r_PR_widthOf_21 : P_PR_widthOf 21 = (none, .ireturn, []) := by decide +kernel
def E_PR_widthOf : List (Nat × Ent) := []
def X_PR_widthOf : Cx := (llk (0, 0, 9) ftX10, llk 99 ntX10, llk none kcX10, llk none klX10, llk dEnt E_PR_widthOf, 0, 0, false)
theorem xok_PR_widthOf : Xok RX10 X_PR_widthOf := xok_of ftX10_ok ntX10_ok kcX10_ok klX10_ok (E := E_PR_widthOf) (fun _ h => absurd h List.not_mem_nil)
theorem xn_PR_widthOf_172 : xnc X_PR_widthOf 172 = 77 := by decide +kernel
theorem xd_PR_widthOf : xd X_PR_widthOf = 0 := rfl
theorem xrb_PR_widthOf : xrb X_PR_widthOf = 0 := rfl
theorem xin_PR_widthOf : xin X_PR_widthOf = false := rfl
set_option maxHeartbeats 4000000 in
set_option maxRecDepth 100000 in
theorem S_PR_widthOf : Snd yX10_widthOf cX10_widthOf 1 (some .int) T_PR_widthOf 0 0 0 := by
  refine snd_of (X := X_PR_widthOf) (P := P_PR_widthOf) (tb := tb_PR_widthOf) (own := RX10) (by decide) rfl rfl (by decide +kernel) xok_PR_widthOf rfl rk0 (fun h => by first | rfl | cases h) ?_
  intro as M k has hM hT0
  obtain ⟨sz, sl, lay, ρ, σ, τ⟩ := M
  obtain ⟨s, as1, e, hT1⟩ := pI_x hT0
  clear hT0
  subst e
  obtain ⟨e, hT⟩ := hT1
  subst e
  have r_s : -2147483648 ≤ s ∧ s ≤ 2147483647 := has (vI s) (by simp)
  clear has
  replace hM : ∀ a i, -2147483648 ≤ σ a i ∧ σ a i ≤ 2147483647 := hM
  replace hT : TF_PR_widthOf s sz sl lay ρ σ τ k := hT
  unfold TF_PR_widthOf at hT
  obtain ⟨⟨w, w0, w1, w2, w3, w4, w5⟩, hT⟩ := hT
  refine ⟨Nat.le_of_ble_eq_true rfl, fun _ _ _ => False, fun _ _ _ => 0, 20, ?_, fun _ _ _ _ _ _ h => h.elim⟩
  unfold wps
  simp only [si_iload_n0, si_iload_n1, si_iload_n2, si_iload_n3, si_iload, si_lload_n0, si_lload_n1, si_lload_n2, si_lload_n3, si_lload, si_aload_n0, si_aload_n1, si_aload_n2, si_aload_n3, si_aload, si_istore_n0, si_istore_n1, si_istore_n2, si_istore_n3, si_istore, si_astore_n0, si_astore_n1, si_astore_n2, si_astore_n3, si_astore, si_lstore_n0, si_lstore_n1, si_lstore_n2, si_lstore_n3, si_lstore, si_iconst, si_bipush, si_sipush, si_ldc, si_ldc2_w, si_lconst0, si_lconst1, si_aconst_null, si_iinc, si_dup, si_dup2, si_iadd, si_isub, si_imul, si_idiv, si_irem, si_iand, si_ior, si_ishl, si_ishr, si_ladd, si_lmul, si_lor, si_lxor, si_lshl, si_lushr, si_lcmp, si_i2b, si_i2l, si_l2i, si_icmp_eq, si_icmp_ne, si_icmp_lt, si_icmp_ge, si_icmp_gt, si_icmp_le, si_if_eq, si_if_ne, si_if_lt, si_if_ge, si_if_gt, si_if_le, si_ifnull, si_ifnonnull, si_goto, si_tableswitch, si_lookupswitch, si_getfield, si_putfield, si_getstatic, si_iaload, si_baload, si_laload, si_aaload, si_iastore, si_bastore, si_lastore, si_aastore, si_arraylength, si_new, si_newarray, si_anewarray, si_invokevirtual, si_invokespecial, si_invokestatic, si_ireturn, si_lreturn, si_areturn, si_return_, pI_e, pL_e, pR_e, pA_r, pA_n, pN_n, pN_r, oI_e, oL_e, oA_r, oA_n, lget_e, lrm1_0, lrm2_0, lrm1_i, lrm1_r, lrm1_n, lrm1_l, lrm2_i, lrm2_r, lrm2_n, lrm2_l, popN_0, popN_s, acat_i, acat_l, acat_r, acat_n, stw_0, stw_s, psh_s, psh_n, wgf_r, wgf_i, wgf_b, wgf_n, wgf_m, wpf_i, wpf_r, wpf_b, wnew_e, callE_e, rbk_0, rbk_1, tsw_0, tsw_s, lsw_0, lsw_s, wp_s, wq_t, wq_f, oV_e, pick_0, pick_s, oZ_e, oY_e, r_PR_widthOf_0, r_PR_widthOf_1, r_PR_widthOf_4, r_PR_widthOf_5, r_PR_widthOf_8, r_PR_widthOf_9, r_PR_widthOf_12, r_PR_widthOf_13, r_PR_widthOf_16, r_PR_widthOf_19, r_PR_widthOf_20, r_PR_widthOf_21, xn_PR_widthOf_172, xd_PR_widthOf, xrb_PR_widthOf, xin_PR_widthOf, w, Nat.reduceAdd, Nat.reduceMul, Nat.reduceEqDiff, reduceIte, Int.reduceNeg, Int.reduceLE, Int.reduceLT, Int.reduceAdd, Int.reduceSub, Int.reduceToNat, true_and, and_true, inR_e, Nat.reduceLT, Nat.reduceLeDiff, reduceCtorEq, Nat.add_zero, Nat.zero_add, or_false, false_or, or_true, true_or, not_true_eq_false, not_false_eq_true, Classical.not_not, Nat.add_eq_zero_iff, and_false, false_and, Int.reduceEq, List.mem_cons, List.not_mem_nil, forall_eq_or_imp, forall_eq, false_implies, implies_true, forall_const, aargs_0, aargs_i, aargs_r, aargs_l, aargs_n, nfT_e, eq_self, and_self, Nat.le_refl, fu_s, fu_fu, iu_iu, iu_s, fu_am, fu_a0, fu_0a, iu_l, Nat.reduceBEq, Int.reduceBEq, T_objInit_e]
  refine ⟨fun h => by rw [wd_o (by omega)] at hT; exact hT, fun h => ⟨fun h2 => ⟨by omega, h2, ?_⟩, fun h2 => by rw [wd_o (by omega)] at hT; exact hT⟩⟩
  have h3 : s = 0 ∨ s = 1 ∨ s = 2 ∨ s = 3 ∨ s = 4 ∨ s = 5 := by omega
  rcases h3 with rfl | rfl | rfl | rfl | rfl | rfl
  · rw [w0]; exact hT
  · rw [w1]; exact hT
  · rw [w2]; exact hT
  · rw [w3]; exact hT
  · rw [w4]; exact hT
  · rw [w5]; exact hT
def TF_PR_isSort (s : Int) (sz sl : Nat) (lay : Nat → Nat × Int) (ρ : Nat → Int → Nat) (σ : Nat → Int → Int) (τ : Nat → Int → Int64) (k : Option AV → Mm → Prop) : Prop := Wd lay ρ σ ∧ (0 ≤ s ∧ s < 6 → k (some (vI 1)) (sz, sl, lay, ρ, σ, τ)) ∧ (¬ (0 ≤ s ∧ s < 6) → k (some (vI 0)) (sz, sl, lay, ρ, σ, τ))
def T_PR_isSort : Tr := fun as M k => pI as fun s as => as = [] ∧ TF_PR_isSort s M.1 M.2.1 M.2.2.1 M.2.2.2.1 M.2.2.2.2.1 M.2.2.2.2.2 k
theorem T_PR_isSort_e {s : Int} {sz sl : Nat} {lay : Nat → Nat × Int} {ρ : Nat → Int → Nat} {σ : Nat → Int → Int} {τ : Nat → Int → Int64} {k : Option AV → Mm → Prop} : T_PR_isSort [vI s] (sz, sl, lay, ρ, σ, τ) k = TF_PR_isSort s sz sl lay ρ σ τ k := by simp [T_PR_isSort, pI_e, pR_e, pL_e]
def tb_PR_isSort : List (Nat × Option (List Nat) × Instr × List Nat) := [(0, none, .iload_n 0, []), (1, none, .ifCond .lt 15, [16]), (4, none, .iload_n 0, []), (5, none, .getstatic 172, []), (8, none, .arraylength, []), (9, none, .if_icmp .ge 7, [16]), (12, none, .iconst 1, []), (13, none, .goto 4, [17]), (16, none, .iconst 0, []), (17, none, .ireturn, [])]
def P_PR_isSort : Nat → Option (List Nat) × Instr × List Nat := plk tb_PR_isSort
theorem r_PR_isSort_0 : P_PR_isSort 0 = (none, .iload_n 0, []) := by decide +kernel
theorem r_PR_isSort_1 : P_PR_isSort 1 = (none, .ifCond .lt 15, [16]) := by decide +kernel
theorem r_PR_isSort_4 : P_PR_isSort 4 = (none, .iload_n 0, []) := by decide +kernel
theorem r_PR_isSort_5 : P_PR_isSort 5 = (none, .getstatic 172, []) := by decide +kernel
theorem r_PR_isSort_8 : P_PR_isSort 8 = (none, .arraylength, []) := by decide +kernel
theorem r_PR_isSort_9 : P_PR_isSort 9 = (none, .if_icmp .ge 7, [16]) := by decide +kernel
theorem r_PR_isSort_12 : P_PR_isSort 12 = (none, .iconst 1, []) := by decide +kernel
theorem r_PR_isSort_13 : P_PR_isSort 13 = (none, .goto 4, [17]) := by decide +kernel
theorem r_PR_isSort_16 : P_PR_isSort 16 = (none, .iconst 0, []) := by decide +kernel
theorem r_PR_isSort_17 : P_PR_isSort 17 = (none, .ireturn, []) := by decide +kernel
def E_PR_isSort : List (Nat × Ent) := []
def X_PR_isSort : Cx := (llk (0, 0, 9) ftX10, llk 99 ntX10, llk none kcX10, llk none klX10, llk dEnt E_PR_isSort, 0, 1, false)
theorem xok_PR_isSort : Xok RX10 X_PR_isSort := xok_of ftX10_ok ntX10_ok kcX10_ok klX10_ok (E := E_PR_isSort) (fun _ h => absurd h List.not_mem_nil)
theorem xn_PR_isSort_172 : xnc X_PR_isSort 172 = 77 := by decide +kernel
theorem xd_PR_isSort : xd X_PR_isSort = 0 := rfl
theorem xrb_PR_isSort : xrb X_PR_isSort = 1 := rfl
theorem xin_PR_isSort : xin X_PR_isSort = false := rfl
set_option maxHeartbeats 4000000 in
set_option maxRecDepth 100000 in
theorem S_PR_isSort : Snd yX10_isSort cX10_isSort 1 (some .boolean) T_PR_isSort 0 0 0 := by
  refine snd_of (X := X_PR_isSort) (P := P_PR_isSort) (tb := tb_PR_isSort) (own := RX10) (by decide) rfl rfl (by decide +kernel) xok_PR_isSort rfl rk1 (fun h => by first | rfl | cases h) ?_
  intro as M k has hM hT0
  obtain ⟨sz, sl, lay, ρ, σ, τ⟩ := M
  obtain ⟨s, as1, e, hT1⟩ := pI_x hT0
  clear hT0
  subst e
  obtain ⟨e, hT⟩ := hT1
  subst e
  have r_s : -2147483648 ≤ s ∧ s ≤ 2147483647 := has (vI s) (by simp)
  clear has
  replace hM : ∀ a i, -2147483648 ≤ σ a i ∧ σ a i ≤ 2147483647 := hM
  replace hT : TF_PR_isSort s sz sl lay ρ σ τ k := hT
  unfold TF_PR_isSort at hT
  obtain ⟨⟨w, -⟩, h1, h0⟩ := hT
  refine ⟨Nat.le_of_ble_eq_true rfl, fun _ _ _ => False, fun _ _ _ => 0, 18, ?_, fun _ _ _ _ _ _ h => h.elim⟩
  unfold wps
  simp only [si_iload_n0, si_iload_n1, si_iload_n2, si_iload_n3, si_iload, si_lload_n0, si_lload_n1, si_lload_n2, si_lload_n3, si_lload, si_aload_n0, si_aload_n1, si_aload_n2, si_aload_n3, si_aload, si_istore_n0, si_istore_n1, si_istore_n2, si_istore_n3, si_istore, si_astore_n0, si_astore_n1, si_astore_n2, si_astore_n3, si_astore, si_lstore_n0, si_lstore_n1, si_lstore_n2, si_lstore_n3, si_lstore, si_iconst, si_bipush, si_sipush, si_ldc, si_ldc2_w, si_lconst0, si_lconst1, si_aconst_null, si_iinc, si_dup, si_dup2, si_iadd, si_isub, si_imul, si_idiv, si_irem, si_iand, si_ior, si_ishl, si_ishr, si_ladd, si_lmul, si_lor, si_lxor, si_lshl, si_lushr, si_lcmp, si_i2b, si_i2l, si_l2i, si_icmp_eq, si_icmp_ne, si_icmp_lt, si_icmp_ge, si_icmp_gt, si_icmp_le, si_if_eq, si_if_ne, si_if_lt, si_if_ge, si_if_gt, si_if_le, si_ifnull, si_ifnonnull, si_goto, si_tableswitch, si_lookupswitch, si_getfield, si_putfield, si_getstatic, si_iaload, si_baload, si_laload, si_aaload, si_iastore, si_bastore, si_lastore, si_aastore, si_arraylength, si_new, si_newarray, si_anewarray, si_invokevirtual, si_invokespecial, si_invokestatic, si_ireturn, si_lreturn, si_areturn, si_return_, pI_e, pL_e, pR_e, pA_r, pA_n, pN_n, pN_r, oI_e, oL_e, oA_r, oA_n, lget_e, lrm1_0, lrm2_0, lrm1_i, lrm1_r, lrm1_n, lrm1_l, lrm2_i, lrm2_r, lrm2_n, lrm2_l, popN_0, popN_s, acat_i, acat_l, acat_r, acat_n, stw_0, stw_s, psh_s, psh_n, wgf_r, wgf_i, wgf_b, wgf_n, wgf_m, wpf_i, wpf_r, wpf_b, wnew_e, callE_e, rbk_0, rbk_1, tsw_0, tsw_s, lsw_0, lsw_s, wp_s, wq_t, wq_f, oV_e, pick_0, pick_s, oZ_e, oY_e, r_PR_isSort_0, r_PR_isSort_1, r_PR_isSort_4, r_PR_isSort_5, r_PR_isSort_8, r_PR_isSort_9, r_PR_isSort_12, r_PR_isSort_13, r_PR_isSort_16, r_PR_isSort_17, xn_PR_isSort_172, xd_PR_isSort, xrb_PR_isSort, xin_PR_isSort, w, Nat.reduceAdd, Nat.reduceMul, Nat.reduceEqDiff, reduceIte, Int.reduceNeg, Int.reduceLE, Int.reduceLT, Int.reduceAdd, Int.reduceSub, Int.reduceToNat, true_and, and_true, inR_e, Nat.reduceLT, Nat.reduceLeDiff, reduceCtorEq, Nat.add_zero, Nat.zero_add, or_false, false_or, or_true, true_or, not_true_eq_false, not_false_eq_true, Classical.not_not, Nat.add_eq_zero_iff, and_false, false_and, Int.reduceEq, List.mem_cons, List.not_mem_nil, forall_eq_or_imp, forall_eq, false_implies, implies_true, forall_const, aargs_0, aargs_i, aargs_r, aargs_l, aargs_n, nfT_e, eq_self, and_self, Nat.le_refl, fu_s, fu_fu, iu_iu, iu_s, fu_am, fu_a0, fu_0a, iu_l, Nat.reduceBEq, Int.reduceBEq, T_objInit_e]
  repeat' (first | assumption | intro _ | apply And.intro)
  all_goals first | omega | assumption | (exact h1 (by omega)) | (exact h0 (by omega)) | (exact h1 ⟨by omega, by omega⟩) | (exact h0 ⟨by omega, by omega⟩) | (exact h1 ⟨by omega, by omega, by omega⟩) | (exact h0 ⟨by omega, by omega, by omega⟩)
def TF_PR_isId (i : Int) (sz sl : Nat) (lay : Nat → Nat × Int) (ρ : Nat → Int → Nat) (σ : Nat → Int → Int) (τ : Nat → Int → Int64) (k : Option AV → Mm → Prop) : Prop := (0 ≤ i ∧ i < 600 → k (some (vI 1)) (sz, sl, lay, ρ, σ, τ)) ∧ (¬ (0 ≤ i ∧ i < 600) → k (some (vI 0)) (sz, sl, lay, ρ, σ, τ))
def T_PR_isId : Tr := fun as M k => pI as fun i as => as = [] ∧ TF_PR_isId i M.1 M.2.1 M.2.2.1 M.2.2.2.1 M.2.2.2.2.1 M.2.2.2.2.2 k
theorem T_PR_isId_e {i : Int} {sz sl : Nat} {lay : Nat → Nat × Int} {ρ : Nat → Int → Nat} {σ : Nat → Int → Int} {τ : Nat → Int → Int64} {k : Option AV → Mm → Prop} : T_PR_isId [vI i] (sz, sl, lay, ρ, σ, τ) k = TF_PR_isId i sz sl lay ρ σ τ k := by simp [T_PR_isId, pI_e, pR_e, pL_e]
def tb_PR_isId : List (Nat × Option (List Nat) × Instr × List Nat) := [(0, none, .iload_n 0, []), (1, none, .ifCond .lt 14, [15]), (4, none, .iload_n 0, []), (5, none, .sipush 600, []), (8, none, .if_icmp .ge 7, [15]), (11, none, .iconst 1, []), (12, none, .goto 4, [16]), (15, none, .iconst 0, []), (16, none, .ireturn, [])]
def P_PR_isId : Nat → Option (List Nat) × Instr × List Nat := plk tb_PR_isId
theorem r_PR_isId_0 : P_PR_isId 0 = (none, .iload_n 0, []) := by decide +kernel
theorem r_PR_isId_1 : P_PR_isId 1 = (none, .ifCond .lt 14, [15]) := by decide +kernel
theorem r_PR_isId_4 : P_PR_isId 4 = (none, .iload_n 0, []) := by decide +kernel
theorem r_PR_isId_5 : P_PR_isId 5 = (none, .sipush 600, []) := by decide +kernel
theorem r_PR_isId_8 : P_PR_isId 8 = (none, .if_icmp .ge 7, [15]) := by decide +kernel
theorem r_PR_isId_11 : P_PR_isId 11 = (none, .iconst 1, []) := by decide +kernel
theorem r_PR_isId_12 : P_PR_isId 12 = (none, .goto 4, [16]) := by decide +kernel
theorem r_PR_isId_15 : P_PR_isId 15 = (none, .iconst 0, []) := by decide +kernel
theorem r_PR_isId_16 : P_PR_isId 16 = (none, .ireturn, []) := by decide +kernel
def E_PR_isId : List (Nat × Ent) := []
def X_PR_isId : Cx := (llk (0, 0, 9) ftX10, llk 99 ntX10, llk none kcX10, llk none klX10, llk dEnt E_PR_isId, 0, 1, false)
theorem xok_PR_isId : Xok RX10 X_PR_isId := xok_of ftX10_ok ntX10_ok kcX10_ok klX10_ok (E := E_PR_isId) (fun _ h => absurd h List.not_mem_nil)
theorem xd_PR_isId : xd X_PR_isId = 0 := rfl
theorem xrb_PR_isId : xrb X_PR_isId = 1 := rfl
theorem xin_PR_isId : xin X_PR_isId = false := rfl
set_option maxHeartbeats 4000000 in
set_option maxRecDepth 100000 in
theorem S_PR_isId : Snd yX10_isId cX10_isId 1 (some .boolean) T_PR_isId 0 0 0 := by
  refine snd_of (X := X_PR_isId) (P := P_PR_isId) (tb := tb_PR_isId) (own := RX10) (by decide) rfl rfl (by decide +kernel) xok_PR_isId rfl rk1 (fun h => by first | rfl | cases h) ?_
  intro as M k has hM hT0
  obtain ⟨sz, sl, lay, ρ, σ, τ⟩ := M
  obtain ⟨i, as1, e, hT1⟩ := pI_x hT0
  clear hT0
  subst e
  obtain ⟨e, hT⟩ := hT1
  subst e
  have r_i : -2147483648 ≤ i ∧ i ≤ 2147483647 := has (vI i) (by simp)
  clear has
  replace hM : ∀ a i, -2147483648 ≤ σ a i ∧ σ a i ≤ 2147483647 := hM
  replace hT : TF_PR_isId i sz sl lay ρ σ τ k := hT
  unfold TF_PR_isId at hT
  obtain ⟨h1, h0⟩ := hT
  refine ⟨Nat.le_of_ble_eq_true rfl, fun _ _ _ => False, fun _ _ _ => 0, 17, ?_, fun _ _ _ _ _ _ h => h.elim⟩
  unfold wps
  simp only [si_iload_n0, si_iload_n1, si_iload_n2, si_iload_n3, si_iload, si_lload_n0, si_lload_n1, si_lload_n2, si_lload_n3, si_lload, si_aload_n0, si_aload_n1, si_aload_n2, si_aload_n3, si_aload, si_istore_n0, si_istore_n1, si_istore_n2, si_istore_n3, si_istore, si_astore_n0, si_astore_n1, si_astore_n2, si_astore_n3, si_astore, si_lstore_n0, si_lstore_n1, si_lstore_n2, si_lstore_n3, si_lstore, si_iconst, si_bipush, si_sipush, si_ldc, si_ldc2_w, si_lconst0, si_lconst1, si_aconst_null, si_iinc, si_dup, si_dup2, si_iadd, si_isub, si_imul, si_idiv, si_irem, si_iand, si_ior, si_ishl, si_ishr, si_ladd, si_lmul, si_lor, si_lxor, si_lshl, si_lushr, si_lcmp, si_i2b, si_i2l, si_l2i, si_icmp_eq, si_icmp_ne, si_icmp_lt, si_icmp_ge, si_icmp_gt, si_icmp_le, si_if_eq, si_if_ne, si_if_lt, si_if_ge, si_if_gt, si_if_le, si_ifnull, si_ifnonnull, si_goto, si_tableswitch, si_lookupswitch, si_getfield, si_putfield, si_getstatic, si_iaload, si_baload, si_laload, si_aaload, si_iastore, si_bastore, si_lastore, si_aastore, si_arraylength, si_new, si_newarray, si_anewarray, si_invokevirtual, si_invokespecial, si_invokestatic, si_ireturn, si_lreturn, si_areturn, si_return_, pI_e, pL_e, pR_e, pA_r, pA_n, pN_n, pN_r, oI_e, oL_e, oA_r, oA_n, lget_e, lrm1_0, lrm2_0, lrm1_i, lrm1_r, lrm1_n, lrm1_l, lrm2_i, lrm2_r, lrm2_n, lrm2_l, popN_0, popN_s, acat_i, acat_l, acat_r, acat_n, stw_0, stw_s, psh_s, psh_n, wgf_r, wgf_i, wgf_b, wgf_n, wgf_m, wpf_i, wpf_r, wpf_b, wnew_e, callE_e, rbk_0, rbk_1, tsw_0, tsw_s, lsw_0, lsw_s, wp_s, wq_t, wq_f, oV_e, pick_0, pick_s, oZ_e, oY_e, r_PR_isId_0, r_PR_isId_1, r_PR_isId_4, r_PR_isId_5, r_PR_isId_8, r_PR_isId_11, r_PR_isId_12, r_PR_isId_15, r_PR_isId_16, xd_PR_isId, xrb_PR_isId, xin_PR_isId, Nat.reduceAdd, Nat.reduceMul, Nat.reduceEqDiff, reduceIte, Int.reduceNeg, Int.reduceLE, Int.reduceLT, Int.reduceAdd, Int.reduceSub, Int.reduceToNat, true_and, and_true, inR_e, Nat.reduceLT, Nat.reduceLeDiff, reduceCtorEq, Nat.add_zero, Nat.zero_add, or_false, false_or, or_true, true_or, not_true_eq_false, not_false_eq_true, Classical.not_not, Nat.add_eq_zero_iff, and_false, false_and, Int.reduceEq, List.mem_cons, List.not_mem_nil, forall_eq_or_imp, forall_eq, false_implies, implies_true, forall_const, aargs_0, aargs_i, aargs_r, aargs_l, aargs_n, nfT_e, eq_self, and_self, Nat.le_refl, fu_s, fu_fu, iu_iu, iu_s, fu_am, fu_a0, fu_0a, iu_l, Nat.reduceBEq, Int.reduceBEq, T_objInit_e]
  repeat' (first | assumption | intro _ | apply And.intro)
  all_goals first | omega | assumption | (exact h1 (by omega)) | (exact h0 (by omega)) | (exact h1 ⟨by omega, by omega⟩) | (exact h0 ⟨by omega, by omega⟩) | (exact h1 ⟨by omega, by omega, by omega⟩) | (exact h0 ⟨by omega, by omega, by omega⟩)

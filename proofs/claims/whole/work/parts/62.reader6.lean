theorem co_X10_536 : CallOK RX10 (.invokevirtual 134) (2, 0, 0, 0, T_Trail_numberAt) := call_V S_Trail_numberAt (by decide) (ci := 8) rfl (by decide +kernel) (by decide +kernel) (by decide +kernel) (by decide +kernel) (by decide +kernel) (by decide +kernel) T_Trail_numberAt_r
def TF_PR_step (o : Nat) (j : Int) (sz sl : Nat) (lay : Nat → Nat × Int) (ρ : Nat → Int → Nat) (σ : Nat → Int → Int) (τ : Nat → Int → Int64) (k : Option AV → Mm → Prop) : Prop := LRd lay ρ o ∧ (0 ≤ σ (o + 3) 1 ∧ σ (o + 3) 1 ≤ 600) ∧ (0 ≤ j ∧ j < σ (o + 3) 1 → k (some (vI (σ (o + 3 + 1) j))) (sz, sl, lay, ρ, σ, τ)) ∧ (¬ (0 ≤ j ∧ j < σ (o + 3) 1) → k (some (vI (-1))) (sz, sl, lay, ρ, σ, τ))
def T_PR_step : Tr := mkT 10 fun o as M k => pI as fun j as => as = [] ∧ TF_PR_step o j M.1 M.2.1 M.2.2.1 M.2.2.2.1 M.2.2.2.2.1 M.2.2.2.2.2 k
theorem T_PR_step_e {o : Nat} {j : Int} {sz sl : Nat} {lay : Nat → Nat × Int} {ρ : Nat → Int → Nat} {σ : Nat → Int → Int} {τ : Nat → Int → Int64} {k : Option AV → Mm → Prop} : T_PR_step [vR o, vI j] (sz, sl, lay, ρ, σ, τ) k = (lay o = (20, 0) ∧ TF_PR_step o j sz sl lay ρ σ τ k) := by simp [T_PR_step, mkT_e, pI_e, pR_e, pL_e]
theorem T_PR_step_r (as : List AV) (M : Mm) (k : Option AV → Mm → Prop) (h : T_PR_step as M k) : ∃ b As, as = vR b :: As ∧ M.2.2.1 b = (10 + 10, 0) := by
  obtain ⟨b, As, h1, h2, -⟩ := mkT_r h
  exact ⟨b, As, h1, h2⟩
def tb_PR_step : List (Nat × Option (List Nat) × Instr × List Nat) := [(0, none, .aload_n 0, []), (1, none, .getfield 19, []), (4, none, .iload_n 1, []), (5, none, .invokevirtual 134, []), (8, none, .ireturn, [])]
def P_PR_step : Nat → Option (List Nat) × Instr × List Nat := plk tb_PR_step
theorem r_PR_step_0 : P_PR_step 0 = (none, .aload_n 0, []) := by decide +kernel
theorem r_PR_step_1 : P_PR_step 1 = (none, .getfield 19, []) := by decide +kernel
theorem r_PR_step_4 : P_PR_step 4 = (none, .iload_n 1, []) := by decide +kernel
theorem r_PR_step_5 : P_PR_step 5 = (none, .invokevirtual 134, []) := by decide +kernel
theorem r_PR_step_8 : P_PR_step 8 = (none, .ireturn, []) := by decide +kernel
def E_PR_step : List (Nat × Ent) := [(536, (2, 0, 0, 0, T_Trail_numberAt))]
def X_PR_step : Cx := (llk (0, 0, 9) ftX10, llk 99 ntX10, llk none kcX10, llk none klX10, llk dEnt E_PR_step, 1, 0, false)
theorem xok_PR_step : Xok RX10 X_PR_step := xok_of ftX10_ok ntX10_ok kcX10_ok klX10_ok (E := E_PR_step) (List.forall_mem_cons.mpr ⟨co_X10_536, fun _ h => absurd h List.not_mem_nil⟩)
theorem xf_PR_step_19 : xfl X_PR_step 19 = (10, 2, 1) := by decide +kernel
theorem xe_PR_step_536 : xE X_PR_step (4 * 134 + 0) = (2, 0, 0, 0, T_Trail_numberAt) := rfl
theorem xd_PR_step : xd X_PR_step = 1 := rfl
theorem xrb_PR_step : xrb X_PR_step = 0 := rfl
theorem xin_PR_step : xin X_PR_step = false := rfl
set_option maxHeartbeats 4000000 in
set_option maxRecDepth 100000 in
theorem S_PR_step : Snd yX10_step cX10_step 2 (some .int) T_PR_step 1 0 0 := by
  refine snd_of (X := X_PR_step) (P := P_PR_step) (tb := tb_PR_step) (own := RX10) (by decide) rfl rfl (by decide +kernel) xok_PR_step rfl rk0 (fun h => by first | rfl | cases h) ?_
  intro as M k has hM hT0
  obtain ⟨sz, sl, lay, ρ, σ, τ⟩ := M
  obtain ⟨o, as1, e, hlo, hT1⟩ := mkT_r hT0
  clear hT0
  subst e
  obtain ⟨j, as2, e, hT2⟩ := pI_x hT1
  clear hT1
  subst e
  obtain ⟨e, hT⟩ := hT2
  subst e
  replace hlo : lay o = (20, 0) := hlo
  have r_j : -2147483648 ≤ j ∧ j ≤ 2147483647 := has (vI j) (by simp)
  clear has
  replace hM : ∀ a i, -2147483648 ≤ σ a i ∧ σ a i ≤ 2147483647 := hM
  replace hT : TF_PR_step o j sz sl lay ρ σ τ k := hT
  unfold TF_PR_step at hT
  obtain ⟨hR, hc, h1, h0⟩ := hT
  obtain ⟨r0, ⟨r1, r2, r3⟩, r4, r5, r6, r7, r8, r9⟩ := (show LRd lay ρ o from hR)
  refine ⟨Nat.le_of_ble_eq_true rfl, fun _ _ _ => False, fun _ _ _ => 0, 13, ?_, fun _ _ _ _ _ _ h => h.elim⟩
  unfold wps
  simp only [si_iload_n0, si_iload_n1, si_iload_n2, si_iload_n3, si_iload, si_lload_n0, si_lload_n1, si_lload_n2, si_lload_n3, si_lload, si_aload_n0, si_aload_n1, si_aload_n2, si_aload_n3, si_aload, si_istore_n0, si_istore_n1, si_istore_n2, si_istore_n3, si_istore, si_astore_n0, si_astore_n1, si_astore_n2, si_astore_n3, si_astore, si_lstore_n0, si_lstore_n1, si_lstore_n2, si_lstore_n3, si_lstore, si_iconst, si_bipush, si_sipush, si_ldc, si_ldc2_w, si_lconst0, si_lconst1, si_aconst_null, si_iinc, si_dup, si_dup2, si_iadd, si_isub, si_imul, si_idiv, si_irem, si_iand, si_ior, si_ishl, si_ishr, si_ladd, si_lmul, si_lor, si_lxor, si_lshl, si_lushr, si_lcmp, si_i2b, si_i2l, si_l2i, si_icmp_eq, si_icmp_ne, si_icmp_lt, si_icmp_ge, si_icmp_gt, si_icmp_le, si_if_eq, si_if_ne, si_if_lt, si_if_ge, si_if_gt, si_if_le, si_ifnull, si_ifnonnull, si_goto, si_tableswitch, si_lookupswitch, si_getfield, si_putfield, si_getstatic, si_iaload, si_baload, si_laload, si_aaload, si_iastore, si_bastore, si_lastore, si_aastore, si_arraylength, si_new, si_newarray, si_anewarray, si_invokevirtual, si_invokespecial, si_invokestatic, si_ireturn, si_lreturn, si_areturn, si_return_, pI_e, pL_e, pR_e, pA_r, pA_n, pN_n, pN_r, oI_e, oL_e, oA_r, oA_n, lget_e, lrm1_0, lrm2_0, lrm1_i, lrm1_r, lrm1_n, lrm1_l, lrm2_i, lrm2_r, lrm2_n, lrm2_l, popN_0, popN_s, acat_i, acat_l, acat_r, acat_n, stw_0, stw_s, psh_s, psh_n, wgf_r, wgf_i, wgf_b, wgf_n, wgf_m, wpf_i, wpf_r, wpf_b, wnew_e, callE_e, rbk_0, rbk_1, tsw_0, tsw_s, lsw_0, lsw_s, wp_s, wq_t, wq_f, oV_e, pick_0, pick_s, oZ_e, oY_e, r_PR_step_0, r_PR_step_1, r_PR_step_4, r_PR_step_5, r_PR_step_8, xf_PR_step_19, xe_PR_step_536, xd_PR_step, xrb_PR_step, xin_PR_step, T_Trail_numberAt_e, TF_Trail_numberAt, r0, r1, r2, r3, r4, r5, Nat.reduceAdd, Nat.reduceMul, Nat.reduceEqDiff, reduceIte, Int.reduceNeg, Int.reduceLE, Int.reduceLT, Int.reduceAdd, Int.reduceSub, Int.reduceToNat, true_and, and_true, inR_e, Nat.reduceLT, Nat.reduceLeDiff, reduceCtorEq, Nat.add_zero, Nat.zero_add, or_false, false_or, or_true, true_or, not_true_eq_false, not_false_eq_true, Classical.not_not, Nat.add_eq_zero_iff, and_false, false_and, Int.reduceEq, List.mem_cons, List.not_mem_nil, forall_eq_or_imp, forall_eq, false_implies, implies_true, forall_const, aargs_0, aargs_i, aargs_r, aargs_l, aargs_n, nfT_e, eq_self, and_self, Nat.le_refl, fu_s, fu_fu, iu_iu, iu_s, fu_am, fu_a0, fu_0a, iu_l, Nat.reduceBEq, Int.reduceBEq, T_objInit_e]
  exact ⟨r8, hc, h1, h0⟩
theorem co_X10_152 : CallOK RX10 (.invokevirtual 38) (1, 0, 0, 0, T_Tape_size) := call_V S_Tape_size (by decide) (ci := 6) rfl (by decide +kernel) (by decide +kernel) (by decide +kernel) (by decide +kernel) (by decide +kernel) (by decide +kernel) T_Tape_size_r
theorem co_X10_168 : CallOK RX10 (.invokevirtual 42) (2, 0, 0, 0, T_Tape_cut) := call_V S_Tape_cut (by decide) (ci := 6) rfl (by decide +kernel) (by decide +kernel) (by decide +kernel) (by decide +kernel) (by decide +kernel) (by decide +kernel) T_Tape_cut_r
def TF_PR_end (o : Nat) (n : Int) (sz sl : Nat) (lay : Nat → Nat × Int) (ρ : Nat → Int → Nat) (σ : Nat → Int → Int) (τ : Nat → Int → Int64) (k : Option AV → Mm → Prop) : Prop := LRd lay ρ o ∧ (0 ≤ n ∧ n ≤ σ (o + 1) 1 → k (some (vI (n))) (sz, sl, lay, ρ, fu σ (o + 1) (iu (σ (o + 1)) 1 n), τ)) ∧ (¬ (0 ≤ n ∧ n ≤ σ (o + 1) 1) → k (some (vI (-1))) (sz, sl, lay, ρ, σ, τ))
def T_PR_end : Tr := mkT 10 fun o as M k => pI as fun n as => as = [] ∧ TF_PR_end o n M.1 M.2.1 M.2.2.1 M.2.2.2.1 M.2.2.2.2.1 M.2.2.2.2.2 k
theorem T_PR_end_e {o : Nat} {n : Int} {sz sl : Nat} {lay : Nat → Nat × Int} {ρ : Nat → Int → Nat} {σ : Nat → Int → Int} {τ : Nat → Int → Int64} {k : Option AV → Mm → Prop} : T_PR_end [vR o, vI n] (sz, sl, lay, ρ, σ, τ) k = (lay o = (20, 0) ∧ TF_PR_end o n sz sl lay ρ σ τ k) := by simp [T_PR_end, mkT_e, pI_e, pR_e, pL_e]
theorem T_PR_end_r (as : List AV) (M : Mm) (k : Option AV → Mm → Prop) (h : T_PR_end as M k) : ∃ b As, as = vR b :: As ∧ M.2.2.1 b = (10 + 10, 0) := by
  obtain ⟨b, As, h1, h2, -⟩ := mkT_r h
  exact ⟨b, As, h1, h2⟩
def tb_PR_end : List (Nat × Option (List Nat) × Instr × List Nat) := [(0, none, .iload_n 1, []), (1, none, .ifCond .lt 14, [15]), (4, none, .iload_n 1, []), (5, none, .aload_n 0, []), (6, none, .getfield 12, []), (9, none, .invokevirtual 38, []), (12, none, .if_icmp .le 5, [17]), (15, none, .iconst (-1), []), (16, none, .ireturn, []), (17, none, .aload_n 0, []), (18, none, .getfield 12, []), (21, none, .iload_n 1, []), (22, none, .invokevirtual 42, []), (25, none, .iload_n 1, []), (26, none, .ireturn, [])]
def P_PR_end : Nat → Option (List Nat) × Instr × List Nat := plk tb_PR_end
theorem r_PR_end_0 : P_PR_end 0 = (none, .iload_n 1, []) := by decide +kernel
theorem r_PR_end_1 : P_PR_end 1 = (none, .ifCond .lt 14, [15]) := by decide +kernel
theorem r_PR_end_4 : P_PR_end 4 = (none, .iload_n 1, []) := by decide +kernel
theorem r_PR_end_5 : P_PR_end 5 = (none, .aload_n 0, []) := by decide +kernel
theorem r_PR_end_6 : P_PR_end 6 = (none, .getfield 12, []) := by decide +kernel
theorem r_PR_end_9 : P_PR_end 9 = (none, .invokevirtual 38, []) := by decide +kernel
theorem r_PR_end_12 : P_PR_end 12 = (none, .if_icmp .le 5, [17]) := by decide +kernel
theorem r_PR_end_15 : P_PR_end 15 = (none, .iconst (-1), []) := by decide +kernel
theorem r_PR_end_16 : P_PR_end 16 = (none, .ireturn, []) := by decide +kernel
theorem r_PR_end_17 : P_PR_end 17 = (none, .aload_n 0, []) := by decide +kernel
theorem r_PR_end_18 : P_PR_end 18 = (none, .getfield 12, []) := by decide +kernel
theorem r_PR_end_21 : P_PR_end 21 = (none, .iload_n 1, []) := by decide +kernel
theorem r_PR_end_22 : P_PR_end 22 = (none, .invokevirtual 42, []) := by decide +kernel
theorem r_PR_end_25 : P_PR_end 25 = (none, .iload_n 1, []) := by decide +kernel
theorem r_PR_end_26 : P_PR_end 26 = (none, .ireturn, []) := by decide +kernel
def E_PR_end : List (Nat × Ent) := [(152, (1, 0, 0, 0, T_Tape_size)), (168, (2, 0, 0, 0, T_Tape_cut))]
def X_PR_end : Cx := (llk (0, 0, 9) ftX10, llk 99 ntX10, llk none kcX10, llk none klX10, llk dEnt E_PR_end, 1, 0, false)
theorem xok_PR_end : Xok RX10 X_PR_end := xok_of ftX10_ok ntX10_ok kcX10_ok klX10_ok (E := E_PR_end) (List.forall_mem_cons.mpr ⟨co_X10_152, List.forall_mem_cons.mpr ⟨co_X10_168, fun _ h => absurd h List.not_mem_nil⟩⟩)
theorem xf_PR_end_12 : xfl X_PR_end 12 = (10, 0, 1) := by decide +kernel
theorem xe_PR_end_152 : xE X_PR_end (4 * 38 + 0) = (1, 0, 0, 0, T_Tape_size) := rfl
theorem xe_PR_end_168 : xE X_PR_end (4 * 42 + 0) = (2, 0, 0, 0, T_Tape_cut) := rfl
theorem xd_PR_end : xd X_PR_end = 1 := rfl
theorem xrb_PR_end : xrb X_PR_end = 0 := rfl
theorem xin_PR_end : xin X_PR_end = false := rfl
set_option maxHeartbeats 4000000 in
set_option maxRecDepth 100000 in
theorem S_PR_end : Snd yX10_end cX10_end 2 (some .int) T_PR_end 1 0 0 := by
  refine snd_of (X := X_PR_end) (P := P_PR_end) (tb := tb_PR_end) (own := RX10) (by decide) rfl rfl (by decide +kernel) xok_PR_end rfl rk0 (fun h => by first | rfl | cases h) ?_
  intro as M k has hM hT0
  obtain ⟨sz, sl, lay, ρ, σ, τ⟩ := M
  obtain ⟨o, as1, e, hlo, hT1⟩ := mkT_r hT0
  clear hT0
  subst e
  obtain ⟨n, as2, e, hT2⟩ := pI_x hT1
  clear hT1
  subst e
  obtain ⟨e, hT⟩ := hT2
  subst e
  replace hlo : lay o = (20, 0) := hlo
  have r_n : -2147483648 ≤ n ∧ n ≤ 2147483647 := has (vI n) (by simp)
  clear has
  replace hM : ∀ a i, -2147483648 ≤ σ a i ∧ σ a i ≤ 2147483647 := hM
  replace hT : TF_PR_end o n sz sl lay ρ σ τ k := hT
  unfold TF_PR_end at hT
  obtain ⟨hR, h1, h0⟩ := hT
  obtain ⟨r0, ⟨r1, r2, r3⟩, r4, r5, r6, r7, r8, r9⟩ := (show LRd lay ρ o from hR)
  refine ⟨Nat.le_of_ble_eq_true rfl, fun _ _ _ => False, fun _ _ _ => 0, 23, ?_, fun _ _ _ _ _ _ h => h.elim⟩
  unfold wps
  simp only [si_iload_n0, si_iload_n1, si_iload_n2, si_iload_n3, si_iload, si_lload_n0, si_lload_n1, si_lload_n2, si_lload_n3, si_lload, si_aload_n0, si_aload_n1, si_aload_n2, si_aload_n3, si_aload, si_istore_n0, si_istore_n1, si_istore_n2, si_istore_n3, si_istore, si_astore_n0, si_astore_n1, si_astore_n2, si_astore_n3, si_astore, si_lstore_n0, si_lstore_n1, si_lstore_n2, si_lstore_n3, si_lstore, si_iconst, si_bipush, si_sipush, si_ldc, si_ldc2_w, si_lconst0, si_lconst1, si_aconst_null, si_iinc, si_dup, si_dup2, si_iadd, si_isub, si_imul, si_idiv, si_irem, si_iand, si_ior, si_ishl, si_ishr, si_ladd, si_lmul, si_lor, si_lxor, si_lshl, si_lushr, si_lcmp, si_i2b, si_i2l, si_l2i, si_icmp_eq, si_icmp_ne, si_icmp_lt, si_icmp_ge, si_icmp_gt, si_icmp_le, si_if_eq, si_if_ne, si_if_lt, si_if_ge, si_if_gt, si_if_le, si_ifnull, si_ifnonnull, si_goto, si_tableswitch, si_lookupswitch, si_getfield, si_putfield, si_getstatic, si_iaload, si_baload, si_laload, si_aaload, si_iastore, si_bastore, si_lastore, si_aastore, si_arraylength, si_new, si_newarray, si_anewarray, si_invokevirtual, si_invokespecial, si_invokestatic, si_ireturn, si_lreturn, si_areturn, si_return_, pI_e, pL_e, pR_e, pA_r, pA_n, pN_n, pN_r, oI_e, oL_e, oA_r, oA_n, lget_e, lrm1_0, lrm2_0, lrm1_i, lrm1_r, lrm1_n, lrm1_l, lrm2_i, lrm2_r, lrm2_n, lrm2_l, popN_0, popN_s, acat_i, acat_l, acat_r, acat_n, stw_0, stw_s, psh_s, psh_n, wgf_r, wgf_i, wgf_b, wgf_n, wgf_m, wpf_i, wpf_r, wpf_b, wnew_e, callE_e, rbk_0, rbk_1, tsw_0, tsw_s, lsw_0, lsw_s, wp_s, wq_t, wq_f, oV_e, pick_0, pick_s, oZ_e, oY_e, r_PR_end_0, r_PR_end_1, r_PR_end_4, r_PR_end_5, r_PR_end_6, r_PR_end_9, r_PR_end_12, r_PR_end_15, r_PR_end_16, r_PR_end_17, r_PR_end_18, r_PR_end_21, r_PR_end_22, r_PR_end_25, r_PR_end_26, xf_PR_end_12, xe_PR_end_152, xe_PR_end_168, xd_PR_end, xrb_PR_end, xin_PR_end, T_Tape_size_e, TF_Tape_size, T_Tape_cut_e, TF_Tape_cut, r0, r1, r2, r3, r4, r5, Nat.reduceAdd, Nat.reduceMul, Nat.reduceEqDiff, reduceIte, Int.reduceNeg, Int.reduceLE, Int.reduceLT, Int.reduceAdd, Int.reduceSub, Int.reduceToNat, true_and, and_true, inR_e, Nat.reduceLT, Nat.reduceLeDiff, reduceCtorEq, Nat.add_zero, Nat.zero_add, or_false, false_or, or_true, true_or, not_true_eq_false, not_false_eq_true, Classical.not_not, Nat.add_eq_zero_iff, and_false, false_and, Int.reduceEq, List.mem_cons, List.not_mem_nil, forall_eq_or_imp, forall_eq, false_implies, implies_true, forall_const, aargs_0, aargs_i, aargs_r, aargs_l, aargs_n, nfT_e, eq_self, and_self, Nat.le_refl, fu_s, fu_fu, iu_iu, iu_s, fu_am, fu_a0, fu_0a, iu_l, Nat.reduceBEq, Int.reduceBEq, T_objInit_e]
  refine ⟨fun a => h0 (by omega), fun a => ⟨fun b => ⟨fun c => h1 (by omega), fun c => ?_⟩, fun b => h0 (by omega)⟩⟩
  have := h1 (by omega)
  rw [iu_self2 (by omega), fu_self] at this
  exact this
theorem co_X10_120 : CallOK RX10 (.invokevirtual 30) (2, 0, 0, 0, T_Tape_hasRoom) := call_V S_Tape_hasRoom (by decide) (ci := 6) rfl (by decide +kernel) (by decide +kernel) (by decide +kernel) (by decide +kernel) (by decide +kernel) (by decide +kernel) T_Tape_hasRoom_r
theorem co_X10_136 : CallOK RX10 (.invokevirtual 34) (2, 0, 0, 0, T_Tape_put) := call_V S_Tape_put (by decide) (ci := 6) rfl (by decide +kernel) (by decide +kernel) (by decide +kernel) (by decide +kernel) (by decide +kernel) (by decide +kernel) T_Tape_put_r
def TF_PR_feed (o : Nat) (a : Int) (b : Int) (c : Int) (d : Int) (e : Int) (sz sl : Nat) (lay : Nat → Nat × Int) (ρ : Nat → Int → Nat) (σ : Nat → Int → Int) (τ : Nat → Int → Int64) (k : Option AV → Mm → Prop) : Prop := LRd lay ρ o ∧ (0 ≤ σ (o + 1) 1 ∧ σ (o + 1) 1 ≤ 8000) ∧ (20 ≤ 8000 - σ (o + 1) 1 → k (some (vI (σ (o + 1) 1 + 20))) (sz, sl, lay, ρ, putS (o + 1) e 4 (putS (o + 1) d 4 (putS (o + 1) c 4 (putS (o + 1) b 4 (putS (o + 1) a 4 σ)))), τ)) ∧ (¬ (20 ≤ 8000 - σ (o + 1) 1) → k (some (vI (-1))) (sz, sl, lay, ρ, σ, τ))
def T_PR_feed : Tr := mkT 10 fun o as M k => pI as fun a as => pI as fun b as => pI as fun c as => pI as fun d as => pI as fun e as => as = [] ∧ TF_PR_feed o a b c d e M.1 M.2.1 M.2.2.1 M.2.2.2.1 M.2.2.2.2.1 M.2.2.2.2.2 k
theorem T_PR_feed_e {o : Nat} {a : Int} {b : Int} {c : Int} {d : Int} {e : Int} {sz sl : Nat} {lay : Nat → Nat × Int} {ρ : Nat → Int → Nat} {σ : Nat → Int → Int} {τ : Nat → Int → Int64} {k : Option AV → Mm → Prop} : T_PR_feed [vR o, vI a, vI b, vI c, vI d, vI e] (sz, sl, lay, ρ, σ, τ) k = (lay o = (20, 0) ∧ TF_PR_feed o a b c d e sz sl lay ρ σ τ k) := by simp [T_PR_feed, mkT_e, pI_e, pR_e, pL_e]
theorem T_PR_feed_r (as : List AV) (M : Mm) (k : Option AV → Mm → Prop) (h : T_PR_feed as M k) : ∃ b As, as = vR b :: As ∧ M.2.2.1 b = (10 + 10, 0) := by
  obtain ⟨b, As, h1, h2, -⟩ := mkT_r h
  exact ⟨b, As, h1, h2⟩
def tb_PR_feed : List (Nat × Option (List Nat) × Instr × List Nat) := [(0, none, .aload_n 0, []), (1, none, .getfield 12, []), (4, none, .bipush 20, []), (6, none, .invokevirtual 30, []), (9, none, .ifCond .ne 5, [14]), (12, none, .iconst (-1), []), (13, none, .ireturn, []), (14, none, .aload_n 0, []), (15, none, .getfield 12, []), (18, none, .iload_n 1, []), (19, none, .invokevirtual 34, []), (22, none, .aload_n 0, []), (23, none, .getfield 12, []), (26, none, .iload_n 2, []), (27, none, .invokevirtual 34, []), (30, none, .aload_n 0, []), (31, none, .getfield 12, []), (34, none, .iload_n 3, []), (35, none, .invokevirtual 34, []), (38, none, .aload_n 0, []), (39, none, .getfield 12, []), (42, none, .iload 4, []), (44, none, .invokevirtual 34, []), (47, none, .aload_n 0, []), (48, none, .getfield 12, []), (51, none, .iload 5, []), (53, none, .invokevirtual 34, []), (56, none, .aload_n 0, []), (57, none, .getfield 12, []), (60, none, .invokevirtual 38, []), (63, none, .ireturn, [])]
def P_PR_feed : Nat → Option (List Nat) × Instr × List Nat := plk tb_PR_feed
theorem r_PR_feed_0 : P_PR_feed 0 = (none, .aload_n 0, []) := by decide +kernel
theorem r_PR_feed_1 : P_PR_feed 1 = (none, .getfield 12, []) := by decide +kernel
theorem r_PR_feed_4 : P_PR_feed 4 = (none, .bipush 20, []) := by decide +kernel
theorem r_PR_feed_6 : P_PR_feed 6 = (none, .invokevirtual 30, []) := by decide +kernel
theorem r_PR_feed_9 : P_PR_feed 9 = (none, .ifCond .ne 5, [14]) := by decide +kernel
theorem r_PR_feed_12 : P_PR_feed 12 = (none, .iconst (-1), []) := by decide +kernel
theorem r_PR_feed_13 : P_PR_feed 13 = (none, .ireturn, []) := by decide +kernel
theorem r_PR_feed_14 : P_PR_feed 14 = (none, .aload_n 0, []) := by decide +kernel
theorem r_PR_feed_15 : P_PR_feed 15 = (none, .getfield 12, []) := by decide +kernel
theorem r_PR_feed_18 : P_PR_feed 18 = (none, .iload_n 1, []) := by decide +kernel
theorem r_PR_feed_19 : P_PR_feed 19 = (none, .invokevirtual 34, []) := by decide +kernel
theorem r_PR_feed_22 : P_PR_feed 22 = (none, .aload_n 0, []) := by decide +kernel
theorem r_PR_feed_23 : P_PR_feed 23 = (none, .getfield 12, []) := by decide +kernel
theorem r_PR_feed_26 : P_PR_feed 26 = (none, .iload_n 2, []) := by decide +kernel
theorem r_PR_feed_27 : P_PR_feed 27 = (none, .invokevirtual 34, []) := by decide +kernel
theorem r_PR_feed_30 : P_PR_feed 30 = (none, .aload_n 0, []) := by decide +kernel
theorem r_PR_feed_31 : P_PR_feed 31 = (none, .getfield 12, []) := by decide +kernel
theorem r_PR_feed_34 : P_PR_feed 34 = (none, .iload_n 3, []) := by decide +kernel
theorem r_PR_feed_35 : P_PR_feed 35 = (none, .invokevirtual 34, []) := by decide +kernel
theorem r_PR_feed_38 : P_PR_feed 38 = (none, .aload_n 0, []) := by decide +kernel
theorem r_PR_feed_39 : P_PR_feed 39 = (none, .getfield 12, []) := by decide +kernel
theorem r_PR_feed_42 : P_PR_feed 42 = (none, .iload 4, []) := by decide +kernel
theorem r_PR_feed_44 : P_PR_feed 44 = (none, .invokevirtual 34, []) := by decide +kernel
theorem r_PR_feed_47 : P_PR_feed 47 = (none, .aload_n 0, []) := by decide +kernel
theorem r_PR_feed_48 : P_PR_feed 48 = (none, .getfield 12, []) := by decide +kernel
theorem r_PR_feed_51 : P_PR_feed 51 = (none, .iload 5, []) := by decide +kernel
theorem r_PR_feed_53 : P_PR_feed 53 = (none, .invokevirtual 34, []) := by decide +kernel
theorem r_PR_feed_56 : P_PR_feed 56 = (none, .aload_n 0, []) := by decide +kernel
theorem r_PR_feed_57 : P_PR_feed 57 = (none, .getfield 12, []) := by decide +kernel
theorem r_PR_feed_60 : P_PR_feed 60 = (none, .invokevirtual 38, []) := by decide +kernel
theorem r_PR_feed_63 : P_PR_feed 63 = (none, .ireturn, []) := by decide +kernel
def E_PR_feed : List (Nat × Ent) := [(120, (2, 0, 0, 0, T_Tape_hasRoom)), (136, (2, 0, 0, 0, T_Tape_put)), (152, (1, 0, 0, 0, T_Tape_size))]
def X_PR_feed : Cx := (llk (0, 0, 9) ftX10, llk 99 ntX10, llk none kcX10, llk none klX10, llk dEnt E_PR_feed, 1, 0, false)
theorem xok_PR_feed : Xok RX10 X_PR_feed := xok_of ftX10_ok ntX10_ok kcX10_ok klX10_ok (E := E_PR_feed) (List.forall_mem_cons.mpr ⟨co_X10_120, List.forall_mem_cons.mpr ⟨co_X10_136, List.forall_mem_cons.mpr ⟨co_X10_152, fun _ h => absurd h List.not_mem_nil⟩⟩⟩)
theorem xf_PR_feed_12 : xfl X_PR_feed 12 = (10, 0, 1) := by decide +kernel
theorem xe_PR_feed_120 : xE X_PR_feed (4 * 30 + 0) = (2, 0, 0, 0, T_Tape_hasRoom) := rfl
theorem xe_PR_feed_136 : xE X_PR_feed (4 * 34 + 0) = (2, 0, 0, 0, T_Tape_put) := rfl
theorem xe_PR_feed_152 : xE X_PR_feed (4 * 38 + 0) = (1, 0, 0, 0, T_Tape_size) := rfl
theorem xd_PR_feed : xd X_PR_feed = 1 := rfl
theorem xrb_PR_feed : xrb X_PR_feed = 0 := rfl
theorem xin_PR_feed : xin X_PR_feed = false := rfl
set_option maxHeartbeats 4000000 in
set_option maxRecDepth 100000 in
theorem S_PR_feed : Snd yX10_feed cX10_feed 6 (some .int) T_PR_feed 1 0 0 := by
  refine snd_of (X := X_PR_feed) (P := P_PR_feed) (tb := tb_PR_feed) (own := RX10) (by decide) rfl rfl (by decide +kernel) xok_PR_feed rfl rk0 (fun h => by first | rfl | cases h) ?_
  intro as M k has hM hT0
  obtain ⟨sz, sl, lay, ρ, σ, τ⟩ := M
  obtain ⟨o, as1, e, hlo, hT1⟩ := mkT_r hT0
  clear hT0
  subst e
  obtain ⟨a, as2, e, hT2⟩ := pI_x hT1
  clear hT1
  subst e
  obtain ⟨b, as3, e, hT3⟩ := pI_x hT2
  clear hT2
  subst e
  obtain ⟨c, as4, e, hT4⟩ := pI_x hT3
  clear hT3
  subst e
  obtain ⟨d, as5, e, hT5⟩ := pI_x hT4
  clear hT4
  subst e
  obtain ⟨e, as6, e, hT6⟩ := pI_x hT5
  clear hT5
  subst e
  obtain ⟨e, hT⟩ := hT6
  subst e
  replace hlo : lay o = (20, 0) := hlo
  have r_a : -2147483648 ≤ a ∧ a ≤ 2147483647 := has (vI a) (by simp)
  have r_b : -2147483648 ≤ b ∧ b ≤ 2147483647 := has (vI b) (by simp)
  have r_c : -2147483648 ≤ c ∧ c ≤ 2147483647 := has (vI c) (by simp)
  have r_d : -2147483648 ≤ d ∧ d ≤ 2147483647 := has (vI d) (by simp)
  have r_e : -2147483648 ≤ e ∧ e ≤ 2147483647 := has (vI e) (by simp)
  clear has
  replace hM : ∀ a i, -2147483648 ≤ σ a i ∧ σ a i ≤ 2147483647 := hM
  replace hT : TF_PR_feed o a b c d e sz sl lay ρ σ τ k := hT
  unfold TF_PR_feed at hT
  obtain ⟨hR, hn, h1, h0⟩ := hT
  obtain ⟨r0, ⟨r1, r2, r3⟩, r4, r5, r6, r7, r8, r9⟩ := (show LRd lay ρ o from hR)
  refine ⟨Nat.le_of_ble_eq_true rfl, fun _ _ _ => False, fun _ _ _ => 0, 39, ?_, fun _ _ _ _ _ _ h => h.elim⟩
  unfold wps
  simp only [si_iload_n0, si_iload_n1, si_iload_n2, si_iload_n3, si_iload, si_lload_n0, si_lload_n1, si_lload_n2, si_lload_n3, si_lload, si_aload_n0, si_aload_n1, si_aload_n2, si_aload_n3, si_aload, si_istore_n0, si_istore_n1, si_istore_n2, si_istore_n3, si_istore, si_astore_n0, si_astore_n1, si_astore_n2, si_astore_n3, si_astore, si_lstore_n0, si_lstore_n1, si_lstore_n2, si_lstore_n3, si_lstore, si_iconst, si_bipush, si_sipush, si_ldc, si_ldc2_w, si_lconst0, si_lconst1, si_aconst_null, si_iinc, si_dup, si_dup2, si_iadd, si_isub, si_imul, si_idiv, si_irem, si_iand, si_ior, si_ishl, si_ishr, si_ladd, si_lmul, si_lor, si_lxor, si_lshl, si_lushr, si_lcmp, si_i2b, si_i2l, si_l2i, si_icmp_eq, si_icmp_ne, si_icmp_lt, si_icmp_ge, si_icmp_gt, si_icmp_le, si_if_eq, si_if_ne, si_if_lt, si_if_ge, si_if_gt, si_if_le, si_ifnull, si_ifnonnull, si_goto, si_tableswitch, si_lookupswitch, si_getfield, si_putfield, si_getstatic, si_iaload, si_baload, si_laload, si_aaload, si_iastore, si_bastore, si_lastore, si_aastore, si_arraylength, si_new, si_newarray, si_anewarray, si_invokevirtual, si_invokespecial, si_invokestatic, si_ireturn, si_lreturn, si_areturn, si_return_, pI_e, pL_e, pR_e, pA_r, pA_n, pN_n, pN_r, oI_e, oL_e, oA_r, oA_n, lget_e, lrm1_0, lrm2_0, lrm1_i, lrm1_r, lrm1_n, lrm1_l, lrm2_i, lrm2_r, lrm2_n, lrm2_l, popN_0, popN_s, acat_i, acat_l, acat_r, acat_n, stw_0, stw_s, psh_s, psh_n, wgf_r, wgf_i, wgf_b, wgf_n, wgf_m, wpf_i, wpf_r, wpf_b, wnew_e, callE_e, rbk_0, rbk_1, tsw_0, tsw_s, lsw_0, lsw_s, wp_s, wq_t, wq_f, oV_e, pick_0, pick_s, oZ_e, oY_e, r_PR_feed_0, r_PR_feed_1, r_PR_feed_4, r_PR_feed_6, r_PR_feed_9, r_PR_feed_12, r_PR_feed_13, r_PR_feed_14, r_PR_feed_15, r_PR_feed_18, r_PR_feed_19, r_PR_feed_22, r_PR_feed_23, r_PR_feed_26, r_PR_feed_27, r_PR_feed_30, r_PR_feed_31, r_PR_feed_34, r_PR_feed_35, r_PR_feed_38, r_PR_feed_39, r_PR_feed_42, r_PR_feed_44, r_PR_feed_47, r_PR_feed_48, r_PR_feed_51, r_PR_feed_53, r_PR_feed_56, r_PR_feed_57, r_PR_feed_60, r_PR_feed_63, xf_PR_feed_12, xe_PR_feed_120, xe_PR_feed_136, xe_PR_feed_152, xd_PR_feed, xrb_PR_feed, xin_PR_feed, T_Tape_hasRoom_e, TF_Tape_hasRoom, T_Tape_put_e, TF_Tape_put, T_Tape_size_e, TF_Tape_size, r0, r1, r2, r3, r4, r5, putS_len, Nat.reduceAdd, Nat.reduceMul, Nat.reduceEqDiff, reduceIte, Int.reduceNeg, Int.reduceLE, Int.reduceLT, Int.reduceAdd, Int.reduceSub, Int.reduceToNat, true_and, and_true, inR_e, Nat.reduceLT, Nat.reduceLeDiff, reduceCtorEq, Nat.add_zero, Nat.zero_add, or_false, false_or, or_true, true_or, not_true_eq_false, not_false_eq_true, Classical.not_not, Nat.add_eq_zero_iff, and_false, false_and, Int.reduceEq, List.mem_cons, List.not_mem_nil, forall_eq_or_imp, forall_eq, false_implies, implies_true, forall_const, aargs_0, aargs_i, aargs_r, aargs_l, aargs_n, nfT_e, eq_self, and_self, Nat.le_refl, fu_s, fu_fu, iu_iu, iu_s, fu_am, fu_a0, fu_0a, iu_l, Nat.reduceBEq, Int.reduceBEq, T_objInit_e]
  refine ⟨hn, fun a => ⟨r7, by omega, r7, by omega, r7, by omega, r7, by omega, r7, by omega, ?_⟩, h0⟩
  have := h1 a
  rw [show σ (o + 1) 1 + 20 = σ (o + 1) 1 + ((4 : Nat) : Int) + ((4 : Nat) : Int) + ((4 : Nat) : Int) + ((4 : Nat) : Int) + ((4 : Nat) : Int) by omega] at this
  exact this
theorem LPic.r {lay : Nat → Nat × Int} {ρ : Nat → Int → Nat} {o : Nat} (h : LPic lay ρ o) : LPicture lay ρ o := h.1
theorem co_X10_196 : CallOK RX10 (.invokevirtual 49) (2, 6, 0, 0, T_Picture_load) := call_V S_Picture_load (by decide) (ci := 3) rfl (by decide +kernel) (by decide +kernel) (by decide +kernel) (by decide +kernel) (by decide +kernel) (by decide +kernel) T_Picture_load_r
def TF_PR_read (o : Nat) (p : Int) (sz sl : Nat) (lay : Nat → Nat × Int) (ρ : Nat → Int → Nat) (σ : Nat → Int → Int) (τ : Nat → Int → Int64) (k : Option AV → Mm → Prop) : Prop := LRd lay ρ o ∧ (0 ≤ σ (o + 1) 1 ∧ σ (o + 1) 1 ≤ 8000) ∧ Wd lay ρ σ ∧ (ρ 0 0 < o) ∧ (∀ q : Int, 0 ≤ q ∧ q < 3 → ∀ y, 0 ≤ σ (o + 6 + 44 * q.toNat + 1 + 3) y ∧ σ (o + 6 + 44 * q.toNat + 1 + 3) y ≤ 1000) ∧ (0 ≤ p ∧ p < 3 → ∀ (σ1 : Nat → Int → Int) (τ1 : Nat → Int → Int64) (m : Nat), Fr σ σ1 (o + 6 + 44 * p.toNat) 43 → (∀ a, ¬ a = (o + 6 + 44 * p.toNat) + 18 → τ1 a = τ a) → σ (o + 1) 1 ≤ (itS (tU σ (o + 1)) (σ (o + 1) 1) m) 0 0 → PR σ1 τ1 (o + 6 + 44 * p.toNat) (tU σ (o + 1)) (σ (o + 1) 1) (itS (tU σ (o + 1)) (σ (o + 1) 1) m) → k (some (vI ((itS (tU σ (o + 1)) (σ (o + 1) 1) m) 0 1))) (sz, sl, lay, ρ, fu σ1 (o + 1) (iu (σ1 (o + 1)) 1 0), τ1)) ∧ (¬ (0 ≤ p ∧ p < 3) → k (some (vI (-1))) (sz, sl, lay, ρ, σ, τ))
def T_PR_read : Tr := mkT 10 fun o as M k => pI as fun p as => as = [] ∧ TF_PR_read o p M.1 M.2.1 M.2.2.1 M.2.2.2.1 M.2.2.2.2.1 M.2.2.2.2.2 k
theorem T_PR_read_e {o : Nat} {p : Int} {sz sl : Nat} {lay : Nat → Nat × Int} {ρ : Nat → Int → Nat} {σ : Nat → Int → Int} {τ : Nat → Int → Int64} {k : Option AV → Mm → Prop} : T_PR_read [vR o, vI p] (sz, sl, lay, ρ, σ, τ) k = (lay o = (20, 0) ∧ TF_PR_read o p sz sl lay ρ σ τ k) := by simp [T_PR_read, mkT_e, pI_e, pR_e, pL_e]
theorem T_PR_read_r (as : List AV) (M : Mm) (k : Option AV → Mm → Prop) (h : T_PR_read as M k) : ∃ b As, as = vR b :: As ∧ M.2.2.1 b = (10 + 10, 0) := by
  obtain ⟨b, As, h1, h2, -⟩ := mkT_r h
  exact ⟨b, As, h1, h2⟩
def tb_PR_read : List (Nat × Option (List Nat) × Instr × List Nat) := [(0, none, .aload_n 0, []), (1, none, .iload_n 1, []), (2, none, .invokevirtual 45, []), (5, none, .astore_n 2, []), (6, none, .aload_n 2, []), (7, none, .ifnonnull 5, [12]), (10, none, .iconst (-1), []), (11, none, .ireturn, []), (12, none, .aload_n 2, []), (13, none, .aload_n 0, []), (14, none, .getfield 12, []), (17, none, .invokevirtual 49, []), (20, none, .aload_n 0, []), (21, none, .getfield 12, []), (24, none, .iconst 0, []), (25, none, .invokevirtual 42, []), (28, none, .aload_n 2, []), (29, none, .getfield 53, []), (32, none, .ireturn, [])]
def P_PR_read : Nat → Option (List Nat) × Instr × List Nat := plk tb_PR_read
theorem r_PR_read_0 : P_PR_read 0 = (none, .aload_n 0, []) := by decide +kernel
theorem r_PR_read_1 : P_PR_read 1 = (none, .iload_n 1, []) := by decide +kernel
theorem r_PR_read_2 : P_PR_read 2 = (none, .invokevirtual 45, []) := by decide +kernel
theorem r_PR_read_5 : P_PR_read 5 = (none, .astore_n 2, []) := by decide +kernel
theorem r_PR_read_6 : P_PR_read 6 = (none, .aload_n 2, []) := by decide +kernel
theorem r_PR_read_7 : P_PR_read 7 = (none, .ifnonnull 5, [12]) := by decide +kernel
theorem r_PR_read_10 : P_PR_read 10 = (none, .iconst (-1), []) := by decide +kernel
theorem r_PR_read_11 : P_PR_read 11 = (none, .ireturn, []) := by decide +kernel
theorem r_PR_read_12 : P_PR_read 12 = (none, .aload_n 2, []) := by decide +kernel
theorem r_PR_read_13 : P_PR_read 13 = (none, .aload_n 0, []) := by decide +kernel
theorem r_PR_read_14 : P_PR_read 14 = (none, .getfield 12, []) := by decide +kernel
theorem r_PR_read_17 : P_PR_read 17 = (none, .invokevirtual 49, []) := by decide +kernel
theorem r_PR_read_20 : P_PR_read 20 = (none, .aload_n 0, []) := by decide +kernel
theorem r_PR_read_21 : P_PR_read 21 = (none, .getfield 12, []) := by decide +kernel
theorem r_PR_read_24 : P_PR_read 24 = (none, .iconst 0, []) := by decide +kernel
theorem r_PR_read_25 : P_PR_read 25 = (none, .invokevirtual 42, []) := by decide +kernel
theorem r_PR_read_28 : P_PR_read 28 = (none, .aload_n 2, []) := by decide +kernel
theorem r_PR_read_29 : P_PR_read 29 = (none, .getfield 53, []) := by decide +kernel
theorem r_PR_read_32 : P_PR_read 32 = (none, .ireturn, []) := by decide +kernel
def E_PR_read : List (Nat × Ent) := [(168, (2, 0, 0, 0, T_Tape_cut)), (180, (2, 0, 0, 0, T_PR_pictureAt)), (196, (2, 6, 0, 0, T_Picture_load))]
def X_PR_read : Cx := (llk (0, 0, 9) ftX10, llk 99 ntX10, llk none kcX10, llk none klX10, llk dEnt E_PR_read, 7, 0, false)
theorem xok_PR_read : Xok RX10 X_PR_read := xok_of ftX10_ok ntX10_ok kcX10_ok klX10_ok (E := E_PR_read) (List.forall_mem_cons.mpr ⟨co_X10_168, List.forall_mem_cons.mpr ⟨co_X10_180, List.forall_mem_cons.mpr ⟨co_X10_196, fun _ h => absurd h List.not_mem_nil⟩⟩⟩)
theorem xf_PR_read_12 : xfl X_PR_read 12 = (10, 0, 1) := by decide +kernel
theorem xf_PR_read_53 : xfl X_PR_read 53 = (3, 9, 4) := by decide +kernel
theorem xe_PR_read_168 : xE X_PR_read (4 * 42 + 0) = (2, 0, 0, 0, T_Tape_cut) := rfl
theorem xe_PR_read_180 : xE X_PR_read (4 * 45 + 0) = (2, 0, 0, 0, T_PR_pictureAt) := rfl
theorem xe_PR_read_196 : xE X_PR_read (4 * 49 + 0) = (2, 6, 0, 0, T_Picture_load) := rfl
theorem xd_PR_read : xd X_PR_read = 7 := rfl
theorem xrb_PR_read : xrb X_PR_read = 0 := rfl
theorem xin_PR_read : xin X_PR_read = false := rfl
set_option maxHeartbeats 4000000 in
set_option maxRecDepth 100000 in
theorem S_PR_read : Snd yX10_read cX10_read 3 (some .int) T_PR_read 7 0 0 := by
  refine snd_of (X := X_PR_read) (P := P_PR_read) (tb := tb_PR_read) (own := RX10) (by decide) rfl rfl (by decide +kernel) xok_PR_read rfl rk0 (fun h => by first | rfl | cases h) ?_
  intro as M k has hM hT0
  obtain ⟨sz, sl, lay, ρ, σ, τ⟩ := M
  obtain ⟨o, as1, e, hlo, hT1⟩ := mkT_r hT0
  clear hT0
  subst e
  obtain ⟨p, as2, e, hT2⟩ := pI_x hT1
  clear hT1
  subst e
  obtain ⟨e, hT⟩ := hT2
  subst e
  replace hlo : lay o = (20, 0) := hlo
  have r_p : -2147483648 ≤ p ∧ p ≤ 2147483647 := has (vI p) (by simp)
  clear has
  replace hM : ∀ a i, -2147483648 ≤ σ a i ∧ σ a i ≤ 2147483647 := hM
  replace hT : TF_PR_read o p sz sl lay ρ σ τ k := hT
  unfold TF_PR_read at hT
  obtain ⟨hR, hn, hW, hw0, h3, h1, h0⟩ := hT
  obtain ⟨r0, ⟨r1, r2, r3⟩, r4, r5, r6, r7, r8, r9⟩ := (show LRd lay ρ o from hR)
  refine ⟨Nat.le_of_ble_eq_true rfl, fun _ _ _ => False, fun _ _ _ => 0, 27, ?_, fun _ _ _ _ _ _ h => h.elim⟩
  by_cases hp : 0 ≤ p ∧ p < 3
  · have hpE : (0 ≤ p ∧ p < 3) = True := eq_true hp
    replace h1 := h1 hp
    have h3p := h3 p hp
    obtain ⟨P, eP, -, hPc, hP0⟩ := hR.pic hp
    have hPe : o + 6 + 44 * p.toNat = P := eP.symm
    rw [hPe] at h1 h3p
    obtain ⟨hP, hKd, hTh, hRt, hHo, hWy, hSy, hLf, hTw⟩ := (show LPic lay ρ P from hPc)
    (obtain ⟨ph, pp0, pp1, pp2, pp3, pp4, pp5, pp6, pp7, pq0, pq1, pq2, pq3, pq4, pq5, pq6, pq7⟩ := (show LPicture lay ρ _ from hP); unfold wps; simp only [hpE, hPe, si_iload_n0, si_iload_n1, si_iload_n2, si_iload_n3, si_iload, si_lload_n0, si_lload_n1, si_lload_n2, si_lload_n3, si_lload, si_aload_n0, si_aload_n1, si_aload_n2, si_aload_n3, si_aload, si_istore_n0, si_istore_n1, si_istore_n2, si_istore_n3, si_istore, si_astore_n0, si_astore_n1, si_astore_n2, si_astore_n3, si_astore, si_lstore_n0, si_lstore_n1, si_lstore_n2, si_lstore_n3, si_lstore, si_iconst, si_bipush, si_sipush, si_ldc, si_ldc2_w, si_lconst0, si_lconst1, si_aconst_null, si_iinc, si_dup, si_dup2, si_iadd, si_isub, si_imul, si_idiv, si_irem, si_iand, si_ior, si_ishl, si_ishr, si_ladd, si_lmul, si_lor, si_lxor, si_lshl, si_lushr, si_lcmp, si_i2b, si_i2l, si_l2i, si_icmp_eq, si_icmp_ne, si_icmp_lt, si_icmp_ge, si_icmp_gt, si_icmp_le, si_if_eq, si_if_ne, si_if_lt, si_if_ge, si_if_gt, si_if_le, si_ifnull, si_ifnonnull, si_goto, si_tableswitch, si_lookupswitch, si_getfield, si_putfield, si_getstatic, si_iaload, si_baload, si_laload, si_aaload, si_iastore, si_bastore, si_lastore, si_aastore, si_arraylength, si_new, si_newarray, si_anewarray, si_invokevirtual, si_invokespecial, si_invokestatic, si_ireturn, si_lreturn, si_areturn, si_return_, pI_e, pL_e, pR_e, pA_r, pA_n, pN_n, pN_r, oI_e, oL_e, oA_r, oA_n, lget_e, lrm1_0, lrm2_0, lrm1_i, lrm1_r, lrm1_n, lrm1_l, lrm2_i, lrm2_r, lrm2_n, lrm2_l, popN_0, popN_s, acat_i, acat_l, acat_r, acat_n, stw_0, stw_s, psh_s, psh_n, wgf_r, wgf_i, wgf_b, wgf_n, wgf_m, wpf_i, wpf_r, wpf_b, wnew_e, callE_e, rbk_0, rbk_1, tsw_0, tsw_s, lsw_0, lsw_s, wp_s, wq_t, wq_f, oV_e, pick_0, pick_s, oZ_e, oY_e, r_PR_read_0, r_PR_read_1, r_PR_read_2, r_PR_read_5, r_PR_read_6, r_PR_read_7, r_PR_read_10, r_PR_read_11, r_PR_read_12, r_PR_read_13, r_PR_read_14, r_PR_read_17, r_PR_read_20, r_PR_read_21, r_PR_read_24, r_PR_read_25, r_PR_read_28, r_PR_read_29, r_PR_read_32, xf_PR_read_12, xf_PR_read_53, xe_PR_read_168, xe_PR_read_180, xe_PR_read_196, xd_PR_read, xrb_PR_read, xin_PR_read, T_Tape_cut_e, TF_Tape_cut, T_PR_pictureAt_e, TF_PR_pictureAt, T_Picture_load_e, TF_Picture_load, r0, r1, r2, r3, r4, r5, ph, pp0, pp1, pp2, pp3, pp4, pp5, pp6, pp7, pq0, pq1, pq2, pq3, pq4, pq5, pq6, pq7, Nat.reduceAdd, Nat.reduceMul, Nat.reduceEqDiff, reduceIte, Int.reduceNeg, Int.reduceLE, Int.reduceLT, Int.reduceAdd, Int.reduceSub, Int.reduceToNat, true_and, and_true, inR_e, Nat.reduceLT, Nat.reduceLeDiff, reduceCtorEq, Nat.add_zero, Nat.zero_add, or_false, false_or, or_true, true_or, not_true_eq_false, not_false_eq_true, Classical.not_not, Nat.add_eq_zero_iff, and_false, false_and, Int.reduceEq, List.mem_cons, List.not_mem_nil, forall_eq_or_imp, forall_eq, false_implies, implies_true, forall_const, aargs_0, aargs_i, aargs_r, aargs_l, aargs_n, nfT_e, eq_self, and_self, Nat.le_refl, fu_s, fu_fu, iu_iu, iu_s, fu_am, fu_a0, fu_0a, iu_l, Nat.reduceBEq, Int.reduceBEq, T_objInit_e]; clear pp0 pp1 pp2 pp3 pp4 pp5 pp6 pp7)
    refine ⟨hR, hPc, r7, hn, by omega, hW, by omega, h3p, fun σ1 τ1 m f1 f2 f3 f4 => ?_⟩
    have hrc := f4.1.1.2.1
    have et : σ1 (o + 1) = σ (o + 1) := f1.lo (by omega)
    have key := h1 σ1 τ1 m f1 f2 f3 f4
    refine ⟨fun z => by rw [fu_n (by omega), hrc]; exact key, fun z => ?_⟩
    rw [hrc]
    rw [iu_self2 (by rw [et] at z ⊢; omega), fu_self] at key
    exact key
  · have hpE : (0 ≤ p ∧ p < 3) = False := eq_false hp
    (unfold wps; simp only [hpE, si_iload_n0, si_iload_n1, si_iload_n2, si_iload_n3, si_iload, si_lload_n0, si_lload_n1, si_lload_n2, si_lload_n3, si_lload, si_aload_n0, si_aload_n1, si_aload_n2, si_aload_n3, si_aload, si_istore_n0, si_istore_n1, si_istore_n2, si_istore_n3, si_istore, si_astore_n0, si_astore_n1, si_astore_n2, si_astore_n3, si_astore, si_lstore_n0, si_lstore_n1, si_lstore_n2, si_lstore_n3, si_lstore, si_iconst, si_bipush, si_sipush, si_ldc, si_ldc2_w, si_lconst0, si_lconst1, si_aconst_null, si_iinc, si_dup, si_dup2, si_iadd, si_isub, si_imul, si_idiv, si_irem, si_iand, si_ior, si_ishl, si_ishr, si_ladd, si_lmul, si_lor, si_lxor, si_lshl, si_lushr, si_lcmp, si_i2b, si_i2l, si_l2i, si_icmp_eq, si_icmp_ne, si_icmp_lt, si_icmp_ge, si_icmp_gt, si_icmp_le, si_if_eq, si_if_ne, si_if_lt, si_if_ge, si_if_gt, si_if_le, si_ifnull, si_ifnonnull, si_goto, si_tableswitch, si_lookupswitch, si_getfield, si_putfield, si_getstatic, si_iaload, si_baload, si_laload, si_aaload, si_iastore, si_bastore, si_lastore, si_aastore, si_arraylength, si_new, si_newarray, si_anewarray, si_invokevirtual, si_invokespecial, si_invokestatic, si_ireturn, si_lreturn, si_areturn, si_return_, pI_e, pL_e, pR_e, pA_r, pA_n, pN_n, pN_r, oI_e, oL_e, oA_r, oA_n, lget_e, lrm1_0, lrm2_0, lrm1_i, lrm1_r, lrm1_n, lrm1_l, lrm2_i, lrm2_r, lrm2_n, lrm2_l, popN_0, popN_s, acat_i, acat_l, acat_r, acat_n, stw_0, stw_s, psh_s, psh_n, wgf_r, wgf_i, wgf_b, wgf_n, wgf_m, wpf_i, wpf_r, wpf_b, wnew_e, callE_e, rbk_0, rbk_1, tsw_0, tsw_s, lsw_0, lsw_s, wp_s, wq_t, wq_f, oV_e, pick_0, pick_s, oZ_e, oY_e, r_PR_read_0, r_PR_read_1, r_PR_read_2, r_PR_read_5, r_PR_read_6, r_PR_read_7, r_PR_read_10, r_PR_read_11, r_PR_read_12, r_PR_read_13, r_PR_read_14, r_PR_read_17, r_PR_read_20, r_PR_read_21, r_PR_read_24, r_PR_read_25, r_PR_read_28, r_PR_read_29, r_PR_read_32, xf_PR_read_12, xf_PR_read_53, xe_PR_read_168, xe_PR_read_180, xe_PR_read_196, xd_PR_read, xrb_PR_read, xin_PR_read, T_Tape_cut_e, TF_Tape_cut, T_PR_pictureAt_e, TF_PR_pictureAt, T_Picture_load_e, TF_Picture_load, r0, r1, r2, r3, r4, r5, Nat.reduceAdd, Nat.reduceMul, Nat.reduceEqDiff, reduceIte, Int.reduceNeg, Int.reduceLE, Int.reduceLT, Int.reduceAdd, Int.reduceSub, Int.reduceToNat, true_and, and_true, inR_e, Nat.reduceLT, Nat.reduceLeDiff, reduceCtorEq, Nat.add_zero, Nat.zero_add, or_false, false_or, or_true, true_or, not_true_eq_false, not_false_eq_true, Classical.not_not, Nat.add_eq_zero_iff, and_false, false_and, Int.reduceEq, List.mem_cons, List.not_mem_nil, forall_eq_or_imp, forall_eq, false_implies, implies_true, forall_const, aargs_0, aargs_i, aargs_r, aargs_l, aargs_n, nfT_e, eq_self, and_self, Nat.le_refl, fu_s, fu_fu, iu_iu, iu_s, fu_am, fu_a0, fu_0a, iu_l, Nat.reduceBEq, Int.reduceBEq, T_objInit_e])
    exact ⟨hR, h0 hp⟩

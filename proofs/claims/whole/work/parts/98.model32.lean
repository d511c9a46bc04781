def TF_Model_step (o : Nat) (j : Int) (sz sl : Nat) (lay : Nat → Nat × Int) (ρ : Nat → Int → Nat) (σ : Nat → Int → Int) (τ : Nat → Int → Int64) (k : Option AV → Mm → Prop) : Prop := LModel lay ρ o ∧ (0 ≤ σ o 23 ∧ σ o 23 ≤ 600) ∧ (0 ≤ j ∧ j < σ o 23 → k (some (vI (σ (o + 22) j))) (sz, sl, lay, ρ, σ, τ)) ∧ (¬ (0 ≤ j ∧ j < σ o 23) → k (some (vI (-1))) (sz, sl, lay, ρ, σ, τ))
def T_Model_step : Tr := mkT 11 fun o as M k => pI as fun j as => as = [] ∧ TF_Model_step o j M.1 M.2.1 M.2.2.1 M.2.2.2.1 M.2.2.2.2.1 M.2.2.2.2.2 k
theorem T_Model_step_e {o : Nat} {j : Int} {sz sl : Nat} {lay : Nat → Nat × Int} {ρ : Nat → Int → Nat} {σ : Nat → Int → Int} {τ : Nat → Int → Int64} {k : Option AV → Mm → Prop} : T_Model_step [vR o, vI j] (sz, sl, lay, ρ, σ, τ) k = (lay o = (21, 0) ∧ TF_Model_step o j sz sl lay ρ σ τ k) := by simp [T_Model_step, mkT_e, pI_e, pR_e, pL_e]
theorem T_Model_step_r (as : List AV) (M : Mm) (k : Option AV → Mm → Prop) (h : T_Model_step as M k) : ∃ b As, as = vR b :: As ∧ M.2.2.1 b = (10 + 11, 0) := by
  obtain ⟨b, As, h1, h2, -⟩ := mkT_r h
  exact ⟨b, As, h1, h2⟩
def tb_Model_step : List (Nat × Option (List Nat) × Instr × List Nat) := [(0, none, .iload_n 1, []), (1, none, .ifCond .lt 20, [21]), (4, none, .iload_n 1, []), (5, none, .aload_n 0, []), (6, none, .getfield 200, []), (9, none, .if_icmp .ge 12, [21]), (12, none, .aload_n 0, []), (13, none, .getfield 75, []), (16, none, .iload_n 1, []), (17, none, .iaload, []), (18, none, .goto 4, [22]), (21, none, .iconst (-1), []), (22, none, .ireturn, [])]
def P_Model_step : Nat → Option (List Nat) × Instr × List Nat := plk tb_Model_step
theorem r_Model_step_0 : P_Model_step 0 = (none, .iload_n 1, []) := by decide +kernel
theorem r_Model_step_1 : P_Model_step 1 = (none, .ifCond .lt 20, [21]) := by decide +kernel
theorem r_Model_step_4 : P_Model_step 4 = (none, .iload_n 1, []) := by decide +kernel
theorem r_Model_step_5 : P_Model_step 5 = (none, .aload_n 0, []) := by decide +kernel
theorem r_Model_step_6 : P_Model_step 6 = (none, .getfield 200, []) := by decide +kernel
theorem r_Model_step_9 : P_Model_step 9 = (none, .if_icmp .ge 12, [21]) := by decide +kernel
theorem r_Model_step_12 : P_Model_step 12 = (none, .aload_n 0, []) := by decide +kernel
theorem r_Model_step_13 : P_Model_step 13 = (none, .getfield 75, []) := by decide +kernel
theorem r_Model_step_16 : P_Model_step 16 = (none, .iload_n 1, []) := by decide +kernel
theorem r_Model_step_17 : P_Model_step 17 = (none, .iaload, []) := by decide +kernel
theorem r_Model_step_18 : P_Model_step 18 = (none, .goto 4, [22]) := by decide +kernel
theorem r_Model_step_21 : P_Model_step 21 = (none, .iconst (-1), []) := by decide +kernel
theorem r_Model_step_22 : P_Model_step 22 = (none, .ireturn, []) := by decide +kernel
def E_Model_step : List (Nat × Ent) := []
def X_Model_step : Cx := (llk (0, 0, 9) ftX11, llk 99 ntX11, llk none kcX11, llk none klX11, llk dEnt E_Model_step, 0, 0, false)
theorem xok_Model_step : Xok RX11 X_Model_step := xok_of ftX11_ok ntX11_ok kcX11_ok klX11_ok (E := E_Model_step) (fun _ h => absurd h List.not_mem_nil)
theorem xf_Model_step_75 : xfl X_Model_step 75 = (11, 22, 1) := by decide +kernel
theorem xf_Model_step_200 : xfl X_Model_step 200 = (11, 23, 0) := by decide +kernel
theorem xd_Model_step : xd X_Model_step = 0 := rfl
theorem xrb_Model_step : xrb X_Model_step = 0 := rfl
theorem xin_Model_step : xin X_Model_step = false := rfl
set_option maxHeartbeats 4000000 in
set_option maxRecDepth 100000 in
theorem S_Model_step : Snd yX11_step cX11_step 2 (some .int) T_Model_step 0 0 0 := by
  refine snd_of (X := X_Model_step) (P := P_Model_step) (tb := tb_Model_step) (own := RX11) (by decide) rfl rfl (by decide +kernel) xok_Model_step rfl rk0 (fun h => by first | rfl | cases h) ?_
  intro as M k has hM hT0
  obtain ⟨sz, sl, lay, ρ, σ, τ⟩ := M
  obtain ⟨o, as1, e, hlo, hT1⟩ := mkT_r hT0
  clear hT0
  subst e
  obtain ⟨j, as2, e, hT2⟩ := pI_x hT1
  clear hT1
  subst e
  obtain ⟨e, hT⟩ := hT2
  subst e
  replace hlo : lay o = (21, 0) := hlo
  have r_j : -2147483648 ≤ j ∧ j ≤ 2147483647 := has (vI j) (by simp)
  clear has
  replace hM : ∀ a i, -2147483648 ≤ σ a i ∧ σ a i ≤ 2147483647 := hM
  replace hT : TF_Model_step o j sz sl lay ρ σ τ k := hT
  unfold TF_Model_step at hT
  obtain ⟨hL, hw, h1, h0⟩ := hT
  refine ⟨Nat.le_of_ble_eq_true rfl, fun _ _ _ => False, fun _ _ _ => 0, 21, ?_, fun _ _ _ _ _ _ h => h.elim⟩
  obtain ⟨mh, mp0, mp2, mp3, mp4, mp5, mp6, mp7, mp8, mp9, mp10, mp11, mp12, mp13, mp14, mp15, mp16, mp17, mp18, mp19, mp20, mp21, mp22, mp24, mp25, mp26, mp27, mq0, mq2, mq3, mq4, mq5, mq6, mq7, mq8, mq9, mq10, mq11, mq12, mq13, mq14, mq15, mq16, mq17, mq18, mq19, mq20, mq21, mq22, mq24, mq25, mq26, mq27⟩ := (show LModel lay ρ _ from hL)
  unfold wps
  simp only [si_iload_n0, si_iload_n1, si_iload_n2, si_iload_n3, si_iload, si_lload_n0, si_lload_n1, si_lload_n2, si_lload_n3, si_lload, si_aload_n0, si_aload_n1, si_aload_n2, si_aload_n3, si_aload, si_istore_n0, si_istore_n1, si_istore_n2, si_istore_n3, si_istore, si_astore_n0, si_astore_n1, si_astore_n2, si_astore_n3, si_astore, si_lstore_n0, si_lstore_n1, si_lstore_n2, si_lstore_n3, si_lstore, si_iconst, si_bipush, si_sipush, si_ldc, si_ldc2_w, si_lconst0, si_lconst1, si_aconst_null, si_iinc, si_dup, si_dup2, si_iadd, si_isub, si_imul, si_idiv, si_irem, si_iand, si_ior, si_ishl, si_ishr, si_ladd, si_lmul, si_lor, si_lxor, si_lshl, si_lushr, si_lcmp, si_i2b, si_i2l, si_l2i, si_icmp_eq, si_icmp_ne, si_icmp_lt, si_icmp_ge, si_icmp_gt, si_icmp_le, si_if_eq, si_if_ne, si_if_lt, si_if_ge, si_if_gt, si_if_le, si_ifnull, si_ifnonnull, si_goto, si_tableswitch, si_lookupswitch, si_getfield, si_putfield, si_getstatic, si_iaload, si_baload, si_laload, si_aaload, si_iastore, si_bastore, si_lastore, si_aastore, si_arraylength, si_new, si_newarray, si_anewarray, si_invokevirtual, si_invokespecial, si_invokestatic, si_ireturn, si_lreturn, si_areturn, si_return_, pI_e, pL_e, pR_e, pA_r, pA_n, pN_n, pN_r, oI_e, oL_e, oA_r, oA_n, lget_e, lrm1_0, lrm2_0, lrm1_i, lrm1_r, lrm1_n, lrm1_l, lrm2_i, lrm2_r, lrm2_n, lrm2_l, popN_0, popN_s, acat_i, acat_l, acat_r, acat_n, stw_0, stw_s, psh_s, psh_n, wgf_r, wgf_i, wgf_b, wgf_n, wgf_m, wpf_i, wpf_r, wpf_b, wnew_e, callE_e, rbk_0, rbk_1, tsw_0, tsw_s, lsw_0, lsw_s, wp_s, wq_t, wq_f, oV_e, pick_0, pick_s, oZ_e, oY_e, r_Model_step_0, r_Model_step_1, r_Model_step_4, r_Model_step_5, r_Model_step_6, r_Model_step_9, r_Model_step_12, r_Model_step_13, r_Model_step_16, r_Model_step_17, r_Model_step_18, r_Model_step_21, r_Model_step_22, xf_Model_step_75, xf_Model_step_200, xd_Model_step, xrb_Model_step, xin_Model_step, mh, mp0, mp2, mp3, mp4, mp5, mp6, mp7, mp8, mp9, mp10, mp11, mp12, mp13, mp14, mp15, mp16, mp17, mp18, mp19, mp20, mp21, mp22, mp24, mp25, mp26, mp27, mq0, mq2, mq3, mq4, mq5, mq6, mq7, mq8, mq9, mq10, mq11, mq12, mq13, mq14, mq15, mq16, mq17, mq18, mq19, mq20, mq21, mq22, mq24, mq25, mq26, mq27, Nat.reduceAdd, Nat.reduceMul, Nat.reduceEqDiff, reduceIte, Int.reduceNeg, Int.reduceLE, Int.reduceLT, Int.reduceAdd, Int.reduceSub, Int.reduceToNat, true_and, and_true, inR_e, Nat.reduceLT, Nat.reduceLeDiff, reduceCtorEq, Nat.add_zero, Nat.zero_add, or_false, false_or, or_true, true_or, not_true_eq_false, not_false_eq_true, Classical.not_not, Nat.add_eq_zero_iff, and_false, false_and, Int.reduceEq, List.mem_cons, List.not_mem_nil, forall_eq_or_imp, forall_eq, false_implies, implies_true, forall_const, aargs_0, aargs_i, aargs_r, aargs_l, aargs_n, nfT_e, eq_self, and_self, Nat.le_refl, fu_s, fu_fu, iu_iu, iu_s, fu_am, fu_a0, fu_0a, iu_l, Nat.reduceBEq, Int.reduceBEq, T_objInit_e]
  clear mp0 mp2 mp3 mp4 mp5 mp6 mp7 mp8 mp9 mp10 mp11 mp12 mp13 mp14 mp15 mp16 mp17 mp18 mp19 mp20 mp21 mp22 mp24 mp25 mp26 mp27
  repeat' (first | assumption | intro _ | apply And.intro)
  all_goals first | omega | assumption | (exact h1 (by omega)) | (exact h0 (by omega)) | (exact h1 ⟨by omega, by omega⟩) | (exact h0 ⟨by omega, by omega⟩) | (exact h1 ⟨by omega, by omega, by omega⟩) | (exact h0 ⟨by omega, by omega, by omega⟩)
def TF_Model_end (o : Nat) (n : Int) (sz sl : Nat) (lay : Nat → Nat × Int) (ρ : Nat → Int → Nat) (σ : Nat → Int → Int) (τ : Nat → Int → Int64) (k : Option AV → Mm → Prop) : Prop := LModel lay ρ o ∧ (0 ≤ n ∧ n ≤ σ o 1 → k (some (vI (n))) (sz, sl, lay, ρ, fu σ o (iu (σ o) 1 n), τ)) ∧ (¬ (0 ≤ n ∧ n ≤ σ o 1) → k (some (vI (-1))) (sz, sl, lay, ρ, σ, τ))
def T_Model_end : Tr := mkT 11 fun o as M k => pI as fun n as => as = [] ∧ TF_Model_end o n M.1 M.2.1 M.2.2.1 M.2.2.2.1 M.2.2.2.2.1 M.2.2.2.2.2 k
theorem T_Model_end_e {o : Nat} {n : Int} {sz sl : Nat} {lay : Nat → Nat × Int} {ρ : Nat → Int → Nat} {σ : Nat → Int → Int} {τ : Nat → Int → Int64} {k : Option AV → Mm → Prop} : T_Model_end [vR o, vI n] (sz, sl, lay, ρ, σ, τ) k = (lay o = (21, 0) ∧ TF_Model_end o n sz sl lay ρ σ τ k) := by simp [T_Model_end, mkT_e, pI_e, pR_e, pL_e]
theorem T_Model_end_r (as : List AV) (M : Mm) (k : Option AV → Mm → Prop) (h : T_Model_end as M k) : ∃ b As, as = vR b :: As ∧ M.2.2.1 b = (10 + 11, 0) := by
  obtain ⟨b, As, h1, h2, -⟩ := mkT_r h
  exact ⟨b, As, h1, h2⟩
def tb_Model_end : List (Nat × Option (List Nat) × Instr × List Nat) := [(0, none, .iload_n 1, []), (1, none, .ifCond .lt 11, [12]), (4, none, .iload_n 1, []), (5, none, .aload_n 0, []), (6, none, .getfield 91, []), (9, none, .if_icmp .le 5, [14]), (12, none, .iconst (-1), []), (13, none, .ireturn, []), (14, none, .aload_n 0, []), (15, none, .iload_n 1, []), (16, none, .putfield 91, []), (19, none, .iload_n 1, []), (20, none, .ireturn, [])]
def P_Model_end : Nat → Option (List Nat) × Instr × List Nat := plk tb_Model_end
theorem r_Model_end_0 : P_Model_end 0 = (none, .iload_n 1, []) := by decide +kernel
theorem r_Model_end_1 : P_Model_end 1 = (none, .ifCond .lt 11, [12]) := by decide +kernel
theorem r_Model_end_4 : P_Model_end 4 = (none, .iload_n 1, []) := by decide +kernel
theorem r_Model_end_5 : P_Model_end 5 = (none, .aload_n 0, []) := by decide +kernel
theorem r_Model_end_6 : P_Model_end 6 = (none, .getfield 91, []) := by decide +kernel
theorem r_Model_end_9 : P_Model_end 9 = (none, .if_icmp .le 5, [14]) := by decide +kernel
theorem r_Model_end_12 : P_Model_end 12 = (none, .iconst (-1), []) := by decide +kernel
theorem r_Model_end_13 : P_Model_end 13 = (none, .ireturn, []) := by decide +kernel
theorem r_Model_end_14 : P_Model_end 14 = (none, .aload_n 0, []) := by decide +kernel
theorem r_Model_end_15 : P_Model_end 15 = (none, .iload_n 1, []) := by decide +kernel
theorem r_Model_end_16 : P_Model_end 16 = (none, .putfield 91, []) := by decide +kernel
theorem r_Model_end_19 : P_Model_end 19 = (none, .iload_n 1, []) := by decide +kernel
theorem r_Model_end_20 : P_Model_end 20 = (none, .ireturn, []) := by decide +kernel
def E_Model_end : List (Nat × Ent) := []
def X_Model_end : Cx := (llk (0, 0, 9) ftX11, llk 99 ntX11, llk none kcX11, llk none klX11, llk dEnt E_Model_end, 0, 0, false)
theorem xok_Model_end : Xok RX11 X_Model_end := xok_of ftX11_ok ntX11_ok kcX11_ok klX11_ok (E := E_Model_end) (fun _ h => absurd h List.not_mem_nil)
theorem xf_Model_end_91 : xfl X_Model_end 91 = (11, 1, 0) := by decide +kernel
theorem xd_Model_end : xd X_Model_end = 0 := rfl
theorem xrb_Model_end : xrb X_Model_end = 0 := rfl
theorem xin_Model_end : xin X_Model_end = false := rfl
set_option maxHeartbeats 4000000 in
set_option maxRecDepth 100000 in
theorem S_Model_end : Snd yX11_end cX11_end 2 (some .int) T_Model_end 0 0 0 := by
  refine snd_of (X := X_Model_end) (P := P_Model_end) (tb := tb_Model_end) (own := RX11) (by decide) rfl rfl (by decide +kernel) xok_Model_end rfl rk0 (fun h => by first | rfl | cases h) ?_
  intro as M k has hM hT0
  obtain ⟨sz, sl, lay, ρ, σ, τ⟩ := M
  obtain ⟨o, as1, e, hlo, hT1⟩ := mkT_r hT0
  clear hT0
  subst e
  obtain ⟨n, as2, e, hT2⟩ := pI_x hT1
  clear hT1
  subst e
  obtain ⟨e, hT⟩ := hT2
  subst e
  replace hlo : lay o = (21, 0) := hlo
  have r_n : -2147483648 ≤ n ∧ n ≤ 2147483647 := has (vI n) (by simp)
  clear has
  replace hM : ∀ a i, -2147483648 ≤ σ a i ∧ σ a i ≤ 2147483647 := hM
  replace hT : TF_Model_end o n sz sl lay ρ σ τ k := hT
  unfold TF_Model_end at hT
  obtain ⟨hL, h1, h0⟩ := hT
  refine ⟨Nat.le_of_ble_eq_true rfl, fun _ _ _ => False, fun _ _ _ => 0, 21, ?_, fun _ _ _ _ _ _ h => h.elim⟩
  obtain ⟨mh, mp0, mp2, mp3, mp4, mp5, mp6, mp7, mp8, mp9, mp10, mp11, mp12, mp13, mp14, mp15, mp16, mp17, mp18, mp19, mp20, mp21, mp22, mp24, mp25, mp26, mp27, mq0, mq2, mq3, mq4, mq5, mq6, mq7, mq8, mq9, mq10, mq11, mq12, mq13, mq14, mq15, mq16, mq17, mq18, mq19, mq20, mq21, mq22, mq24, mq25, mq26, mq27⟩ := (show LModel lay ρ _ from hL)
  unfold wps
  simp only [si_iload_n0, si_iload_n1, si_iload_n2, si_iload_n3, si_iload, si_lload_n0, si_lload_n1, si_lload_n2, si_lload_n3, si_lload, si_aload_n0, si_aload_n1, si_aload_n2, si_aload_n3, si_aload, si_istore_n0, si_istore_n1, si_istore_n2, si_istore_n3, si_istore, si_astore_n0, si_astore_n1, si_astore_n2, si_astore_n3, si_astore, si_lstore_n0, si_lstore_n1, si_lstore_n2, si_lstore_n3, si_lstore, si_iconst, si_bipush, si_sipush, si_ldc, si_ldc2_w, si_lconst0, si_lconst1, si_aconst_null, si_iinc, si_dup, si_dup2, si_iadd, si_isub, si_imul, si_idiv, si_irem, si_iand, si_ior, si_ishl, si_ishr, si_ladd, si_lmul, si_lor, si_lxor, si_lshl, si_lushr, si_lcmp, si_i2b, si_i2l, si_l2i, si_icmp_eq, si_icmp_ne, si_icmp_lt, si_icmp_ge, si_icmp_gt, si_icmp_le, si_if_eq, si_if_ne, si_if_lt, si_if_ge, si_if_gt, si_if_le, si_ifnull, si_ifnonnull, si_goto, si_tableswitch, si_lookupswitch, si_getfield, si_putfield, si_getstatic, si_iaload, si_baload, si_laload, si_aaload, si_iastore, si_bastore, si_lastore, si_aastore, si_arraylength, si_new, si_newarray, si_anewarray, si_invokevirtual, si_invokespecial, si_invokestatic, si_ireturn, si_lreturn, si_areturn, si_return_, pI_e, pL_e, pR_e, pA_r, pA_n, pN_n, pN_r, oI_e, oL_e, oA_r, oA_n, lget_e, lrm1_0, lrm2_0, lrm1_i, lrm1_r, lrm1_n, lrm1_l, lrm2_i, lrm2_r, lrm2_n, lrm2_l, popN_0, popN_s, acat_i, acat_l, acat_r, acat_n, stw_0, stw_s, psh_s, psh_n, wgf_r, wgf_i, wgf_b, wgf_n, wgf_m, wpf_i, wpf_r, wpf_b, wnew_e, callE_e, rbk_0, rbk_1, tsw_0, tsw_s, lsw_0, lsw_s, wp_s, wq_t, wq_f, oV_e, pick_0, pick_s, oZ_e, oY_e, r_Model_end_0, r_Model_end_1, r_Model_end_4, r_Model_end_5, r_Model_end_6, r_Model_end_9, r_Model_end_12, r_Model_end_13, r_Model_end_14, r_Model_end_15, r_Model_end_16, r_Model_end_19, r_Model_end_20, xf_Model_end_91, xd_Model_end, xrb_Model_end, xin_Model_end, mh, mp0, mp2, mp3, mp4, mp5, mp6, mp7, mp8, mp9, mp10, mp11, mp12, mp13, mp14, mp15, mp16, mp17, mp18, mp19, mp20, mp21, mp22, mp24, mp25, mp26, mp27, mq0, mq2, mq3, mq4, mq5, mq6, mq7, mq8, mq9, mq10, mq11, mq12, mq13, mq14, mq15, mq16, mq17, mq18, mq19, mq20, mq21, mq22, mq24, mq25, mq26, mq27, Nat.reduceAdd, Nat.reduceMul, Nat.reduceEqDiff, reduceIte, Int.reduceNeg, Int.reduceLE, Int.reduceLT, Int.reduceAdd, Int.reduceSub, Int.reduceToNat, true_and, and_true, inR_e, Nat.reduceLT, Nat.reduceLeDiff, reduceCtorEq, Nat.add_zero, Nat.zero_add, or_false, false_or, or_true, true_or, not_true_eq_false, not_false_eq_true, Classical.not_not, Nat.add_eq_zero_iff, and_false, false_and, Int.reduceEq, List.mem_cons, List.not_mem_nil, forall_eq_or_imp, forall_eq, false_implies, implies_true, forall_const, aargs_0, aargs_i, aargs_r, aargs_l, aargs_n, nfT_e, eq_self, and_self, Nat.le_refl, fu_s, fu_fu, iu_iu, iu_s, fu_am, fu_a0, fu_0a, iu_l, Nat.reduceBEq, Int.reduceBEq, T_objInit_e]
  clear mp0 mp2 mp3 mp4 mp5 mp6 mp7 mp8 mp9 mp10 mp11 mp12 mp13 mp14 mp15 mp16 mp17 mp18 mp19 mp20 mp21 mp22 mp24 mp25 mp26 mp27
  repeat' (first | assumption | intro _ | apply And.intro)
  all_goals first | omega | assumption | (exact h1 (by omega)) | (exact h0 (by omega)) | (exact h1 ⟨by omega, by omega⟩) | (exact h0 ⟨by omega, by omega⟩) | (exact h1 ⟨by omega, by omega, by omega⟩) | (exact h0 ⟨by omega, by omega, by omega⟩)
theorem fu4 {α : Type} {s : Nat → α} {a b : Nat} {f g f2 g2 : α} (h : ¬ a = b) : fu (fu (fu (fu s a f) b g) a f2) b g2 = fu (fu s a f2) b g2 := by
  funext x
  by_cases e : x = b
  · rw [e, fu_s, fu_s]
  · rw [fu_n e, fu_n e]
    by_cases e2 : x = a
    · rw [e2, fu_s, fu_s]
    · rw [fu_n e2, fu_n e2, fu_n e, fu_n e2]
/-- the word of a byte that is fed -/
def wsl (a b c d e k : Int) : Int := if k < 4 then a else if k < 8 then b else if k < 12 then c else if k < 16 then d else e
def wby (a b c d e k : Int) : Int := i2bZ (shrZ (wsl a b c d e k) (24 - 8 * (k % 4)))
def TF_Model_feed (o : Nat) (a : Int) (b : Int) (c : Int) (d : Int) (e : Int) (sz sl : Nat) (lay : Nat → Nat × Int) (ρ : Nat → Int → Nat) (σ : Nat → Int → Int) (τ : Nat → Int → Int64) (k : Option AV → Mm → Prop) : Prop := LModel lay ρ o ∧ (0 ≤ σ o 1 ∧ σ o 1 ≤ 8000) ∧ (∀ i, -128 ≤ σ (o + 1) i ∧ σ (o + 1) i ≤ 127) ∧ (σ o 1 + 20 ≤ 8000 → ∀ f : Int → Int, (∀ j, 0 ≤ j ∧ j < 20 → f (σ o 1 + j) = wby a b c d e j) → (∀ j, j < σ o 1 → f j = σ (o + 1) j) → (∀ j, -128 ≤ f j ∧ f j ≤ 127) → k (some (vI (σ o 1 + 20))) (sz, sl, lay, ρ, fu (fu σ (o + 1) f) o (iu (σ o) 1 (σ o 1 + 20)), τ)) ∧ (¬ σ o 1 + 20 ≤ 8000 → k (some (vI (-1))) (sz, sl, lay, ρ, σ, τ))
def T_Model_feed : Tr := mkT 11 fun o as M k => pI as fun a as => pI as fun b as => pI as fun c as => pI as fun d as => pI as fun e as => as = [] ∧ TF_Model_feed o a b c d e M.1 M.2.1 M.2.2.1 M.2.2.2.1 M.2.2.2.2.1 M.2.2.2.2.2 k
theorem T_Model_feed_e {o : Nat} {a : Int} {b : Int} {c : Int} {d : Int} {e : Int} {sz sl : Nat} {lay : Nat → Nat × Int} {ρ : Nat → Int → Nat} {σ : Nat → Int → Int} {τ : Nat → Int → Int64} {k : Option AV → Mm → Prop} : T_Model_feed [vR o, vI a, vI b, vI c, vI d, vI e] (sz, sl, lay, ρ, σ, τ) k = (lay o = (21, 0) ∧ TF_Model_feed o a b c d e sz sl lay ρ σ τ k) := by simp [T_Model_feed, mkT_e, pI_e, pR_e, pL_e]
theorem T_Model_feed_r (as : List AV) (M : Mm) (k : Option AV → Mm → Prop) (h : T_Model_feed as M k) : ∃ b As, as = vR b :: As ∧ M.2.2.1 b = (10 + 11, 0) := by
  obtain ⟨b, As, h1, h2, -⟩ := mkT_r h
  exact ⟨b, As, h1, h2⟩
def tb_Model_feed : List (Nat × Option (List Nat) × Instr × List Nat) := [(0, none, .aload_n 0, []), (1, none, .getfield 91, []), (4, none, .bipush 20, []), (6, none, .iadd, []), (7, none, .sipush 8000, []), (10, none, .if_icmp .le 5, [15]), (13, none, .iconst (-1), []), (14, none, .ireturn, []), (15, none, .iconst 0, []), (16, none, .istore 6, []), (18, some [0, 1, 2, 3, 4, 5, 6], .iload 6, []), (20, none, .bipush 20, []), (22, none, .if_icmp .ge 90, [112]), (25, none, .iload 6, []), (27, none, .iconst 4, []), (28, none, .if_icmp .ge 7, [35]), (31, none, .iload_n 1, []), (32, none, .goto 39, [71]), (35, none, .iload 6, []), (37, none, .bipush 8, []), (39, none, .if_icmp .ge 7, [46]), (42, none, .iload_n 2, []), (43, none, .goto 28, [71]), (46, none, .iload 6, []), (48, none, .bipush 12, []), (50, none, .if_icmp .ge 7, [57]), (53, none, .iload_n 3, []), (54, none, .goto 17, [71]), (57, none, .iload 6, []), (59, none, .bipush 16, []), (61, none, .if_icmp .ge 8, [69]), (64, none, .iload 4, []), (66, none, .goto 5, [71]), (69, none, .iload 5, []), (71, none, .istore 7, []), (73, none, .aload_n 0, []), (74, none, .getfield 9, []), (77, none, .aload_n 0, []), (78, none, .getfield 91, []), (81, none, .iload 7, []), (83, none, .bipush 24, []), (85, none, .bipush 8, []), (87, none, .iload 6, []), (89, none, .iconst 4, []), (90, none, .irem, []), (91, none, .imul, []), (92, none, .isub, []), (93, none, .ishr, []), (94, none, .i2b, []), (95, none, .bastore, []), (96, none, .aload_n 0, []), (97, none, .dup, []), (98, none, .getfield 91, []), (101, none, .iconst 1, []), (102, none, .iadd, []), (103, none, .putfield 91, []), (106, none, .iinc 6 1, []), (109, none, .goto (-91), [18]), (112, none, .aload_n 0, []), (113, none, .getfield 91, []), (116, none, .ireturn, [])]
def P_Model_feed : Nat → Option (List Nat) × Instr × List Nat := plk tb_Model_feed
theorem r_Model_feed_0 : P_Model_feed 0 = (none, .aload_n 0, []) := by decide +kernel
theorem r_Model_feed_1 : P_Model_feed 1 = (none, .getfield 91, []) := by decide +kernel
theorem r_Model_feed_4 : P_Model_feed 4 = (none, .bipush 20, []) := by decide +kernel
theorem r_Model_feed_6 : P_Model_feed 6 = (none, .iadd, []) := by decide +kernel
theorem r_Model_feed_7 : P_Model_feed 7 = (none, .sipush 8000, []) := by decide +kernel
theorem r_Model_feed_10 : P_Model_feed 10 = (none, .if_icmp .le 5, [15]) := by decide +kernel
theorem r_Model_feed_13 : P_Model_feed 13 = (none, .iconst (-1), []) := by decide +kernel
theorem r_Model_feed_14 : P_Model_feed 14 = (none, .ireturn, []) := by decide +kernel
theorem r_Model_feed_15 : P_Model_feed 15 = (none, .iconst 0, []) := by decide +kernel
theorem r_Model_feed_16 : P_Model_feed 16 = (none, .istore 6, []) := by decide +kernel
theorem r_Model_feed_18 : P_Model_feed 18 = (some [0, 1, 2, 3, 4, 5, 6], .iload 6, []) := by decide +kernel
theorem r_Model_feed_20 : P_Model_feed 20 = (none, .bipush 20, []) := by decide +kernel
theorem r_Model_feed_22 : P_Model_feed 22 = (none, .if_icmp .ge 90, [112]) := by decide +kernel
theorem r_Model_feed_25 : P_Model_feed 25 = (none, .iload 6, []) := by decide +kernel
theorem r_Model_feed_27 : P_Model_feed 27 = (none, .iconst 4, []) := by decide +kernel
theorem r_Model_feed_28 : P_Model_feed 28 = (none, .if_icmp .ge 7, [35]) := by decide +kernel
theorem r_Model_feed_31 : P_Model_feed 31 = (none, .iload_n 1, []) := by decide +kernel
theorem r_Model_feed_32 : P_Model_feed 32 = (none, .goto 39, [71]) := by decide +kernel
theorem r_Model_feed_35 : P_Model_feed 35 = (none, .iload 6, []) := by decide +kernel
theorem r_Model_feed_37 : P_Model_feed 37 = (none, .bipush 8, []) := by decide +kernel
theorem r_Model_feed_39 : P_Model_feed 39 = (none, .if_icmp .ge 7, [46]) := by decide +kernel
theorem r_Model_feed_42 : P_Model_feed 42 = (none, .iload_n 2, []) := by decide +kernel
theorem r_Model_feed_43 : P_Model_feed 43 = (none, .goto 28, [71]) := by decide +kernel
theorem r_Model_feed_46 : P_Model_feed 46 = (none, .iload 6, []) := by decide +kernel
theorem r_Model_feed_48 : P_Model_feed 48 = (none, .bipush 12, []) := by decide +kernel
theorem r_Model_feed_50 : P_Model_feed 50 = (none, .if_icmp .ge 7, [57]) := by decide +kernel
theorem r_Model_feed_53 : P_Model_feed 53 = (none, .iload_n 3, []) := by decide +kernel
theorem r_Model_feed_54 : P_Model_feed 54 = (none, .goto 17, [71]) := by decide +kernel
theorem r_Model_feed_57 : P_Model_feed 57 = (none, .iload 6, []) := by decide +kernel
theorem r_Model_feed_59 : P_Model_feed 59 = (none, .bipush 16, []) := by decide +kernel
theorem r_Model_feed_61 : P_Model_feed 61 = (none, .if_icmp .ge 8, [69]) := by decide +kernel
theorem r_Model_feed_64 : P_Model_feed 64 = (none, .iload 4, []) := by decide +kernel
theorem r_Model_feed_66 : P_Model_feed 66 = (none, .goto 5, [71]) := by decide +kernel
theorem r_Model_feed_69 : P_Model_feed 69 = (none, .iload 5, []) := by decide +kernel
theorem r_Model_feed_71 : P_Model_feed 71 = (none, .istore 7, []) := by decide +kernel
theorem r_Model_feed_73 : P_Model_feed 73 = (none, .aload_n 0, []) := by decide +kernel
theorem r_Model_feed_74 : P_Model_feed 74 = (none, .getfield 9, []) := by decide +kernel
theorem r_Model_feed_77 : P_Model_feed 77 = (none, .aload_n 0, []) := by decide +kernel
theorem r_Model_feed_78 : P_Model_feed 78 = (none, .getfield 91, []) := by decide +kernel
theorem r_Model_feed_81 : P_Model_feed 81 = (none, .iload 7, []) := by decide +kernel
theorem r_Model_feed_83 : P_Model_feed 83 = (none, .bipush 24, []) := by decide +kernel
theorem r_Model_feed_85 : P_Model_feed 85 = (none, .bipush 8, []) := by decide +kernel
theorem r_Model_feed_87 : P_Model_feed 87 = (none, .iload 6, []) := by decide +kernel
theorem r_Model_feed_89 : P_Model_feed 89 = (none, .iconst 4, []) := by decide +kernel
theorem r_Model_feed_90 : P_Model_feed 90 = (none, .irem, []) := by decide +kernel
theorem r_Model_feed_91 : P_Model_feed 91 = (none, .imul, []) := by decide +kernel
theorem r_Model_feed_92 : P_Model_feed 92 = (none, .isub, []) := by decide +kernel
theorem r_Model_feed_93 : P_Model_feed 93 = (none, .ishr, []) := by decide +kernel
theorem r_Model_feed_94 : P_Model_feed 94 = (none, .i2b, []) := by decide +kernel
theorem r_Model_feed_95 : P_Model_feed 95 = (none, .bastore, []) := by decide +kernel
theorem r_Model_feed_96 : P_Model_feed 96 = (none, .aload_n 0, []) := by decide +kernel
theorem r_Model_feed_97 : P_Model_feed 97 = (none, .dup, []) := by decide +kernel
theorem r_Model_feed_98 : P_Model_feed 98 = (none, .getfield 91, []) := by decide +kernel
theorem r_Model_feed_101 : P_Model_feed 101 = (none, .iconst 1, []) := by decide +kernel
theorem r_Model_feed_102 : P_Model_feed 102 = (none, .iadd, []) := by decide +kernel
theorem r_Model_feed_103 : P_Model_feed 103 = (none, .putfield 91, []) := by decide +kernel
theorem r_Model_feed_106 : P_Model_feed 106 = (none, .iinc 6 1, []) := by decide +kernel
theorem r_Model_feed_109 : P_Model_feed 109 = (none, .goto (-91), [18]) := by decide +kernel
theorem r_Model_feed_112 : P_Model_feed 112 = (none, .aload_n 0, []) := by decide +kernel
theorem r_Model_feed_113 : P_Model_feed 113 = (none, .getfield 91, []) := by decide +kernel
theorem r_Model_feed_116 : P_Model_feed 116 = (none, .ireturn, []) := by decide +kernel
def E_Model_feed : List (Nat × Ent) := []
def X_Model_feed : Cx := (llk (0, 0, 9) ftX11, llk 99 ntX11, llk none kcX11, llk none klX11, llk dEnt E_Model_feed, 0, 0, false)
theorem xok_Model_feed : Xok RX11 X_Model_feed := xok_of ftX11_ok ntX11_ok kcX11_ok klX11_ok (E := E_Model_feed) (fun _ h => absurd h List.not_mem_nil)
theorem xf_Model_feed_9 : xfl X_Model_feed 9 = (11, 0, 1) := by decide +kernel
theorem xf_Model_feed_91 : xfl X_Model_feed 91 = (11, 1, 0) := by decide +kernel
theorem xd_Model_feed : xd X_Model_feed = 0 := rfl
theorem xrb_Model_feed : xrb X_Model_feed = 0 := rfl
theorem xin_Model_feed : xin X_Model_feed = false := rfl
set_option maxHeartbeats 4000000 in
set_option maxRecDepth 100000 in
theorem S_Model_feed : Snd yX11_feed cX11_feed 8 (some .int) T_Model_feed 0 0 0 := by
  refine snd_of (X := X_Model_feed) (P := P_Model_feed) (tb := tb_Model_feed) (own := RX11) (by decide) rfl rfl (by decide +kernel) xok_Model_feed rfl rk0 (fun h => by first | rfl | cases h) ?_
  intro as M k has hM hT0
  obtain ⟨sz, sl, lay, ρ, σ, τ⟩ := M
  obtain ⟨o, as1, e, hlo, hT1⟩ := mkT_r hT0
  clear hT0
  subst e
  obtain ⟨a, as2, e, hT2⟩ := pI_x hT1
  clear hT1
  subst e
  obtain ⟨b, as3, e, hT3⟩ := pI_x hT2
  clear hT2
  subst e
  obtain ⟨c, as4, e, hT4⟩ := pI_x hT3
  clear hT3
  subst e
  obtain ⟨d, as5, e, hT5⟩ := pI_x hT4
  clear hT4
  subst e
  obtain ⟨e, as6, e, hT6⟩ := pI_x hT5
  clear hT5
  subst e
  obtain ⟨e, hT⟩ := hT6
  subst e
  replace hlo : lay o = (21, 0) := hlo
  have r_a : -2147483648 ≤ a ∧ a ≤ 2147483647 := has (vI a) (by simp)
  have r_b : -2147483648 ≤ b ∧ b ≤ 2147483647 := has (vI b) (by simp)
  have r_c : -2147483648 ≤ c ∧ c ≤ 2147483647 := has (vI c) (by simp)
  have r_d : -2147483648 ≤ d ∧ d ≤ 2147483647 := has (vI d) (by simp)
  have r_e : -2147483648 ≤ e ∧ e ≤ 2147483647 := has (vI e) (by simp)
  clear has
  replace hM : ∀ a i, -2147483648 ≤ σ a i ∧ σ a i ≤ 2147483647 := hM
  replace hT : TF_Model_feed o a b c d e sz sl lay ρ σ τ k := hT
  unfold TF_Model_feed at hT
  obtain ⟨hL, hw, hb, h1, h0⟩ := hT
  obtain ⟨J, hJd⟩ : ∃ J : Nat → List AV → Mm → Prop, J = (fun x vs M1 => x = 18 ∧ σ o 1 + 20 ≤ 8000 ∧ ∃ (i : Int) (f : Int → Int), (0 ≤ i ∧ i ≤ 20) ∧ (∀ j, 0 ≤ j ∧ j < i → f (σ o 1 + j) = wby a b c d e j) ∧ (∀ j, j < σ o 1 → f j = σ (o + 1) j) ∧ (∀ j, -128 ≤ f j ∧ f j ≤ 127) ∧ vs = [vR o, vI a, vI b, vI c, vI d, vI e, vI i] ∧ M1 = (sz, sl, lay, ρ, fu (fu σ (o + 1) f) o (iu (σ o) 1 (σ o 1 + i)), τ)) := ⟨_, rfl⟩
  obtain ⟨μ, hμ⟩ : ∃ μ : Nat → List AV → Mm → Nat, μ = (fun _ vs _ => (100 - gI (vs.getD 6 vN)).toNat) := ⟨_, rfl⟩
  refine ⟨Nat.le_of_ble_eq_true rfl, J, μ, 69, ?_, ?_⟩
  · obtain ⟨mh, mp0, mp2, mp3, mp4, mp5, mp6, mp7, mp8, mp9, mp10, mp11, mp12, mp13, mp14, mp15, mp16, mp17, mp18, mp19, mp20, mp21, mp22, mp24, mp25, mp26, mp27, mq0, mq2, mq3, mq4, mq5, mq6, mq7, mq8, mq9, mq10, mq11, mq12, mq13, mq14, mq15, mq16, mq17, mq18, mq19, mq20, mq21, mq22, mq24, mq25, mq26, mq27⟩ := (show LModel lay ρ _ from hL)
    unfold wps
    simp only [si_iload_n0, si_iload_n1, si_iload_n2, si_iload_n3, si_iload, si_lload_n0, si_lload_n1, si_lload_n2, si_lload_n3, si_lload, si_aload_n0, si_aload_n1, si_aload_n2, si_aload_n3, si_aload, si_istore_n0, si_istore_n1, si_istore_n2, si_istore_n3, si_istore, si_astore_n0, si_astore_n1, si_astore_n2, si_astore_n3, si_astore, si_lstore_n0, si_lstore_n1, si_lstore_n2, si_lstore_n3, si_lstore, si_iconst, si_bipush, si_sipush, si_ldc, si_ldc2_w, si_lconst0, si_lconst1, si_aconst_null, si_iinc, si_dup, si_dup2, si_iadd, si_isub, si_imul, si_idiv, si_irem, si_iand, si_ior, si_ishl, si_ishr, si_ladd, si_lmul, si_lor, si_lxor, si_lshl, si_lushr, si_lcmp, si_i2b, si_i2l, si_l2i, si_icmp_eq, si_icmp_ne, si_icmp_lt, si_icmp_ge, si_icmp_gt, si_icmp_le, si_if_eq, si_if_ne, si_if_lt, si_if_ge, si_if_gt, si_if_le, si_ifnull, si_ifnonnull, si_goto, si_tableswitch, si_lookupswitch, si_getfield, si_putfield, si_getstatic, si_iaload, si_baload, si_laload, si_aaload, si_iastore, si_bastore, si_lastore, si_aastore, si_arraylength, si_new, si_newarray, si_anewarray, si_invokevirtual, si_invokespecial, si_invokestatic, si_ireturn, si_lreturn, si_areturn, si_return_, pI_e, pL_e, pR_e, pA_r, pA_n, pN_n, pN_r, oI_e, oL_e, oA_r, oA_n, lget_e, lrm1_0, lrm2_0, lrm1_i, lrm1_r, lrm1_n, lrm1_l, lrm2_i, lrm2_r, lrm2_n, lrm2_l, popN_0, popN_s, acat_i, acat_l, acat_r, acat_n, stw_0, stw_s, psh_s, psh_n, wgf_r, wgf_i, wgf_b, wgf_n, wgf_m, wpf_i, wpf_r, wpf_b, wnew_e, callE_e, rbk_0, rbk_1, tsw_0, tsw_s, lsw_0, lsw_s, wp_s, wq_t, wq_f, oV_e, pick_0, pick_s, oZ_e, oY_e, r_Model_feed_0, r_Model_feed_1, r_Model_feed_4, r_Model_feed_6, r_Model_feed_7, r_Model_feed_10, r_Model_feed_13, r_Model_feed_14, r_Model_feed_15, r_Model_feed_16, r_Model_feed_18, r_Model_feed_20, r_Model_feed_22, r_Model_feed_25, r_Model_feed_27, r_Model_feed_28, r_Model_feed_31, r_Model_feed_32, r_Model_feed_35, r_Model_feed_37, r_Model_feed_39, r_Model_feed_42, r_Model_feed_43, r_Model_feed_46, r_Model_feed_48, r_Model_feed_50, r_Model_feed_53, r_Model_feed_54, r_Model_feed_57, r_Model_feed_59, r_Model_feed_61, r_Model_feed_64, r_Model_feed_66, r_Model_feed_69, r_Model_feed_71, r_Model_feed_73, r_Model_feed_74, r_Model_feed_77, r_Model_feed_78, r_Model_feed_81, r_Model_feed_83, r_Model_feed_85, r_Model_feed_87, r_Model_feed_89, r_Model_feed_90, r_Model_feed_91, r_Model_feed_92, r_Model_feed_93, r_Model_feed_94, r_Model_feed_95, r_Model_feed_96, r_Model_feed_97, r_Model_feed_98, r_Model_feed_101, r_Model_feed_102, r_Model_feed_103, r_Model_feed_106, r_Model_feed_109, r_Model_feed_112, r_Model_feed_113, r_Model_feed_116, xf_Model_feed_9, xf_Model_feed_91, xd_Model_feed, xrb_Model_feed, xin_Model_feed, mh, mp0, mp2, mp3, mp4, mp5, mp6, mp7, mp8, mp9, mp10, mp11, mp12, mp13, mp14, mp15, mp16, mp17, mp18, mp19, mp20, mp21, mp22, mp24, mp25, mp26, mp27, mq0, mq2, mq3, mq4, mq5, mq6, mq7, mq8, mq9, mq10, mq11, mq12, mq13, mq14, mq15, mq16, mq17, mq18, mq19, mq20, mq21, mq22, mq24, mq25, mq26, mq27, Nat.reduceAdd, Nat.reduceMul, Nat.reduceEqDiff, reduceIte, Int.reduceNeg, Int.reduceLE, Int.reduceLT, Int.reduceAdd, Int.reduceSub, Int.reduceToNat, true_and, and_true, inR_e, Nat.reduceLT, Nat.reduceLeDiff, reduceCtorEq, Nat.add_zero, Nat.zero_add, or_false, false_or, or_true, true_or, not_true_eq_false, not_false_eq_true, Classical.not_not, Nat.add_eq_zero_iff, and_false, false_and, Int.reduceEq, List.mem_cons, List.not_mem_nil, forall_eq_or_imp, forall_eq, false_implies, implies_true, forall_const, aargs_0, aargs_i, aargs_r, aargs_l, aargs_n, nfT_e, eq_self, and_self, Nat.le_refl, fu_s, fu_fu, iu_iu, iu_s, fu_am, fu_a0, fu_0a, iu_l, Nat.reduceBEq, Int.reduceBEq, T_objInit_e]
    clear mp0 mp2 mp3 mp4 mp5 mp6 mp7 mp8 mp9 mp10 mp11 mp12 mp13 mp14 mp15 mp16 mp17 mp18 mp19 mp20 mp21 mp22 mp24 mp25 mp26 mp27
    refine ⟨by omega, fun z => ?_, fun z => h0 z⟩
    rw [hJd]
    refine ⟨rfl, z, 0, σ (o + 1), by omega, fun j hj => by omega, fun j hj => rfl, hb, rfl, ?_⟩
    rw [fu_self, Int.add_zero, show iu (σ o) 1 (σ o 1) = σ o from iu_self, fu_self]
  · intro cp vs M1 hvs hM1 hlen hJ
    rw [hJd] at hJ
    obtain ⟨rfl, h20, i, f, g1, g2, g3, g4, rfl, rfl⟩ := hJ
    (obtain ⟨mh, mp0, mp2, mp3, mp4, mp5, mp6, mp7, mp8, mp9, mp10, mp11, mp12, mp13, mp14, mp15, mp16, mp17, mp18, mp19, mp20, mp21, mp22, mp24, mp25, mp26, mp27, mq0, mq2, mq3, mq4, mq5, mq6, mq7, mq8, mq9, mq10, mq11, mq12, mq13, mq14, mq15, mq16, mq17, mq18, mq19, mq20, mq21, mq22, mq24, mq25, mq26, mq27⟩ := (show LModel lay ρ _ from hL); unfold wps; simp only [Option.getD_some, List.zip_cons_cons, List.zip_nil_left, List.zip_nil_right, List.zip_nil_right, si_iload_n0, si_iload_n1, si_iload_n2, si_iload_n3, si_iload, si_lload_n0, si_lload_n1, si_lload_n2, si_lload_n3, si_lload, si_aload_n0, si_aload_n1, si_aload_n2, si_aload_n3, si_aload, si_istore_n0, si_istore_n1, si_istore_n2, si_istore_n3, si_istore, si_astore_n0, si_astore_n1, si_astore_n2, si_astore_n3, si_astore, si_lstore_n0, si_lstore_n1, si_lstore_n2, si_lstore_n3, si_lstore, si_iconst, si_bipush, si_sipush, si_ldc, si_ldc2_w, si_lconst0, si_lconst1, si_aconst_null, si_iinc, si_dup, si_dup2, si_iadd, si_isub, si_imul, si_idiv, si_irem, si_iand, si_ior, si_ishl, si_ishr, si_ladd, si_lmul, si_lor, si_lxor, si_lshl, si_lushr, si_lcmp, si_i2b, si_i2l, si_l2i, si_icmp_eq, si_icmp_ne, si_icmp_lt, si_icmp_ge, si_icmp_gt, si_icmp_le, si_if_eq, si_if_ne, si_if_lt, si_if_ge, si_if_gt, si_if_le, si_ifnull, si_ifnonnull, si_goto, si_tableswitch, si_lookupswitch, si_getfield, si_putfield, si_getstatic, si_iaload, si_baload, si_laload, si_aaload, si_iastore, si_bastore, si_lastore, si_aastore, si_arraylength, si_new, si_newarray, si_anewarray, si_invokevirtual, si_invokespecial, si_invokestatic, si_ireturn, si_lreturn, si_areturn, si_return_, pI_e, pL_e, pR_e, pA_r, pA_n, pN_n, pN_r, oI_e, oL_e, oA_r, oA_n, lget_e, lrm1_0, lrm2_0, lrm1_i, lrm1_r, lrm1_n, lrm1_l, lrm2_i, lrm2_r, lrm2_n, lrm2_l, popN_0, popN_s, acat_i, acat_l, acat_r, acat_n, stw_0, stw_s, psh_s, psh_n, wgf_r, wgf_i, wgf_b, wgf_n, wgf_m, wpf_i, wpf_r, wpf_b, wnew_e, callE_e, rbk_0, rbk_1, tsw_0, tsw_s, lsw_0, lsw_s, wp_s, wq_t, wq_f, oV_e, pick_0, pick_s, oZ_e, oY_e, r_Model_feed_0, r_Model_feed_1, r_Model_feed_4, r_Model_feed_6, r_Model_feed_7, r_Model_feed_10, r_Model_feed_13, r_Model_feed_14, r_Model_feed_15, r_Model_feed_16, r_Model_feed_18, r_Model_feed_20, r_Model_feed_22, r_Model_feed_25, r_Model_feed_27, r_Model_feed_28, r_Model_feed_31, r_Model_feed_32, r_Model_feed_35, r_Model_feed_37, r_Model_feed_39, r_Model_feed_42, r_Model_feed_43, r_Model_feed_46, r_Model_feed_48, r_Model_feed_50, r_Model_feed_53, r_Model_feed_54, r_Model_feed_57, r_Model_feed_59, r_Model_feed_61, r_Model_feed_64, r_Model_feed_66, r_Model_feed_69, r_Model_feed_71, r_Model_feed_73, r_Model_feed_74, r_Model_feed_77, r_Model_feed_78, r_Model_feed_81, r_Model_feed_83, r_Model_feed_85, r_Model_feed_87, r_Model_feed_89, r_Model_feed_90, r_Model_feed_91, r_Model_feed_92, r_Model_feed_93, r_Model_feed_94, r_Model_feed_95, r_Model_feed_96, r_Model_feed_97, r_Model_feed_98, r_Model_feed_101, r_Model_feed_102, r_Model_feed_103, r_Model_feed_106, r_Model_feed_109, r_Model_feed_112, r_Model_feed_113, r_Model_feed_116, xf_Model_feed_9, xf_Model_feed_91, xd_Model_feed, xrb_Model_feed, xin_Model_feed, mh, mp0, mp2, mp3, mp4, mp5, mp6, mp7, mp8, mp9, mp10, mp11, mp12, mp13, mp14, mp15, mp16, mp17, mp18, mp19, mp20, mp21, mp22, mp24, mp25, mp26, mp27, mq0, mq2, mq3, mq4, mq5, mq6, mq7, mq8, mq9, mq10, mq11, mq12, mq13, mq14, mq15, mq16, mq17, mq18, mq19, mq20, mq21, mq22, mq24, mq25, mq26, mq27, Nat.reduceAdd, Nat.reduceMul, Nat.reduceEqDiff, reduceIte, Int.reduceNeg, Int.reduceLE, Int.reduceLT, Int.reduceAdd, Int.reduceSub, Int.reduceToNat, true_and, and_true, inR_e, Nat.reduceLT, Nat.reduceLeDiff, reduceCtorEq, Nat.add_zero, Nat.zero_add, or_false, false_or, or_true, true_or, not_true_eq_false, not_false_eq_true, Classical.not_not, Nat.add_eq_zero_iff, and_false, false_and, Int.reduceEq, List.mem_cons, List.not_mem_nil, forall_eq_or_imp, forall_eq, false_implies, implies_true, forall_const, aargs_0, aargs_i, aargs_r, aargs_l, aargs_n, nfT_e, eq_self, and_self, Nat.le_refl, fu_s, fu_fu, iu_iu, iu_s, fu_am, fu_a0, fu_0a, iu_l, Nat.reduceBEq, Int.reduceBEq, T_objInit_e]; clear mp0 mp2 mp3 mp4 mp5 mp6 mp7 mp8 mp9 mp10 mp11 mp12 mp13 mp14 mp15 mp16 mp17 mp18 mp19 mp20 mp21 mp22 mp24 mp25 mp26 mp27)
    refine ⟨fun z => ?_, fun z => ?_⟩
    · rw [show i = 20 by omega] at g2 ⊢
      exact h1 h20 f g2 g3 g4
    · have nx : ∀ w, w = wsl a b c d e i → J 18 [vR o, vI a, vI b, vI c, vI d, vI e, vI (i + 1)] (sz, sl, lay, ρ, fu (fu (fu (fu σ (o + 1) f) o (iu (σ o) 1 (σ o 1 + i))) (o + 1) (iu f (σ o 1 + i) (i2bZ (shrZ w (24 - 8 * (i % 4)))))) o (iu (σ o) 1 (σ o 1 + i + 1)), τ) := by
        intro w hw
        have R := i2bZ_R (shrZ w (24 - 8 * (i % 4)))
        rw [hJd, fu4 (by omega)]
        refine ⟨rfl, h20, i + 1, iu f (σ o 1 + i) (i2bZ (shrZ w (24 - 8 * (i % 4)))), by omega, fun j hj => ?_, fun j hj => ?_, fun j => ?_, rfl, ?_⟩
        · by_cases e : j = i
          · rw [e, iu_s, hw]; rfl
          · rw [iu_n (by omega)]; exact g2 j (by omega)
        · rw [iu_n (by omega)]; exact g3 j hj
        · by_cases e : j = σ o 1 + i
          · rw [e, iu_s]; exact R
          · rw [iu_n e]; exact g4 j
        · rw [show σ o 1 + (i + 1) = σ o 1 + i + 1 by omega]
      exact ⟨fun a4 => ⟨fun a8 => ⟨fun a12 => ⟨fun a16 => ⟨by omega, by omega, by omega, i2bZ_R _, by omega, by omega, by omega, by omega, nx _ (by unfold wsl; rw [if_neg (by omega), if_neg (by omega), if_neg (by omega), if_neg (by omega)]), (by rw [hμ]; simp only [gI_e, List.getD_cons_succ, List.getD_cons_zero]; omega)⟩, fun a16 => ⟨by omega, by omega, by omega, i2bZ_R _, by omega, by omega, by omega, by omega, nx _ (by unfold wsl; rw [if_neg (by omega), if_neg (by omega), if_neg (by omega), if_pos (by omega)]), (by rw [hμ]; simp only [gI_e, List.getD_cons_succ, List.getD_cons_zero]; omega)⟩⟩, fun a12 => ⟨by omega, by omega, by omega, i2bZ_R _, by omega, by omega, by omega, by omega, nx _ (by unfold wsl; rw [if_neg (by omega), if_neg (by omega), if_pos (by omega)]), (by rw [hμ]; simp only [gI_e, List.getD_cons_succ, List.getD_cons_zero]; omega)⟩⟩, fun a8 => ⟨by omega, by omega, by omega, i2bZ_R _, by omega, by omega, by omega, by omega, nx _ (by unfold wsl; rw [if_neg (by omega), if_pos (by omega)]), (by rw [hμ]; simp only [gI_e, List.getD_cons_succ, List.getD_cons_zero]; omega)⟩⟩, fun a4 => ⟨by omega, by omega, by omega, i2bZ_R _, by omega, by omega, by omega, by omega, nx _ (by unfold wsl; rw [if_pos (by omega)]), (by rw [hμ]; simp only [gI_e, List.getD_cons_succ, List.getD_cons_zero]; omega)⟩⟩

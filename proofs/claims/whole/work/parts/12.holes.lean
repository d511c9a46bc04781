def TF_Holes_size (o : Nat) (sz sl : Nat) (lay : Nat → Nat × Int) (ρ : Nat → Int → Nat) (σ : Nat → Int → Int) (τ : Nat → Int → Int64) (k : Option AV → Mm → Prop) : Prop := k (some (vI (σ o 2))) (sz, sl, lay, ρ, σ, τ)
def T_Holes_size : Tr := mkT 0 fun o as M k => as = [] ∧ TF_Holes_size o M.1 M.2.1 M.2.2.1 M.2.2.2.1 M.2.2.2.2.1 M.2.2.2.2.2 k
theorem T_Holes_size_e {o : Nat} {sz sl : Nat} {lay : Nat → Nat × Int} {ρ : Nat → Int → Nat} {σ : Nat → Int → Int} {τ : Nat → Int → Int64} {k : Option AV → Mm → Prop} : T_Holes_size [vR o] (sz, sl, lay, ρ, σ, τ) k = (lay o = (10, 0) ∧ TF_Holes_size o sz sl lay ρ σ τ k) := by simp [T_Holes_size, mkT_e, pI_e, pR_e, pL_e]
theorem T_Holes_size_r (as : List AV) (M : Mm) (k : Option AV → Mm → Prop) (h : T_Holes_size as M k) : ∃ b As, as = vR b :: As ∧ M.2.2.1 b = (10 + 0, 0) := by
  obtain ⟨b, As, h1, h2, -⟩ := mkT_r h
  exact ⟨b, As, h1, h2⟩
def tb_Holes_size : List (Nat × Option (List Nat) × Instr × List Nat) := [(0, none, .aload_n 0, []), (1, none, .getfield 18, []), (4, none, .ireturn, [])]
def P_Holes_size : Nat → Option (List Nat) × Instr × List Nat := plk tb_Holes_size
theorem r_Holes_size_0 : P_Holes_size 0 = (none, .aload_n 0, []) := by decide +kernel
theorem r_Holes_size_1 : P_Holes_size 1 = (none, .getfield 18, []) := by decide +kernel
theorem r_Holes_size_4 : P_Holes_size 4 = (none, .ireturn, []) := by decide +kernel
def E_Holes_size : List (Nat × Ent) := []
def X_Holes_size : Cx := (llk (0, 0, 9) ftX0, llk 99 ntX0, llk none kcX0, llk none klX0, llk dEnt E_Holes_size, 0, 0, false)
theorem xok_Holes_size : Xok RX0 X_Holes_size := xok_of ftX0_ok ntX0_ok kcX0_ok klX0_ok (E := E_Holes_size) (fun _ h => absurd h List.not_mem_nil)
theorem xf_Holes_size_18 : xfl X_Holes_size 18 = (0, 2, 0) := by decide +kernel
theorem xd_Holes_size : xd X_Holes_size = 0 := rfl
theorem xrb_Holes_size : xrb X_Holes_size = 0 := rfl
theorem xin_Holes_size : xin X_Holes_size = false := rfl
set_option maxHeartbeats 4000000 in
set_option maxRecDepth 100000 in
theorem S_Holes_size : Snd yX0_size cX0_size 1 (some .int) T_Holes_size 0 0 0 := by
  refine snd_of (X := X_Holes_size) (P := P_Holes_size) (tb := tb_Holes_size) (own := RX0) (by decide) rfl rfl (by decide +kernel) xok_Holes_size rfl rk0 (fun h => by first | rfl | cases h) ?_
  intro as M k has hM hT0
  obtain ⟨sz, sl, lay, ρ, σ, τ⟩ := M
  obtain ⟨o, as1, e, hlo, hT1⟩ := mkT_r hT0
  clear hT0
  subst e
  obtain ⟨e, hT⟩ := hT1
  subst e
  replace hlo : lay o = (10, 0) := hlo
  clear has
  replace hM : ∀ a i, -2147483648 ≤ σ a i ∧ σ a i ≤ 2147483647 := hM
  replace hT : TF_Holes_size o sz sl lay ρ σ τ k := hT
  unfold TF_Holes_size at hT
  refine ⟨Nat.le_of_ble_eq_true rfl, fun _ _ _ => False, fun _ _ _ => 0, 11, ?_, fun _ _ _ _ _ _ h => h.elim⟩
  unfold wps
  simp only [si_iload_n0, si_iload_n1, si_iload_n2, si_iload_n3, si_iload, si_lload_n0, si_lload_n1, si_lload_n2, si_lload_n3, si_lload, si_aload_n0, si_aload_n1, si_aload_n2, si_aload_n3, si_aload, si_istore_n0, si_istore_n1, si_istore_n2, si_istore_n3, si_istore, si_astore_n0, si_astore_n1, si_astore_n2, si_astore_n3, si_astore, si_lstore_n0, si_lstore_n1, si_lstore_n2, si_lstore_n3, si_lstore, si_iconst, si_bipush, si_sipush, si_ldc, si_ldc2_w, si_lconst0, si_lconst1, si_aconst_null, si_iinc, si_dup, si_dup2, si_iadd, si_isub, si_imul, si_idiv, si_irem, si_iand, si_ior, si_ishl, si_ishr, si_ladd, si_lmul, si_lor, si_lxor, si_lshl, si_lushr, si_lcmp, si_i2b, si_i2l, si_l2i, si_icmp_eq, si_icmp_ne, si_icmp_lt, si_icmp_ge, si_icmp_gt, si_icmp_le, si_if_eq, si_if_ne, si_if_lt, si_if_ge, si_if_gt, si_if_le, si_ifnull, si_ifnonnull, si_goto, si_tableswitch, si_lookupswitch, si_getfield, si_putfield, si_getstatic, si_iaload, si_baload, si_laload, si_aaload, si_iastore, si_bastore, si_lastore, si_aastore, si_arraylength, si_new, si_newarray, si_anewarray, si_invokevirtual, si_invokespecial, si_invokestatic, si_ireturn, si_lreturn, si_areturn, si_return_, pI_e, pL_e, pR_e, pA_r, pA_n, pN_n, pN_r, oI_e, oL_e, oA_r, oA_n, lget_e, lrm1_0, lrm2_0, lrm1_i, lrm1_r, lrm1_n, lrm1_l, lrm2_i, lrm2_r, lrm2_n, lrm2_l, popN_0, popN_s, acat_i, acat_l, acat_r, acat_n, stw_0, stw_s, psh_s, psh_n, wgf_r, wgf_i, wgf_b, wgf_n, wgf_m, wpf_i, wpf_r, wpf_b, wnew_e, callE_e, rbk_0, rbk_1, tsw_0, tsw_s, lsw_0, lsw_s, wp_s, wq_t, wq_f, oV_e, pick_0, pick_s, oZ_e, oY_e, r_Holes_size_0, r_Holes_size_1, r_Holes_size_4, xf_Holes_size_18, xd_Holes_size, xrb_Holes_size, xin_Holes_size, Nat.reduceAdd, Nat.reduceMul, Nat.reduceEqDiff, reduceIte, Int.reduceNeg, Int.reduceLE, Int.reduceLT, Int.reduceAdd, Int.reduceSub, Int.reduceToNat, true_and, and_true, inR_e, Nat.reduceLT, Nat.reduceLeDiff, reduceCtorEq, Nat.add_zero, Nat.zero_add, or_false, false_or, or_true, true_or, not_true_eq_false, not_false_eq_true, Classical.not_not, Nat.add_eq_zero_iff, and_false, false_and, Int.reduceEq, List.mem_cons, List.not_mem_nil, forall_eq_or_imp, forall_eq, false_implies, implies_true, forall_const, aargs_0, aargs_i, aargs_r, aargs_l, aargs_n, nfT_e, eq_self, and_self, Nat.le_refl, fu_s, fu_fu, iu_iu, iu_s, fu_am, fu_a0, fu_0a, iu_l, Nat.reduceBEq, Int.reduceBEq, T_objInit_e]
  exact ⟨hlo, hT⟩
def TF_Holes_allBytes (o : Nat) (sz sl : Nat) (lay : Nat → Nat × Int) (ρ : Nat → Int → Nat) (σ : Nat → Int → Int) (τ : Nat → Int → Int64) (k : Option AV → Mm → Prop) : Prop := k (some (vI (σ o 3))) (sz, sl, lay, ρ, σ, τ)
def T_Holes_allBytes : Tr := mkT 0 fun o as M k => as = [] ∧ TF_Holes_allBytes o M.1 M.2.1 M.2.2.1 M.2.2.2.1 M.2.2.2.2.1 M.2.2.2.2.2 k
theorem T_Holes_allBytes_e {o : Nat} {sz sl : Nat} {lay : Nat → Nat × Int} {ρ : Nat → Int → Nat} {σ : Nat → Int → Int} {τ : Nat → Int → Int64} {k : Option AV → Mm → Prop} : T_Holes_allBytes [vR o] (sz, sl, lay, ρ, σ, τ) k = (lay o = (10, 0) ∧ TF_Holes_allBytes o sz sl lay ρ σ τ k) := by simp [T_Holes_allBytes, mkT_e, pI_e, pR_e, pL_e]
theorem T_Holes_allBytes_r (as : List AV) (M : Mm) (k : Option AV → Mm → Prop) (h : T_Holes_allBytes as M k) : ∃ b As, as = vR b :: As ∧ M.2.2.1 b = (10 + 0, 0) := by
  obtain ⟨b, As, h1, h2, -⟩ := mkT_r h
  exact ⟨b, As, h1, h2⟩
def tb_Holes_allBytes : List (Nat × Option (List Nat) × Instr × List Nat) := [(0, none, .aload_n 0, []), (1, none, .getfield 22, []), (4, none, .ireturn, [])]
def P_Holes_allBytes : Nat → Option (List Nat) × Instr × List Nat := plk tb_Holes_allBytes
theorem r_Holes_allBytes_0 : P_Holes_allBytes 0 = (none, .aload_n 0, []) := by decide +kernel
theorem r_Holes_allBytes_1 : P_Holes_allBytes 1 = (none, .getfield 22, []) := by decide +kernel
theorem r_Holes_allBytes_4 : P_Holes_allBytes 4 = (none, .ireturn, []) := by decide +kernel
def E_Holes_allBytes : List (Nat × Ent) := []
def X_Holes_allBytes : Cx := (llk (0, 0, 9) ftX0, llk 99 ntX0, llk none kcX0, llk none klX0, llk dEnt E_Holes_allBytes, 0, 0, false)
theorem xok_Holes_allBytes : Xok RX0 X_Holes_allBytes := xok_of ftX0_ok ntX0_ok kcX0_ok klX0_ok (E := E_Holes_allBytes) (fun _ h => absurd h List.not_mem_nil)
theorem xf_Holes_allBytes_22 : xfl X_Holes_allBytes 22 = (0, 3, 0) := by decide +kernel
theorem xd_Holes_allBytes : xd X_Holes_allBytes = 0 := rfl
theorem xrb_Holes_allBytes : xrb X_Holes_allBytes = 0 := rfl
theorem xin_Holes_allBytes : xin X_Holes_allBytes = false := rfl
set_option maxHeartbeats 4000000 in
set_option maxRecDepth 100000 in
theorem S_Holes_allBytes : Snd yX0_allBytes cX0_allBytes 1 (some .int) T_Holes_allBytes 0 0 0 := by
  refine snd_of (X := X_Holes_allBytes) (P := P_Holes_allBytes) (tb := tb_Holes_allBytes) (own := RX0) (by decide) rfl rfl (by decide +kernel) xok_Holes_allBytes rfl rk0 (fun h => by first | rfl | cases h) ?_
  intro as M k has hM hT0
  obtain ⟨sz, sl, lay, ρ, σ, τ⟩ := M
  obtain ⟨o, as1, e, hlo, hT1⟩ := mkT_r hT0
  clear hT0
  subst e
  obtain ⟨e, hT⟩ := hT1
  subst e
  replace hlo : lay o = (10, 0) := hlo
  clear has
  replace hM : ∀ a i, -2147483648 ≤ σ a i ∧ σ a i ≤ 2147483647 := hM
  replace hT : TF_Holes_allBytes o sz sl lay ρ σ τ k := hT
  unfold TF_Holes_allBytes at hT
  refine ⟨Nat.le_of_ble_eq_true rfl, fun _ _ _ => False, fun _ _ _ => 0, 11, ?_, fun _ _ _ _ _ _ h => h.elim⟩
  unfold wps
  simp only [si_iload_n0, si_iload_n1, si_iload_n2, si_iload_n3, si_iload, si_lload_n0, si_lload_n1, si_lload_n2, si_lload_n3, si_lload, si_aload_n0, si_aload_n1, si_aload_n2, si_aload_n3, si_aload, si_istore_n0, si_istore_n1, si_istore_n2, si_istore_n3, si_istore, si_astore_n0, si_astore_n1, si_astore_n2, si_astore_n3, si_astore, si_lstore_n0, si_lstore_n1, si_lstore_n2, si_lstore_n3, si_lstore, si_iconst, si_bipush, si_sipush, si_ldc, si_ldc2_w, si_lconst0, si_lconst1, si_aconst_null, si_iinc, si_dup, si_dup2, si_iadd, si_isub, si_imul, si_idiv, si_irem, si_iand, si_ior, si_ishl, si_ishr, si_ladd, si_lmul, si_lor, si_lxor, si_lshl, si_lushr, si_lcmp, si_i2b, si_i2l, si_l2i, si_icmp_eq, si_icmp_ne, si_icmp_lt, si_icmp_ge, si_icmp_gt, si_icmp_le, si_if_eq, si_if_ne, si_if_lt, si_if_ge, si_if_gt, si_if_le, si_ifnull, si_ifnonnull, si_goto, si_tableswitch, si_lookupswitch, si_getfield, si_putfield, si_getstatic, si_iaload, si_baload, si_laload, si_aaload, si_iastore, si_bastore, si_lastore, si_aastore, si_arraylength, si_new, si_newarray, si_anewarray, si_invokevirtual, si_invokespecial, si_invokestatic, si_ireturn, si_lreturn, si_areturn, si_return_, pI_e, pL_e, pR_e, pA_r, pA_n, pN_n, pN_r, oI_e, oL_e, oA_r, oA_n, lget_e, lrm1_0, lrm2_0, lrm1_i, lrm1_r, lrm1_n, lrm1_l, lrm2_i, lrm2_r, lrm2_n, lrm2_l, popN_0, popN_s, acat_i, acat_l, acat_r, acat_n, stw_0, stw_s, psh_s, psh_n, wgf_r, wgf_i, wgf_b, wgf_n, wgf_m, wpf_i, wpf_r, wpf_b, wnew_e, callE_e, rbk_0, rbk_1, tsw_0, tsw_s, lsw_0, lsw_s, wp_s, wq_t, wq_f, oV_e, pick_0, pick_s, oZ_e, oY_e, r_Holes_allBytes_0, r_Holes_allBytes_1, r_Holes_allBytes_4, xf_Holes_allBytes_22, xd_Holes_allBytes, xrb_Holes_allBytes, xin_Holes_allBytes, Nat.reduceAdd, Nat.reduceMul, Nat.reduceEqDiff, reduceIte, Int.reduceNeg, Int.reduceLE, Int.reduceLT, Int.reduceAdd, Int.reduceSub, Int.reduceToNat, true_and, and_true, inR_e, Nat.reduceLT, Nat.reduceLeDiff, reduceCtorEq, Nat.add_zero, Nat.zero_add, or_false, false_or, or_true, true_or, not_true_eq_false, not_false_eq_true, Classical.not_not, Nat.add_eq_zero_iff, and_false, false_and, Int.reduceEq, List.mem_cons, List.not_mem_nil, forall_eq_or_imp, forall_eq, false_implies, implies_true, forall_const, aargs_0, aargs_i, aargs_r, aargs_l, aargs_n, nfT_e, eq_self, and_self, Nat.le_refl, fu_s, fu_fu, iu_iu, iu_s, fu_am, fu_a0, fu_0a, iu_l, Nat.reduceBEq, Int.reduceBEq, T_objInit_e]
  exact ⟨hlo, hT⟩
def TF_Holes_clear (o : Nat) (sz sl : Nat) (lay : Nat → Nat × Int) (ρ : Nat → Int → Nat) (σ : Nat → Int → Int) (τ : Nat → Int → Int64) (k : Option AV → Mm → Prop) : Prop := k none (sz, sl, lay, ρ, fu σ o (iu (iu (σ o) 2 0) 3 0), τ)
def T_Holes_clear : Tr := mkT 0 fun o as M k => as = [] ∧ TF_Holes_clear o M.1 M.2.1 M.2.2.1 M.2.2.2.1 M.2.2.2.2.1 M.2.2.2.2.2 k
theorem T_Holes_clear_e {o : Nat} {sz sl : Nat} {lay : Nat → Nat × Int} {ρ : Nat → Int → Nat} {σ : Nat → Int → Int} {τ : Nat → Int → Int64} {k : Option AV → Mm → Prop} : T_Holes_clear [vR o] (sz, sl, lay, ρ, σ, τ) k = (lay o = (10, 0) ∧ TF_Holes_clear o sz sl lay ρ σ τ k) := by simp [T_Holes_clear, mkT_e, pI_e, pR_e, pL_e]
theorem T_Holes_clear_r (as : List AV) (M : Mm) (k : Option AV → Mm → Prop) (h : T_Holes_clear as M k) : ∃ b As, as = vR b :: As ∧ M.2.2.1 b = (10 + 0, 0) := by
  obtain ⟨b, As, h1, h2, -⟩ := mkT_r h
  exact ⟨b, As, h1, h2⟩
def tb_Holes_clear : List (Nat × Option (List Nat) × Instr × List Nat) := [(0, none, .aload_n 0, []), (1, none, .iconst 0, []), (2, none, .putfield 18, []), (5, none, .aload_n 0, []), (6, none, .iconst 0, []), (7, none, .putfield 22, []), (10, none, .return_, [])]
def P_Holes_clear : Nat → Option (List Nat) × Instr × List Nat := plk tb_Holes_clear
theorem r_Holes_clear_0 : P_Holes_clear 0 = (none, .aload_n 0, []) := by decide +kernel
theorem r_Holes_clear_1 : P_Holes_clear 1 = (none, .iconst 0, []) := by decide +kernel
theorem r_Holes_clear_2 : P_Holes_clear 2 = (none, .putfield 18, []) := by decide +kernel
theorem r_Holes_clear_5 : P_Holes_clear 5 = (none, .aload_n 0, []) := by decide +kernel
theorem r_Holes_clear_6 : P_Holes_clear 6 = (none, .iconst 0, []) := by decide +kernel
theorem r_Holes_clear_7 : P_Holes_clear 7 = (none, .putfield 22, []) := by decide +kernel
theorem r_Holes_clear_10 : P_Holes_clear 10 = (none, .return_, []) := by decide +kernel
def E_Holes_clear : List (Nat × Ent) := []
def X_Holes_clear : Cx := (llk (0, 0, 9) ftX0, llk 99 ntX0, llk none kcX0, llk none klX0, llk dEnt E_Holes_clear, 0, 3, false)
theorem xok_Holes_clear : Xok RX0 X_Holes_clear := xok_of ftX0_ok ntX0_ok kcX0_ok klX0_ok (E := E_Holes_clear) (fun _ h => absurd h List.not_mem_nil)
theorem xf_Holes_clear_18 : xfl X_Holes_clear 18 = (0, 2, 0) := by decide +kernel
theorem xf_Holes_clear_22 : xfl X_Holes_clear 22 = (0, 3, 0) := by decide +kernel
theorem xd_Holes_clear : xd X_Holes_clear = 0 := rfl
theorem xrb_Holes_clear : xrb X_Holes_clear = 3 := rfl
theorem xin_Holes_clear : xin X_Holes_clear = false := rfl
set_option maxHeartbeats 4000000 in
set_option maxRecDepth 100000 in
theorem S_Holes_clear : Snd yX0_clear cX0_clear 1 none T_Holes_clear 0 0 0 := by
  refine snd_of (X := X_Holes_clear) (P := P_Holes_clear) (tb := tb_Holes_clear) (own := RX0) (by decide) rfl rfl (by decide +kernel) xok_Holes_clear rfl rk3 (fun h => by first | rfl | cases h) ?_
  intro as M k has hM hT0
  obtain ⟨sz, sl, lay, ρ, σ, τ⟩ := M
  obtain ⟨o, as1, e, hlo, hT1⟩ := mkT_r hT0
  clear hT0
  subst e
  obtain ⟨e, hT⟩ := hT1
  subst e
  replace hlo : lay o = (10, 0) := hlo
  clear has
  replace hM : ∀ a i, -2147483648 ≤ σ a i ∧ σ a i ≤ 2147483647 := hM
  replace hT : TF_Holes_clear o sz sl lay ρ σ τ k := hT
  unfold TF_Holes_clear at hT
  refine ⟨Nat.le_of_ble_eq_true rfl, fun _ _ _ => False, fun _ _ _ => 0, 15, ?_, fun _ _ _ _ _ _ h => h.elim⟩
  unfold wps
  simp only [si_iload_n0, si_iload_n1, si_iload_n2, si_iload_n3, si_iload, si_lload_n0, si_lload_n1, si_lload_n2, si_lload_n3, si_lload, si_aload_n0, si_aload_n1, si_aload_n2, si_aload_n3, si_aload, si_istore_n0, si_istore_n1, si_istore_n2, si_istore_n3, si_istore, si_astore_n0, si_astore_n1, si_astore_n2, si_astore_n3, si_astore, si_lstore_n0, si_lstore_n1, si_lstore_n2, si_lstore_n3, si_lstore, si_iconst, si_bipush, si_sipush, si_ldc, si_ldc2_w, si_lconst0, si_lconst1, si_aconst_null, si_iinc, si_dup, si_dup2, si_iadd, si_isub, si_imul, si_idiv, si_irem, si_iand, si_ior, si_ishl, si_ishr, si_ladd, si_lmul, si_lor, si_lxor, si_lshl, si_lushr, si_lcmp, si_i2b, si_i2l, si_l2i, si_icmp_eq, si_icmp_ne, si_icmp_lt, si_icmp_ge, si_icmp_gt, si_icmp_le, si_if_eq, si_if_ne, si_if_lt, si_if_ge, si_if_gt, si_if_le, si_ifnull, si_ifnonnull, si_goto, si_tableswitch, si_lookupswitch, si_getfield, si_putfield, si_getstatic, si_iaload, si_baload, si_laload, si_aaload, si_iastore, si_bastore, si_lastore, si_aastore, si_arraylength, si_new, si_newarray, si_anewarray, si_invokevirtual, si_invokespecial, si_invokestatic, si_ireturn, si_lreturn, si_areturn, si_return_, pI_e, pL_e, pR_e, pA_r, pA_n, pN_n, pN_r, oI_e, oL_e, oA_r, oA_n, lget_e, lrm1_0, lrm2_0, lrm1_i, lrm1_r, lrm1_n, lrm1_l, lrm2_i, lrm2_r, lrm2_n, lrm2_l, popN_0, popN_s, acat_i, acat_l, acat_r, acat_n, stw_0, stw_s, psh_s, psh_n, wgf_r, wgf_i, wgf_b, wgf_n, wgf_m, wpf_i, wpf_r, wpf_b, wnew_e, callE_e, rbk_0, rbk_1, tsw_0, tsw_s, lsw_0, lsw_s, wp_s, wq_t, wq_f, oV_e, pick_0, pick_s, oZ_e, oY_e, r_Holes_clear_0, r_Holes_clear_1, r_Holes_clear_2, r_Holes_clear_5, r_Holes_clear_6, r_Holes_clear_7, r_Holes_clear_10, xf_Holes_clear_18, xf_Holes_clear_22, xd_Holes_clear, xrb_Holes_clear, xin_Holes_clear, Nat.reduceAdd, Nat.reduceMul, Nat.reduceEqDiff, reduceIte, Int.reduceNeg, Int.reduceLE, Int.reduceLT, Int.reduceAdd, Int.reduceSub, Int.reduceToNat, true_and, and_true, inR_e, Nat.reduceLT, Nat.reduceLeDiff, reduceCtorEq, Nat.add_zero, Nat.zero_add, or_false, false_or, or_true, true_or, not_true_eq_false, not_false_eq_true, Classical.not_not, Nat.add_eq_zero_iff, and_false, false_and, Int.reduceEq, List.mem_cons, List.not_mem_nil, forall_eq_or_imp, forall_eq, false_implies, implies_true, forall_const, aargs_0, aargs_i, aargs_r, aargs_l, aargs_n, nfT_e, eq_self, and_self, Nat.le_refl, fu_s, fu_fu, iu_iu, iu_s, fu_am, fu_a0, fu_0a, iu_l, Nat.reduceBEq, Int.reduceBEq, T_objInit_e]
  exact ⟨hlo, hlo, hT⟩
def TF_Holes_add (o : Nat) (s : Int) (n : Int) (sz sl : Nat) (lay : Nat → Nat × Int) (ρ : Nat → Int → Nat) (σ : Nat → Int → Int) (τ : Nat → Int → Int64) (k : Option AV → Mm → Prop) : Prop := LHoles lay ρ o ∧ (0 ≤ σ o 2 ∧ σ o 2 < 4000) ∧ (-2147483648 ≤ σ o 3 + n ∧ σ o 3 + n ≤ 2147483647) ∧ k none (sz, sl, lay, ρ, fu (fu (fu σ (o + 1) (iu (σ (o + 1)) (σ o 2) s)) (o + 2) (iu (σ (o + 2)) (σ o 2) n)) o (iu (iu (σ o) 2 (σ o 2 + 1)) 3 (σ o 3 + n)), τ)
def T_Holes_add : Tr := mkT 0 fun o as M k => pI as fun s as => pI as fun n as => as = [] ∧ TF_Holes_add o s n M.1 M.2.1 M.2.2.1 M.2.2.2.1 M.2.2.2.2.1 M.2.2.2.2.2 k
theorem T_Holes_add_e {o : Nat} {s : Int} {n : Int} {sz sl : Nat} {lay : Nat → Nat × Int} {ρ : Nat → Int → Nat} {σ : Nat → Int → Int} {τ : Nat → Int → Int64} {k : Option AV → Mm → Prop} : T_Holes_add [vR o, vI s, vI n] (sz, sl, lay, ρ, σ, τ) k = (lay o = (10, 0) ∧ TF_Holes_add o s n sz sl lay ρ σ τ k) := by simp [T_Holes_add, mkT_e, pI_e, pR_e, pL_e]
theorem T_Holes_add_r (as : List AV) (M : Mm) (k : Option AV → Mm → Prop) (h : T_Holes_add as M k) : ∃ b As, as = vR b :: As ∧ M.2.2.1 b = (10 + 0, 0) := by
  obtain ⟨b, As, h1, h2, -⟩ := mkT_r h
  exact ⟨b, As, h1, h2⟩
def tb_Holes_add : List (Nat × Option (List Nat) × Instr × List Nat) := [(0, none, .aload_n 0, []), (1, none, .getfield 18, []), (4, none, .sipush 4000, []), (7, none, .if_icmp .ge 43, [50]), (10, none, .aload_n 0, []), (11, none, .getfield 9, []), (14, none, .aload_n 0, []), (15, none, .getfield 18, []), (18, none, .iload_n 1, []), (19, none, .iastore, []), (20, none, .aload_n 0, []), (21, none, .getfield 15, []), (24, none, .aload_n 0, []), (25, none, .getfield 18, []), (28, none, .iload_n 2, []), (29, none, .iastore, []), (30, none, .aload_n 0, []), (31, none, .dup, []), (32, none, .getfield 18, []), (35, none, .iconst 1, []), (36, none, .iadd, []), (37, none, .putfield 18, []), (40, none, .aload_n 0, []), (41, none, .dup, []), (42, none, .getfield 22, []), (45, none, .iload_n 2, []), (46, none, .iadd, []), (47, none, .putfield 22, []), (50, none, .return_, [])]
def P_Holes_add : Nat → Option (List Nat) × Instr × List Nat := plk tb_Holes_add
theorem r_Holes_add_0 : P_Holes_add 0 = (none, .aload_n 0, []) := by decide +kernel
theorem r_Holes_add_1 : P_Holes_add 1 = (none, .getfield 18, []) := by decide +kernel
theorem r_Holes_add_4 : P_Holes_add 4 = (none, .sipush 4000, []) := by decide +kernel
theorem r_Holes_add_7 : P_Holes_add 7 = (none, .if_icmp .ge 43, [50]) := by decide +kernel
theorem r_Holes_add_10 : P_Holes_add 10 = (none, .aload_n 0, []) := by decide +kernel
theorem r_Holes_add_11 : P_Holes_add 11 = (none, .getfield 9, []) := by decide +kernel
theorem r_Holes_add_14 : P_Holes_add 14 = (none, .aload_n 0, []) := by decide +kernel
theorem r_Holes_add_15 : P_Holes_add 15 = (none, .getfield 18, []) := by decide +kernel
theorem r_Holes_add_18 : P_Holes_add 18 = (none, .iload_n 1, []) := by decide +kernel
theorem r_Holes_add_19 : P_Holes_add 19 = (none, .iastore, []) := by decide +kernel
theorem r_Holes_add_20 : P_Holes_add 20 = (none, .aload_n 0, []) := by decide +kernel
theorem r_Holes_add_21 : P_Holes_add 21 = (none, .getfield 15, []) := by decide +kernel
theorem r_Holes_add_24 : P_Holes_add 24 = (none, .aload_n 0, []) := by decide +kernel
theorem r_Holes_add_25 : P_Holes_add 25 = (none, .getfield 18, []) := by decide +kernel
theorem r_Holes_add_28 : P_Holes_add 28 = (none, .iload_n 2, []) := by decide +kernel
theorem r_Holes_add_29 : P_Holes_add 29 = (none, .iastore, []) := by decide +kernel
theorem r_Holes_add_30 : P_Holes_add 30 = (none, .aload_n 0, []) := by decide +kernel
theorem r_Holes_add_31 : P_Holes_add 31 = (none, .dup, []) := by decide +kernel
theorem r_Holes_add_32 : P_Holes_add 32 = (none, .getfield 18, []) := by decide +kernel
theorem r_Holes_add_35 : P_Holes_add 35 = (none, .iconst 1, []) := by decide +kernel
theorem r_Holes_add_36 : P_Holes_add 36 = (none, .iadd, []) := by decide +kernel
theorem r_Holes_add_37 : P_Holes_add 37 = (none, .putfield 18, []) := by decide +kernel
theorem r_Holes_add_40 : P_Holes_add 40 = (none, .aload_n 0, []) := by decide +kernel
theorem r_Holes_add_41 : P_Holes_add 41 = (none, .dup, []) := by decide +kernel
theorem r_Holes_add_42 : P_Holes_add 42 = (none, .getfield 22, []) := by decide +kernel
theorem r_Holes_add_45 : P_Holes_add 45 = (none, .iload_n 2, []) := by decide +kernel
theorem r_Holes_add_46 : P_Holes_add 46 = (none, .iadd, []) := by decide +kernel
theorem r_Holes_add_47 : P_Holes_add 47 = (none, .putfield 22, []) := by decide +kernel
theorem r_Holes_add_50 : P_Holes_add 50 = (none, .return_, []) := by decide +kernel
def E_Holes_add : List (Nat × Ent) := []
def X_Holes_add : Cx := (llk (0, 0, 9) ftX0, llk 99 ntX0, llk none kcX0, llk none klX0, llk dEnt E_Holes_add, 0, 3, false)
theorem xok_Holes_add : Xok RX0 X_Holes_add := xok_of ftX0_ok ntX0_ok kcX0_ok klX0_ok (E := E_Holes_add) (fun _ h => absurd h List.not_mem_nil)
theorem xf_Holes_add_9 : xfl X_Holes_add 9 = (0, 0, 1) := by decide +kernel
theorem xf_Holes_add_15 : xfl X_Holes_add 15 = (0, 1, 1) := by decide +kernel
theorem xf_Holes_add_18 : xfl X_Holes_add 18 = (0, 2, 0) := by decide +kernel
theorem xf_Holes_add_22 : xfl X_Holes_add 22 = (0, 3, 0) := by decide +kernel
theorem xd_Holes_add : xd X_Holes_add = 0 := rfl
theorem xrb_Holes_add : xrb X_Holes_add = 3 := rfl
theorem xin_Holes_add : xin X_Holes_add = false := rfl
set_option maxHeartbeats 4000000 in
set_option maxRecDepth 100000 in
theorem S_Holes_add : Snd yX0_add cX0_add 3 none T_Holes_add 0 0 0 := by
  refine snd_of (X := X_Holes_add) (P := P_Holes_add) (tb := tb_Holes_add) (own := RX0) (by decide) rfl rfl (by decide +kernel) xok_Holes_add rfl rk3 (fun h => by first | rfl | cases h) ?_
  intro as M k has hM hT0
  obtain ⟨sz, sl, lay, ρ, σ, τ⟩ := M
  obtain ⟨o, as1, e, hlo, hT1⟩ := mkT_r hT0
  clear hT0
  subst e
  obtain ⟨s, as2, e, hT2⟩ := pI_x hT1
  clear hT1
  subst e
  obtain ⟨n, as3, e, hT3⟩ := pI_x hT2
  clear hT2
  subst e
  obtain ⟨e, hT⟩ := hT3
  subst e
  replace hlo : lay o = (10, 0) := hlo
  have r_s : -2147483648 ≤ s ∧ s ≤ 2147483647 := has (vI s) (by simp)
  have r_n : -2147483648 ≤ n ∧ n ≤ 2147483647 := has (vI n) (by simp)
  clear has
  replace hM : ∀ a i, -2147483648 ≤ σ a i ∧ σ a i ≤ 2147483647 := hM
  replace hT : TF_Holes_add o s n sz sl lay ρ σ τ k := hT
  unfold TF_Holes_add at hT
  obtain ⟨hL, hc, hr, hT⟩ := hT
  obtain ⟨lh, lp0, lp1, lq0, lq1⟩ := (show LHoles lay ρ _ from hL)
  refine ⟨Nat.le_of_ble_eq_true rfl, fun _ _ _ => False, fun _ _ _ => 0, 37, ?_, fun _ _ _ _ _ _ h => h.elim⟩
  unfold wps
  simp only [si_iload_n0, si_iload_n1, si_iload_n2, si_iload_n3, si_iload, si_lload_n0, si_lload_n1, si_lload_n2, si_lload_n3, si_lload, si_aload_n0, si_aload_n1, si_aload_n2, si_aload_n3, si_aload, si_istore_n0, si_istore_n1, si_istore_n2, si_istore_n3, si_istore, si_astore_n0, si_astore_n1, si_astore_n2, si_astore_n3, si_astore, si_lstore_n0, si_lstore_n1, si_lstore_n2, si_lstore_n3, si_lstore, si_iconst, si_bipush, si_sipush, si_ldc, si_ldc2_w, si_lconst0, si_lconst1, si_aconst_null, si_iinc, si_dup, si_dup2, si_iadd, si_isub, si_imul, si_idiv, si_irem, si_iand, si_ior, si_ishl, si_ishr, si_ladd, si_lmul, si_lor, si_lxor, si_lshl, si_lushr, si_lcmp, si_i2b, si_i2l, si_l2i, si_icmp_eq, si_icmp_ne, si_icmp_lt, si_icmp_ge, si_icmp_gt, si_icmp_le, si_if_eq, si_if_ne, si_if_lt, si_if_ge, si_if_gt, si_if_le, si_ifnull, si_ifnonnull, si_goto, si_tableswitch, si_lookupswitch, si_getfield, si_putfield, si_getstatic, si_iaload, si_baload, si_laload, si_aaload, si_iastore, si_bastore, si_lastore, si_aastore, si_arraylength, si_new, si_newarray, si_anewarray, si_invokevirtual, si_invokespecial, si_invokestatic, si_ireturn, si_lreturn, si_areturn, si_return_, pI_e, pL_e, pR_e, pA_r, pA_n, pN_n, pN_r, oI_e, oL_e, oA_r, oA_n, lget_e, lrm1_0, lrm2_0, lrm1_i, lrm1_r, lrm1_n, lrm1_l, lrm2_i, lrm2_r, lrm2_n, lrm2_l, popN_0, popN_s, acat_i, acat_l, acat_r, acat_n, stw_0, stw_s, psh_s, psh_n, wgf_r, wgf_i, wgf_b, wgf_n, wgf_m, wpf_i, wpf_r, wpf_b, wnew_e, callE_e, rbk_0, rbk_1, tsw_0, tsw_s, lsw_0, lsw_s, wp_s, wq_t, wq_f, oV_e, pick_0, pick_s, oZ_e, oY_e, r_Holes_add_0, r_Holes_add_1, r_Holes_add_4, r_Holes_add_7, r_Holes_add_10, r_Holes_add_11, r_Holes_add_14, r_Holes_add_15, r_Holes_add_18, r_Holes_add_19, r_Holes_add_20, r_Holes_add_21, r_Holes_add_24, r_Holes_add_25, r_Holes_add_28, r_Holes_add_29, r_Holes_add_30, r_Holes_add_31, r_Holes_add_32, r_Holes_add_35, r_Holes_add_36, r_Holes_add_37, r_Holes_add_40, r_Holes_add_41, r_Holes_add_42, r_Holes_add_45, r_Holes_add_46, r_Holes_add_47, r_Holes_add_50, xf_Holes_add_9, xf_Holes_add_15, xf_Holes_add_18, xf_Holes_add_22, xd_Holes_add, xrb_Holes_add, xin_Holes_add, lh, lp0, lp1, lq0, lq1, Nat.reduceAdd, Nat.reduceMul, Nat.reduceEqDiff, reduceIte, Int.reduceNeg, Int.reduceLE, Int.reduceLT, Int.reduceAdd, Int.reduceSub, Int.reduceToNat, true_and, and_true, inR_e, Nat.reduceLT, Nat.reduceLeDiff, reduceCtorEq, Nat.add_zero, Nat.zero_add, or_false, false_or, or_true, true_or, not_true_eq_false, not_false_eq_true, Classical.not_not, Nat.add_eq_zero_iff, and_false, false_and, Int.reduceEq, List.mem_cons, List.not_mem_nil, forall_eq_or_imp, forall_eq, false_implies, implies_true, forall_const, aargs_0, aargs_i, aargs_r, aargs_l, aargs_n, nfT_e, eq_self, and_self, Nat.le_refl, fu_s, fu_fu, iu_iu, iu_s, fu_am, fu_a0, fu_0a, iu_l, Nat.reduceBEq, Int.reduceBEq, T_objInit_e]
  repeat' (first | assumption | intro _ | apply And.intro)
  all_goals first | omega | assumption
def TF_Holes_tell (o : Nat) (i : Int) (w : Int) (sz sl : Nat) (lay : Nat → Nat × Int) (ρ : Nat → Int → Nat) (σ : Nat → Int → Int) (τ : Nat → Int → Int64) (k : Option AV → Mm → Prop) : Prop := LHoles lay ρ o ∧ (0 ≤ σ o 2 ∧ σ o 2 ≤ 4000) ∧ (0 ≤ i ∧ i < σ o 2 ∧ w = 0 → k (some (vI (σ (o + 1) i))) (sz, sl, lay, ρ, σ, τ)) ∧ (0 ≤ i ∧ i < σ o 2 ∧ w = 1 → k (some (vI (σ (o + 2) i))) (sz, sl, lay, ρ, σ, τ)) ∧ (¬ (0 ≤ i ∧ i < σ o 2 ∧ 0 ≤ w ∧ w ≤ 1) → k (some (vI (-1))) (sz, sl, lay, ρ, σ, τ))
def T_Holes_tell : Tr := mkT 0 fun o as M k => pI as fun i as => pI as fun w as => as = [] ∧ TF_Holes_tell o i w M.1 M.2.1 M.2.2.1 M.2.2.2.1 M.2.2.2.2.1 M.2.2.2.2.2 k
theorem T_Holes_tell_e {o : Nat} {i : Int} {w : Int} {sz sl : Nat} {lay : Nat → Nat × Int} {ρ : Nat → Int → Nat} {σ : Nat → Int → Int} {τ : Nat → Int → Int64} {k : Option AV → Mm → Prop} : T_Holes_tell [vR o, vI i, vI w] (sz, sl, lay, ρ, σ, τ) k = (lay o = (10, 0) ∧ TF_Holes_tell o i w sz sl lay ρ σ τ k) := by simp [T_Holes_tell, mkT_e, pI_e, pR_e, pL_e]
theorem T_Holes_tell_r (as : List AV) (M : Mm) (k : Option AV → Mm → Prop) (h : T_Holes_tell as M k) : ∃ b As, as = vR b :: As ∧ M.2.2.1 b = (10 + 0, 0) := by
  obtain ⟨b, As, h1, h2, -⟩ := mkT_r h
  exact ⟨b, As, h1, h2⟩
def tb_Holes_tell : List (Nat × Option (List Nat) × Instr × List Nat) := [(0, none, .iload_n 1, []), (1, none, .ifCond .lt 11, [12]), (4, none, .iload_n 1, []), (5, none, .aload_n 0, []), (6, none, .getfield 18, []), (9, none, .if_icmp .lt 5, [14]), (12, none, .iconst (-1), []), (13, none, .ireturn, []), (14, none, .iload_n 2, []), (15, none, .lookupswitch 39 #[(0, 25), (1, 32)], [54, 40, 47]), (40, none, .aload_n 0, []), (41, none, .getfield 9, []), (44, none, .iload_n 1, []), (45, none, .iaload, []), (46, none, .ireturn, []), (47, none, .aload_n 0, []), (48, none, .getfield 15, []), (51, none, .iload_n 1, []), (52, none, .iaload, []), (53, none, .ireturn, []), (54, none, .iconst (-1), []), (55, none, .ireturn, [])]
def P_Holes_tell : Nat → Option (List Nat) × Instr × List Nat := plk tb_Holes_tell
theorem r_Holes_tell_0 : P_Holes_tell 0 = (none, .iload_n 1, []) := by decide +kernel
theorem r_Holes_tell_1 : P_Holes_tell 1 = (none, .ifCond .lt 11, [12]) := by decide +kernel
theorem r_Holes_tell_4 : P_Holes_tell 4 = (none, .iload_n 1, []) := by decide +kernel
theorem r_Holes_tell_5 : P_Holes_tell 5 = (none, .aload_n 0, []) := by decide +kernel
theorem r_Holes_tell_6 : P_Holes_tell 6 = (none, .getfield 18, []) := by decide +kernel
theorem r_Holes_tell_9 : P_Holes_tell 9 = (none, .if_icmp .lt 5, [14]) := by decide +kernel
theorem r_Holes_tell_12 : P_Holes_tell 12 = (none, .iconst (-1), []) := by decide +kernel
theorem r_Holes_tell_13 : P_Holes_tell 13 = (none, .ireturn, []) := by decide +kernel
theorem r_Holes_tell_14 : P_Holes_tell 14 = (none, .iload_n 2, []) := by decide +kernel
theorem r_Holes_tell_15 : P_Holes_tell 15 = (none, .lookupswitch 39 #[(0, 25), (1, 32)], [54, 40, 47]) := by decide +kernel
theorem r_Holes_tell_40 : P_Holes_tell 40 = (none, .aload_n 0, []) := by decide +kernel
theorem r_Holes_tell_41 : P_Holes_tell 41 = (none, .getfield 9, []) := by decide +kernel
theorem r_Holes_tell_44 : P_Holes_tell 44 = (none, .iload_n 1, []) := by decide +kernel
theorem r_Holes_tell_45 : P_Holes_tell 45 = (none, .iaload, []) := by decide +kernel
theorem r_Holes_tell_46 : P_Holes_tell 46 = (none, .ireturn, []) := by decide +kernel
theorem r_Holes_tell_47 : P_Holes_tell 47 = (none, .aload_n 0, []) := by decide +kernel
theorem r_Holes_tell_48 : P_Holes_tell 48 = (none, .getfield 15, []) := by decide +kernel
theorem r_Holes_tell_51 : P_Holes_tell 51 = (none, .iload_n 1, []) := by decide +kernel
theorem r_Holes_tell_52 : P_Holes_tell 52 = (none, .iaload, []) := by decide +kernel
theorem r_Holes_tell_53 : P_Holes_tell 53 = (none, .ireturn, []) := by decide +kernel
theorem r_Holes_tell_54 : P_Holes_tell 54 = (none, .iconst (-1), []) := by decide +kernel
theorem r_Holes_tell_55 : P_Holes_tell 55 = (none, .ireturn, []) := by decide +kernel
def E_Holes_tell : List (Nat × Ent) := []
def X_Holes_tell : Cx := (llk (0, 0, 9) ftX0, llk 99 ntX0, llk none kcX0, llk none klX0, llk dEnt E_Holes_tell, 0, 0, false)
theorem xok_Holes_tell : Xok RX0 X_Holes_tell := xok_of ftX0_ok ntX0_ok kcX0_ok klX0_ok (E := E_Holes_tell) (fun _ h => absurd h List.not_mem_nil)
theorem xf_Holes_tell_9 : xfl X_Holes_tell 9 = (0, 0, 1) := by decide +kernel
theorem xf_Holes_tell_15 : xfl X_Holes_tell 15 = (0, 1, 1) := by decide +kernel
theorem xf_Holes_tell_18 : xfl X_Holes_tell 18 = (0, 2, 0) := by decide +kernel
theorem xd_Holes_tell : xd X_Holes_tell = 0 := rfl
theorem xrb_Holes_tell : xrb X_Holes_tell = 0 := rfl
theorem xin_Holes_tell : xin X_Holes_tell = false := rfl
set_option maxHeartbeats 4000000 in
set_option maxRecDepth 100000 in
theorem S_Holes_tell : Snd yX0_tell cX0_tell 3 (some .int) T_Holes_tell 0 0 0 := by
  refine snd_of (X := X_Holes_tell) (P := P_Holes_tell) (tb := tb_Holes_tell) (own := RX0) (by decide) rfl rfl (by decide +kernel) xok_Holes_tell rfl rk0 (fun h => by first | rfl | cases h) ?_
  intro as M k has hM hT0
  obtain ⟨sz, sl, lay, ρ, σ, τ⟩ := M
  obtain ⟨o, as1, e, hlo, hT1⟩ := mkT_r hT0
  clear hT0
  subst e
  obtain ⟨i, as2, e, hT2⟩ := pI_x hT1
  clear hT1
  subst e
  obtain ⟨w, as3, e, hT3⟩ := pI_x hT2
  clear hT2
  subst e
  obtain ⟨e, hT⟩ := hT3
  subst e
  replace hlo : lay o = (10, 0) := hlo
  have r_i : -2147483648 ≤ i ∧ i ≤ 2147483647 := has (vI i) (by simp)
  have r_w : -2147483648 ≤ w ∧ w ≤ 2147483647 := has (vI w) (by simp)
  clear has
  replace hM : ∀ a i, -2147483648 ≤ σ a i ∧ σ a i ≤ 2147483647 := hM
  replace hT : TF_Holes_tell o i w sz sl lay ρ σ τ k := hT
  unfold TF_Holes_tell at hT
  obtain ⟨hL, hc, h0, h1, h2⟩ := hT
  obtain ⟨lh, lp0, lp1, lq0, lq1⟩ := (show LHoles lay ρ _ from hL)
  refine ⟨Nat.le_of_ble_eq_true rfl, fun _ _ _ => False, fun _ _ _ => 0, 30, ?_, fun _ _ _ _ _ _ h => h.elim⟩
  unfold wps
  simp only [si_iload_n0, si_iload_n1, si_iload_n2, si_iload_n3, si_iload, si_lload_n0, si_lload_n1, si_lload_n2, si_lload_n3, si_lload, si_aload_n0, si_aload_n1, si_aload_n2, si_aload_n3, si_aload, si_istore_n0, si_istore_n1, si_istore_n2, si_istore_n3, si_istore, si_astore_n0, si_astore_n1, si_astore_n2, si_astore_n3, si_astore, si_lstore_n0, si_lstore_n1, si_lstore_n2, si_lstore_n3, si_lstore, si_iconst, si_bipush, si_sipush, si_ldc, si_ldc2_w, si_lconst0, si_lconst1, si_aconst_null, si_iinc, si_dup, si_dup2, si_iadd, si_isub, si_imul, si_idiv, si_irem, si_iand, si_ior, si_ishl, si_ishr, si_ladd, si_lmul, si_lor, si_lxor, si_lshl, si_lushr, si_lcmp, si_i2b, si_i2l, si_l2i, si_icmp_eq, si_icmp_ne, si_icmp_lt, si_icmp_ge, si_icmp_gt, si_icmp_le, si_if_eq, si_if_ne, si_if_lt, si_if_ge, si_if_gt, si_if_le, si_ifnull, si_ifnonnull, si_goto, si_tableswitch, si_lookupswitch, si_getfield, si_putfield, si_getstatic, si_iaload, si_baload, si_laload, si_aaload, si_iastore, si_bastore, si_lastore, si_aastore, si_arraylength, si_new, si_newarray, si_anewarray, si_invokevirtual, si_invokespecial, si_invokestatic, si_ireturn, si_lreturn, si_areturn, si_return_, pI_e, pL_e, pR_e, pA_r, pA_n, pN_n, pN_r, oI_e, oL_e, oA_r, oA_n, lget_e, lrm1_0, lrm2_0, lrm1_i, lrm1_r, lrm1_n, lrm1_l, lrm2_i, lrm2_r, lrm2_n, lrm2_l, popN_0, popN_s, acat_i, acat_l, acat_r, acat_n, stw_0, stw_s, psh_s, psh_n, wgf_r, wgf_i, wgf_b, wgf_n, wgf_m, wpf_i, wpf_r, wpf_b, wnew_e, callE_e, rbk_0, rbk_1, tsw_0, tsw_s, lsw_0, lsw_s, wp_s, wq_t, wq_f, oV_e, pick_0, pick_s, oZ_e, oY_e, r_Holes_tell_0, r_Holes_tell_1, r_Holes_tell_4, r_Holes_tell_5, r_Holes_tell_6, r_Holes_tell_9, r_Holes_tell_12, r_Holes_tell_13, r_Holes_tell_14, r_Holes_tell_15, r_Holes_tell_40, r_Holes_tell_41, r_Holes_tell_44, r_Holes_tell_45, r_Holes_tell_46, r_Holes_tell_47, r_Holes_tell_48, r_Holes_tell_51, r_Holes_tell_52, r_Holes_tell_53, r_Holes_tell_54, r_Holes_tell_55, xf_Holes_tell_9, xf_Holes_tell_15, xf_Holes_tell_18, xd_Holes_tell, xrb_Holes_tell, xin_Holes_tell, lh, lp0, lp1, lq0, lq1, Nat.reduceAdd, Nat.reduceMul, Nat.reduceEqDiff, reduceIte, Int.reduceNeg, Int.reduceLE, Int.reduceLT, Int.reduceAdd, Int.reduceSub, Int.reduceToNat, true_and, and_true, inR_e, Nat.reduceLT, Nat.reduceLeDiff, reduceCtorEq, Nat.add_zero, Nat.zero_add, or_false, false_or, or_true, true_or, not_true_eq_false, not_false_eq_true, Classical.not_not, Nat.add_eq_zero_iff, and_false, false_and, Int.reduceEq, List.mem_cons, List.not_mem_nil, forall_eq_or_imp, forall_eq, false_implies, implies_true, forall_const, aargs_0, aargs_i, aargs_r, aargs_l, aargs_n, nfT_e, eq_self, and_self, Nat.le_refl, fu_s, fu_fu, iu_iu, iu_s, fu_am, fu_a0, fu_0a, iu_l, Nat.reduceBEq, Int.reduceBEq, T_objInit_e]
  repeat' (first | assumption | intro _ | apply And.intro)
  all_goals first | omega | assumption | (exact h0 (by omega)) | (exact h1 (by omega)) | (exact h2 (by omega)) | (exact h0 ⟨by omega, by omega⟩) | (exact h1 ⟨by omega, by omega⟩) | (exact h2 ⟨by omega, by omega⟩) | (exact h0 ⟨by omega, by omega, by omega⟩) | (exact h1 ⟨by omega, by omega, by omega⟩) | (exact h2 ⟨by omega, by omega, by omega⟩)

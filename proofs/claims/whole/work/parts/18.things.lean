def TF_Things_size (o : Nat) (sz sl : Nat) (lay : Nat → Nat × Int) (ρ : Nat → Int → Nat) (σ : Nat → Int → Int) (τ : Nat → Int → Int64) (k : Option AV → Mm → Prop) : Prop := k (some (vI (σ o 12))) (sz, sl, lay, ρ, σ, τ)
def T_Things_size : Tr := mkT 7 fun o as M k => as = [] ∧ TF_Things_size o M.1 M.2.1 M.2.2.1 M.2.2.2.1 M.2.2.2.2.1 M.2.2.2.2.2 k
theorem T_Things_size_e {o : Nat} {sz sl : Nat} {lay : Nat → Nat × Int} {ρ : Nat → Int → Nat} {σ : Nat → Int → Int} {τ : Nat → Int → Int64} {k : Option AV → Mm → Prop} : T_Things_size [vR o] (sz, sl, lay, ρ, σ, τ) k = (lay o = (17, 0) ∧ TF_Things_size o sz sl lay ρ σ τ k) := by simp [T_Things_size, mkT_e, pI_e, pR_e, pL_e]
theorem T_Things_size_r (as : List AV) (M : Mm) (k : Option AV → Mm → Prop) (h : T_Things_size as M k) : ∃ b As, as = vR b :: As ∧ M.2.2.1 b = (10 + 7, 0) := by
  obtain ⟨b, As, h1, h2, -⟩ := mkT_r h
  exact ⟨b, As, h1, h2⟩
def tb_Things_size : List (Nat × Option (List Nat) × Instr × List Nat) := [(0, none, .aload_n 0, []), (1, none, .getfield 49, []), (4, none, .ireturn, [])]
def P_Things_size : Nat → Option (List Nat) × Instr × List Nat := plk tb_Things_size
theorem r_Things_size_0 : P_Things_size 0 = (none, .aload_n 0, []) := by decide +kernel
theorem r_Things_size_1 : P_Things_size 1 = (none, .getfield 49, []) := by decide +kernel
theorem r_Things_size_4 : P_Things_size 4 = (none, .ireturn, []) := by decide +kernel
def E_Things_size : List (Nat × Ent) := []
def X_Things_size : Cx := (llk (0, 0, 9) ftX7, llk 99 ntX7, llk none kcX7, llk none klX7, llk dEnt E_Things_size, 0, 0, false)
theorem xok_Things_size : Xok RX7 X_Things_size := xok_of ftX7_ok ntX7_ok kcX7_ok klX7_ok (E := E_Things_size) (fun _ h => absurd h List.not_mem_nil)
theorem xf_Things_size_49 : xfl X_Things_size 49 = (7, 12, 0) := by decide +kernel
theorem xd_Things_size : xd X_Things_size = 0 := rfl
theorem xrb_Things_size : xrb X_Things_size = 0 := rfl
theorem xin_Things_size : xin X_Things_size = false := rfl
set_option maxHeartbeats 4000000 in
set_option maxRecDepth 100000 in
theorem S_Things_size : Snd yX7_size cX7_size 1 (some .int) T_Things_size 0 0 0 := by
  refine snd_of (X := X_Things_size) (P := P_Things_size) (tb := tb_Things_size) (own := RX7) (by decide) rfl rfl (by decide +kernel) xok_Things_size rfl rk0 (fun h => by first | rfl | cases h) ?_
  intro as M k has hM hT0
  obtain ⟨sz, sl, lay, ρ, σ, τ⟩ := M
  obtain ⟨o, as1, e, hlo, hT1⟩ := mkT_r hT0
  clear hT0
  subst e
  obtain ⟨e, hT⟩ := hT1
  subst e
  replace hlo : lay o = (17, 0) := hlo
  clear has
  replace hM : ∀ a i, -2147483648 ≤ σ a i ∧ σ a i ≤ 2147483647 := hM
  replace hT : TF_Things_size o sz sl lay ρ σ τ k := hT
  unfold TF_Things_size at hT
  refine ⟨Nat.le_of_ble_eq_true rfl, fun _ _ _ => False, fun _ _ _ => 0, 11, ?_, fun _ _ _ _ _ _ h => h.elim⟩
  unfold wps
  simp only [si_iload_n0, si_iload_n1, si_iload_n2, si_iload_n3, si_iload, si_lload_n0, si_lload_n1, si_lload_n2, si_lload_n3, si_lload, si_aload_n0, si_aload_n1, si_aload_n2, si_aload_n3, si_aload, si_istore_n0, si_istore_n1, si_istore_n2, si_istore_n3, si_istore, si_astore_n0, si_astore_n1, si_astore_n2, si_astore_n3, si_astore, si_lstore_n0, si_lstore_n1, si_lstore_n2, si_lstore_n3, si_lstore, si_iconst, si_bipush, si_sipush, si_ldc, si_ldc2_w, si_lconst0, si_lconst1, si_aconst_null, si_iinc, si_dup, si_dup2, si_iadd, si_isub, si_imul, si_idiv, si_irem, si_iand, si_ior, si_ishl, si_ishr, si_ladd, si_lmul, si_lor, si_lxor, si_lshl, si_lushr, si_lcmp, si_i2b, si_i2l, si_l2i, si_icmp_eq, si_icmp_ne, si_icmp_lt, si_icmp_ge, si_icmp_gt, si_icmp_le, si_if_eq, si_if_ne, si_if_lt, si_if_ge, si_if_gt, si_if_le, si_ifnull, si_ifnonnull, si_goto, si_tableswitch, si_lookupswitch, si_getfield, si_putfield, si_getstatic, si_iaload, si_baload, si_laload, si_aaload, si_iastore, si_bastore, si_lastore, si_aastore, si_arraylength, si_new, si_newarray, si_anewarray, si_invokevirtual, si_invokespecial, si_invokestatic, si_ireturn, si_lreturn, si_areturn, si_return_, pI_e, pL_e, pR_e, pA_r, pA_n, pN_n, pN_r, oI_e, oL_e, oA_r, oA_n, lget_e, lrm1_0, lrm2_0, lrm1_i, lrm1_r, lrm1_n, lrm1_l, lrm2_i, lrm2_r, lrm2_n, lrm2_l, popN_0, popN_s, acat_i, acat_l, acat_r, acat_n, stw_0, stw_s, psh_s, psh_n, wgf_r, wgf_i, wgf_b, wgf_n, wgf_m, wpf_i, wpf_r, wpf_b, wnew_e, callE_e, rbk_0, rbk_1, tsw_0, tsw_s, lsw_0, lsw_s, wp_s, wq_t, wq_f, oV_e, pick_0, pick_s, oZ_e, oY_e, r_Things_size_0, r_Things_size_1, r_Things_size_4, xf_Things_size_49, xd_Things_size, xrb_Things_size, xin_Things_size, Nat.reduceAdd, Nat.reduceMul, Nat.reduceEqDiff, reduceIte, Int.reduceNeg, Int.reduceLE, Int.reduceLT, Int.reduceAdd, Int.reduceSub, Int.reduceToNat, true_and, and_true, inR_e, Nat.reduceLT, Nat.reduceLeDiff, reduceCtorEq, Nat.add_zero, Nat.zero_add, or_false, false_or, or_true, true_or, not_true_eq_false, not_false_eq_true, Classical.not_not, Nat.add_eq_zero_iff, and_false, false_and, Int.reduceEq, List.mem_cons, List.not_mem_nil, forall_eq_or_imp, forall_eq, false_implies, implies_true, forall_const, aargs_0, aargs_i, aargs_r, aargs_l, aargs_n, nfT_e, eq_self, and_self, Nat.le_refl, fu_s, fu_fu, iu_iu, iu_s, fu_am, fu_a0, fu_0a, iu_l, Nat.reduceBEq, Int.reduceBEq, T_objInit_e]
  exact ⟨hlo, hT⟩
def TF_Things_unknownRefs (o : Nat) (sz sl : Nat) (lay : Nat → Nat × Int) (ρ : Nat → Int → Nat) (σ : Nat → Int → Int) (τ : Nat → Int → Int64) (k : Option AV → Mm → Prop) : Prop := k (some (vI (σ o 14))) (sz, sl, lay, ρ, σ, τ)
def T_Things_unknownRefs : Tr := mkT 7 fun o as M k => as = [] ∧ TF_Things_unknownRefs o M.1 M.2.1 M.2.2.1 M.2.2.2.1 M.2.2.2.2.1 M.2.2.2.2.2 k
theorem T_Things_unknownRefs_e {o : Nat} {sz sl : Nat} {lay : Nat → Nat × Int} {ρ : Nat → Int → Nat} {σ : Nat → Int → Int} {τ : Nat → Int → Int64} {k : Option AV → Mm → Prop} : T_Things_unknownRefs [vR o] (sz, sl, lay, ρ, σ, τ) k = (lay o = (17, 0) ∧ TF_Things_unknownRefs o sz sl lay ρ σ τ k) := by simp [T_Things_unknownRefs, mkT_e, pI_e, pR_e, pL_e]
theorem T_Things_unknownRefs_r (as : List AV) (M : Mm) (k : Option AV → Mm → Prop) (h : T_Things_unknownRefs as M k) : ∃ b As, as = vR b :: As ∧ M.2.2.1 b = (10 + 7, 0) := by
  obtain ⟨b, As, h1, h2, -⟩ := mkT_r h
  exact ⟨b, As, h1, h2⟩
def tb_Things_unknownRefs : List (Nat × Option (List Nat) × Instr × List Nat) := [(0, none, .aload_n 0, []), (1, none, .getfield 56, []), (4, none, .ireturn, [])]
def P_Things_unknownRefs : Nat → Option (List Nat) × Instr × List Nat := plk tb_Things_unknownRefs
theorem r_Things_unknownRefs_0 : P_Things_unknownRefs 0 = (none, .aload_n 0, []) := by decide +kernel
theorem r_Things_unknownRefs_1 : P_Things_unknownRefs 1 = (none, .getfield 56, []) := by decide +kernel
theorem r_Things_unknownRefs_4 : P_Things_unknownRefs 4 = (none, .ireturn, []) := by decide +kernel
def E_Things_unknownRefs : List (Nat × Ent) := []
def X_Things_unknownRefs : Cx := (llk (0, 0, 9) ftX7, llk 99 ntX7, llk none kcX7, llk none klX7, llk dEnt E_Things_unknownRefs, 0, 0, false)
theorem xok_Things_unknownRefs : Xok RX7 X_Things_unknownRefs := xok_of ftX7_ok ntX7_ok kcX7_ok klX7_ok (E := E_Things_unknownRefs) (fun _ h => absurd h List.not_mem_nil)
theorem xf_Things_unknownRefs_56 : xfl X_Things_unknownRefs 56 = (7, 14, 0) := by decide +kernel
theorem xd_Things_unknownRefs : xd X_Things_unknownRefs = 0 := rfl
theorem xrb_Things_unknownRefs : xrb X_Things_unknownRefs = 0 := rfl
theorem xin_Things_unknownRefs : xin X_Things_unknownRefs = false := rfl
set_option maxHeartbeats 4000000 in
set_option maxRecDepth 100000 in
theorem S_Things_unknownRefs : Snd yX7_unknownRefs cX7_unknownRefs 1 (some .int) T_Things_unknownRefs 0 0 0 := by
  refine snd_of (X := X_Things_unknownRefs) (P := P_Things_unknownRefs) (tb := tb_Things_unknownRefs) (own := RX7) (by decide) rfl rfl (by decide +kernel) xok_Things_unknownRefs rfl rk0 (fun h => by first | rfl | cases h) ?_
  intro as M k has hM hT0
  obtain ⟨sz, sl, lay, ρ, σ, τ⟩ := M
  obtain ⟨o, as1, e, hlo, hT1⟩ := mkT_r hT0
  clear hT0
  subst e
  obtain ⟨e, hT⟩ := hT1
  subst e
  replace hlo : lay o = (17, 0) := hlo
  clear has
  replace hM : ∀ a i, -2147483648 ≤ σ a i ∧ σ a i ≤ 2147483647 := hM
  replace hT : TF_Things_unknownRefs o sz sl lay ρ σ τ k := hT
  unfold TF_Things_unknownRefs at hT
  refine ⟨Nat.le_of_ble_eq_true rfl, fun _ _ _ => False, fun _ _ _ => 0, 11, ?_, fun _ _ _ _ _ _ h => h.elim⟩
  unfold wps
  simp only [si_iload_n0, si_iload_n1, si_iload_n2, si_iload_n3, si_iload, si_lload_n0, si_lload_n1, si_lload_n2, si_lload_n3, si_lload, si_aload_n0, si_aload_n1, si_aload_n2, si_aload_n3, si_aload, si_istore_n0, si_istore_n1, si_istore_n2, si_istore_n3, si_istore, si_astore_n0, si_astore_n1, si_astore_n2, si_astore_n3, si_astore, si_lstore_n0, si_lstore_n1, si_lstore_n2, si_lstore_n3, si_lstore, si_iconst, si_bipush, si_sipush, si_ldc, si_ldc2_w, si_lconst0, si_lconst1, si_aconst_null, si_iinc, si_dup, si_dup2, si_iadd, si_isub, si_imul, si_idiv, si_irem, si_iand, si_ior, si_ishl, si_ishr, si_ladd, si_lmul, si_lor, si_lxor, si_lshl, si_lushr, si_lcmp, si_i2b, si_i2l, si_l2i, si_icmp_eq, si_icmp_ne, si_icmp_lt, si_icmp_ge, si_icmp_gt, si_icmp_le, si_if_eq, si_if_ne, si_if_lt, si_if_ge, si_if_gt, si_if_le, si_ifnull, si_ifnonnull, si_goto, si_tableswitch, si_lookupswitch, si_getfield, si_putfield, si_getstatic, si_iaload, si_baload, si_laload, si_aaload, si_iastore, si_bastore, si_lastore, si_aastore, si_arraylength, si_new, si_newarray, si_anewarray, si_invokevirtual, si_invokespecial, si_invokestatic, si_ireturn, si_lreturn, si_areturn, si_return_, pI_e, pL_e, pR_e, pA_r, pA_n, pN_n, pN_r, oI_e, oL_e, oA_r, oA_n, lget_e, lrm1_0, lrm2_0, lrm1_i, lrm1_r, lrm1_n, lrm1_l, lrm2_i, lrm2_r, lrm2_n, lrm2_l, popN_0, popN_s, acat_i, acat_l, acat_r, acat_n, stw_0, stw_s, psh_s, psh_n, wgf_r, wgf_i, wgf_b, wgf_n, wgf_m, wpf_i, wpf_r, wpf_b, wnew_e, callE_e, rbk_0, rbk_1, tsw_0, tsw_s, lsw_0, lsw_s, wp_s, wq_t, wq_f, oV_e, pick_0, pick_s, oZ_e, oY_e, r_Things_unknownRefs_0, r_Things_unknownRefs_1, r_Things_unknownRefs_4, xf_Things_unknownRefs_56, xd_Things_unknownRefs, xrb_Things_unknownRefs, xin_Things_unknownRefs, Nat.reduceAdd, Nat.reduceMul, Nat.reduceEqDiff, reduceIte, Int.reduceNeg, Int.reduceLE, Int.reduceLT, Int.reduceAdd, Int.reduceSub, Int.reduceToNat, true_and, and_true, inR_e, Nat.reduceLT, Nat.reduceLeDiff, reduceCtorEq, Nat.add_zero, Nat.zero_add, or_false, false_or, or_true, true_or, not_true_eq_false, not_false_eq_true, Classical.not_not, Nat.add_eq_zero_iff, and_false, false_and, Int.reduceEq, List.mem_cons, List.not_mem_nil, forall_eq_or_imp, forall_eq, false_implies, implies_true, forall_const, aargs_0, aargs_i, aargs_r, aargs_l, aargs_n, nfT_e, eq_self, and_self, Nat.le_refl, fu_s, fu_fu, iu_iu, iu_s, fu_am, fu_a0, fu_0a, iu_l, Nat.reduceBEq, Int.reduceBEq, T_objInit_e]
  exact ⟨hlo, hT⟩
def TF_Things_has (o : Nat) (i : Int) (sz sl : Nat) (lay : Nat → Nat × Int) (ρ : Nat → Int → Nat) (σ : Nat → Int → Int) (τ : Nat → Int → Int64) (k : Option AV → Mm → Prop) : Prop := (0 ≤ i ∧ i < σ o 12 → k (some (vI (1))) (sz, sl, lay, ρ, σ, τ)) ∧ (¬ (0 ≤ i ∧ i < σ o 12) → k (some (vI (0))) (sz, sl, lay, ρ, σ, τ))
def T_Things_has : Tr := mkT 7 fun o as M k => pI as fun i as => as = [] ∧ TF_Things_has o i M.1 M.2.1 M.2.2.1 M.2.2.2.1 M.2.2.2.2.1 M.2.2.2.2.2 k
theorem T_Things_has_e {o : Nat} {i : Int} {sz sl : Nat} {lay : Nat → Nat × Int} {ρ : Nat → Int → Nat} {σ : Nat → Int → Int} {τ : Nat → Int → Int64} {k : Option AV → Mm → Prop} : T_Things_has [vR o, vI i] (sz, sl, lay, ρ, σ, τ) k = (lay o = (17, 0) ∧ TF_Things_has o i sz sl lay ρ σ τ k) := by simp [T_Things_has, mkT_e, pI_e, pR_e, pL_e]
theorem T_Things_has_r (as : List AV) (M : Mm) (k : Option AV → Mm → Prop) (h : T_Things_has as M k) : ∃ b As, as = vR b :: As ∧ M.2.2.1 b = (10 + 7, 0) := by
  obtain ⟨b, As, h1, h2, -⟩ := mkT_r h
  exact ⟨b, As, h1, h2⟩
def tb_Things_has : List (Nat × Option (List Nat) × Instr × List Nat) := [(0, none, .iload_n 1, []), (1, none, .ifCond .lt 15, [16]), (4, none, .iload_n 1, []), (5, none, .aload_n 0, []), (6, none, .getfield 49, []), (9, none, .if_icmp .ge 7, [16]), (12, none, .iconst 1, []), (13, none, .goto 4, [17]), (16, none, .iconst 0, []), (17, none, .ireturn, [])]
def P_Things_has : Nat → Option (List Nat) × Instr × List Nat := plk tb_Things_has
theorem r_Things_has_0 : P_Things_has 0 = (none, .iload_n 1, []) := by decide +kernel
theorem r_Things_has_1 : P_Things_has 1 = (none, .ifCond .lt 15, [16]) := by decide +kernel
theorem r_Things_has_4 : P_Things_has 4 = (none, .iload_n 1, []) := by decide +kernel
theorem r_Things_has_5 : P_Things_has 5 = (none, .aload_n 0, []) := by decide +kernel
theorem r_Things_has_6 : P_Things_has 6 = (none, .getfield 49, []) := by decide +kernel
theorem r_Things_has_9 : P_Things_has 9 = (none, .if_icmp .ge 7, [16]) := by decide +kernel
theorem r_Things_has_12 : P_Things_has 12 = (none, .iconst 1, []) := by decide +kernel
theorem r_Things_has_13 : P_Things_has 13 = (none, .goto 4, [17]) := by decide +kernel
theorem r_Things_has_16 : P_Things_has 16 = (none, .iconst 0, []) := by decide +kernel
theorem r_Things_has_17 : P_Things_has 17 = (none, .ireturn, []) := by decide +kernel
def E_Things_has : List (Nat × Ent) := []
def X_Things_has : Cx := (llk (0, 0, 9) ftX7, llk 99 ntX7, llk none kcX7, llk none klX7, llk dEnt E_Things_has, 0, 1, false)
theorem xok_Things_has : Xok RX7 X_Things_has := xok_of ftX7_ok ntX7_ok kcX7_ok klX7_ok (E := E_Things_has) (fun _ h => absurd h List.not_mem_nil)
theorem xf_Things_has_49 : xfl X_Things_has 49 = (7, 12, 0) := by decide +kernel
theorem xd_Things_has : xd X_Things_has = 0 := rfl
theorem xrb_Things_has : xrb X_Things_has = 1 := rfl
theorem xin_Things_has : xin X_Things_has = false := rfl
set_option maxHeartbeats 4000000 in
set_option maxRecDepth 100000 in
theorem S_Things_has : Snd yX7_has cX7_has 2 (some .boolean) T_Things_has 0 0 0 := by
  refine snd_of (X := X_Things_has) (P := P_Things_has) (tb := tb_Things_has) (own := RX7) (by decide) rfl rfl (by decide +kernel) xok_Things_has rfl rk1 (fun h => by first | rfl | cases h) ?_
  intro as M k has hM hT0
  obtain ⟨sz, sl, lay, ρ, σ, τ⟩ := M
  obtain ⟨o, as1, e, hlo, hT1⟩ := mkT_r hT0
  clear hT0
  subst e
  obtain ⟨i, as2, e, hT2⟩ := pI_x hT1
  clear hT1
  subst e
  obtain ⟨e, hT⟩ := hT2
  subst e
  replace hlo : lay o = (17, 0) := hlo
  have r_i : -2147483648 ≤ i ∧ i ≤ 2147483647 := has (vI i) (by simp)
  clear has
  replace hM : ∀ a i, -2147483648 ≤ σ a i ∧ σ a i ≤ 2147483647 := hM
  replace hT : TF_Things_has o i sz sl lay ρ σ τ k := hT
  unfold TF_Things_has at hT
  obtain ⟨h1, h0⟩ := hT
  refine ⟨Nat.le_of_ble_eq_true rfl, fun _ _ _ => False, fun _ _ _ => 0, 18, ?_, fun _ _ _ _ _ _ h => h.elim⟩
  unfold wps
  simp only [si_iload_n0, si_iload_n1, si_iload_n2, si_iload_n3, si_iload, si_lload_n0, si_lload_n1, si_lload_n2, si_lload_n3, si_lload, si_aload_n0, si_aload_n1, si_aload_n2, si_aload_n3, si_aload, si_istore_n0, si_istore_n1, si_istore_n2, si_istore_n3, si_istore, si_astore_n0, si_astore_n1, si_astore_n2, si_astore_n3, si_astore, si_lstore_n0, si_lstore_n1, si_lstore_n2, si_lstore_n3, si_lstore, si_iconst, si_bipush, si_sipush, si_ldc, si_ldc2_w, si_lconst0, si_lconst1, si_aconst_null, si_iinc, si_dup, si_dup2, si_iadd, si_isub, si_imul, si_idiv, si_irem, si_iand, si_ior, si_ishl, si_ishr, si_ladd, si_lmul, si_lor, si_lxor, si_lshl, si_lushr, si_lcmp, si_i2b, si_i2l, si_l2i, si_icmp_eq, si_icmp_ne, si_icmp_lt, si_icmp_ge, si_icmp_gt, si_icmp_le, si_if_eq, si_if_ne, si_if_lt, si_if_ge, si_if_gt, si_if_le, si_ifnull, si_ifnonnull, si_goto, si_tableswitch, si_lookupswitch, si_getfield, si_putfield, si_getstatic, si_iaload, si_baload, si_laload, si_aaload, si_iastore, si_bastore, si_lastore, si_aastore, si_arraylength, si_new, si_newarray, si_anewarray, si_invokevirtual, si_invokespecial, si_invokestatic, si_ireturn, si_lreturn, si_areturn, si_return_, pI_e, pL_e, pR_e, pA_r, pA_n, pN_n, pN_r, oI_e, oL_e, oA_r, oA_n, lget_e, lrm1_0, lrm2_0, lrm1_i, lrm1_r, lrm1_n, lrm1_l, lrm2_i, lrm2_r, lrm2_n, lrm2_l, popN_0, popN_s, acat_i, acat_l, acat_r, acat_n, stw_0, stw_s, psh_s, psh_n, wgf_r, wgf_i, wgf_b, wgf_n, wgf_m, wpf_i, wpf_r, wpf_b, wnew_e, callE_e, rbk_0, rbk_1, tsw_0, tsw_s, lsw_0, lsw_s, wp_s, wq_t, wq_f, oV_e, pick_0, pick_s, oZ_e, oY_e, r_Things_has_0, r_Things_has_1, r_Things_has_4, r_Things_has_5, r_Things_has_6, r_Things_has_9, r_Things_has_12, r_Things_has_13, r_Things_has_16, r_Things_has_17, xf_Things_has_49, xd_Things_has, xrb_Things_has, xin_Things_has, hlo, Nat.reduceAdd, Nat.reduceMul, Nat.reduceEqDiff, reduceIte, Int.reduceNeg, Int.reduceLE, Int.reduceLT, Int.reduceAdd, Int.reduceSub, Int.reduceToNat, true_and, and_true, inR_e, Nat.reduceLT, Nat.reduceLeDiff, reduceCtorEq, Nat.add_zero, Nat.zero_add, or_false, false_or, or_true, true_or, not_true_eq_false, not_false_eq_true, Classical.not_not, Nat.add_eq_zero_iff, and_false, false_and, Int.reduceEq, List.mem_cons, List.not_mem_nil, forall_eq_or_imp, forall_eq, false_implies, implies_true, forall_const, aargs_0, aargs_i, aargs_r, aargs_l, aargs_n, nfT_e, eq_self, and_self, Nat.le_refl, fu_s, fu_fu, iu_iu, iu_s, fu_am, fu_a0, fu_0a, iu_l, Nat.reduceBEq, Int.reduceBEq, T_objInit_e]
  repeat' (first | assumption | intro _ | apply And.intro)
  all_goals first | omega | assumption | (exact h1 (by omega)) | (exact h0 (by omega)) | (exact h1 ⟨by omega, by omega⟩) | (exact h0 ⟨by omega, by omega⟩) | (exact h1 ⟨by omega, by omega, by omega⟩) | (exact h0 ⟨by omega, by omega, by omega⟩)
theorem co_X7_360 : CallOK RX7 (.invokevirtual 90) (2, 0, 0, 0, T_Things_has) := call_V S_Things_has (by decide) (ci := 7) rfl (by decide +kernel) (by decide +kernel) (by decide +kernel) (by decide +kernel) (by decide +kernel) (by decide +kernel) T_Things_has_r
def TF_Things_numberOf (o : Nat) (i : Int) (sz sl : Nat) (lay : Nat → Nat × Int) (ρ : Nat → Int → Nat) (σ : Nat → Int → Int) (τ : Nat → Int → Int64) (k : Option AV → Mm → Prop) : Prop := LThings lay ρ o ∧ (0 ≤ σ o 12 ∧ σ o 12 ≤ 600) ∧ (0 ≤ i ∧ i < σ o 12 → k (some (vI (σ (o + 1) i))) (sz, sl, lay, ρ, σ, τ)) ∧ (¬ (0 ≤ i ∧ i < σ o 12) → k (some (vI (-1))) (sz, sl, lay, ρ, σ, τ))
def T_Things_numberOf : Tr := mkT 7 fun o as M k => pI as fun i as => as = [] ∧ TF_Things_numberOf o i M.1 M.2.1 M.2.2.1 M.2.2.2.1 M.2.2.2.2.1 M.2.2.2.2.2 k
theorem T_Things_numberOf_e {o : Nat} {i : Int} {sz sl : Nat} {lay : Nat → Nat × Int} {ρ : Nat → Int → Nat} {σ : Nat → Int → Int} {τ : Nat → Int → Int64} {k : Option AV → Mm → Prop} : T_Things_numberOf [vR o, vI i] (sz, sl, lay, ρ, σ, τ) k = (lay o = (17, 0) ∧ TF_Things_numberOf o i sz sl lay ρ σ τ k) := by simp [T_Things_numberOf, mkT_e, pI_e, pR_e, pL_e]
theorem T_Things_numberOf_r (as : List AV) (M : Mm) (k : Option AV → Mm → Prop) (h : T_Things_numberOf as M k) : ∃ b As, as = vR b :: As ∧ M.2.2.1 b = (10 + 7, 0) := by
  obtain ⟨b, As, h1, h2, -⟩ := mkT_r h
  exact ⟨b, As, h1, h2⟩
def tb_Things_numberOf : List (Nat × Option (List Nat) × Instr × List Nat) := [(0, none, .aload_n 0, []), (1, none, .iload_n 1, []), (2, none, .invokevirtual 90, []), (5, none, .ifCond .eq 12, [17]), (8, none, .aload_n 0, []), (9, none, .getfield 9, []), (12, none, .iload_n 1, []), (13, none, .iaload, []), (14, none, .goto 4, [18]), (17, none, .iconst (-1), []), (18, none, .ireturn, [])]
def P_Things_numberOf : Nat → Option (List Nat) × Instr × List Nat := plk tb_Things_numberOf
theorem r_Things_numberOf_0 : P_Things_numberOf 0 = (none, .aload_n 0, []) := by decide +kernel
theorem r_Things_numberOf_1 : P_Things_numberOf 1 = (none, .iload_n 1, []) := by decide +kernel
theorem r_Things_numberOf_2 : P_Things_numberOf 2 = (none, .invokevirtual 90, []) := by decide +kernel
theorem r_Things_numberOf_5 : P_Things_numberOf 5 = (none, .ifCond .eq 12, [17]) := by decide +kernel
theorem r_Things_numberOf_8 : P_Things_numberOf 8 = (none, .aload_n 0, []) := by decide +kernel
theorem r_Things_numberOf_9 : P_Things_numberOf 9 = (none, .getfield 9, []) := by decide +kernel
theorem r_Things_numberOf_12 : P_Things_numberOf 12 = (none, .iload_n 1, []) := by decide +kernel
theorem r_Things_numberOf_13 : P_Things_numberOf 13 = (none, .iaload, []) := by decide +kernel
theorem r_Things_numberOf_14 : P_Things_numberOf 14 = (none, .goto 4, [18]) := by decide +kernel
theorem r_Things_numberOf_17 : P_Things_numberOf 17 = (none, .iconst (-1), []) := by decide +kernel
theorem r_Things_numberOf_18 : P_Things_numberOf 18 = (none, .ireturn, []) := by decide +kernel
def E_Things_numberOf : List (Nat × Ent) := [(360, (2, 0, 0, 0, T_Things_has))]
def X_Things_numberOf : Cx := (llk (0, 0, 9) ftX7, llk 99 ntX7, llk none kcX7, llk none klX7, llk dEnt E_Things_numberOf, 1, 0, false)
theorem xok_Things_numberOf : Xok RX7 X_Things_numberOf := xok_of ftX7_ok ntX7_ok kcX7_ok klX7_ok (E := E_Things_numberOf) (List.forall_mem_cons.mpr ⟨co_X7_360, fun _ h => absurd h List.not_mem_nil⟩)
theorem xf_Things_numberOf_9 : xfl X_Things_numberOf 9 = (7, 0, 1) := by decide +kernel
theorem xe_Things_numberOf_360 : xE X_Things_numberOf (4 * 90 + 0) = (2, 0, 0, 0, T_Things_has) := rfl
theorem xd_Things_numberOf : xd X_Things_numberOf = 1 := rfl
theorem xrb_Things_numberOf : xrb X_Things_numberOf = 0 := rfl
theorem xin_Things_numberOf : xin X_Things_numberOf = false := rfl
set_option maxHeartbeats 4000000 in
set_option maxRecDepth 100000 in
theorem S_Things_numberOf : Snd yX7_numberOf cX7_numberOf 2 (some .int) T_Things_numberOf 1 0 0 := by
  refine snd_of (X := X_Things_numberOf) (P := P_Things_numberOf) (tb := tb_Things_numberOf) (own := RX7) (by decide) rfl rfl (by decide +kernel) xok_Things_numberOf rfl rk0 (fun h => by first | rfl | cases h) ?_
  intro as M k has hM hT0
  obtain ⟨sz, sl, lay, ρ, σ, τ⟩ := M
  obtain ⟨o, as1, e, hlo, hT1⟩ := mkT_r hT0
  clear hT0
  subst e
  obtain ⟨i, as2, e, hT2⟩ := pI_x hT1
  clear hT1
  subst e
  obtain ⟨e, hT⟩ := hT2
  subst e
  replace hlo : lay o = (17, 0) := hlo
  have r_i : -2147483648 ≤ i ∧ i ≤ 2147483647 := has (vI i) (by simp)
  clear has
  replace hM : ∀ a i, -2147483648 ≤ σ a i ∧ σ a i ≤ 2147483647 := hM
  replace hT : TF_Things_numberOf o i sz sl lay ρ σ τ k := hT
  unfold TF_Things_numberOf at hT
  obtain ⟨hL, hn, h1, h0⟩ := hT
  obtain ⟨lh, lp0, lp1, lp2, lp3, lp4, lp5, lp6, lp7, lp8, lp9, lp10, lp11, lq0, lq1, lq2, lq3, lq4, lq5, lq6, lq7, lq8, lq9, lq10, lq11⟩ := (show LThings lay ρ _ from hL)
  refine ⟨Nat.le_of_ble_eq_true rfl, fun _ _ _ => False, fun _ _ _ => 0, 19, ?_, fun _ _ _ _ _ _ h => h.elim⟩
  unfold wps
  simp only [si_iload_n0, si_iload_n1, si_iload_n2, si_iload_n3, si_iload, si_lload_n0, si_lload_n1, si_lload_n2, si_lload_n3, si_lload, si_aload_n0, si_aload_n1, si_aload_n2, si_aload_n3, si_aload, si_istore_n0, si_istore_n1, si_istore_n2, si_istore_n3, si_istore, si_astore_n0, si_astore_n1, si_astore_n2, si_astore_n3, si_astore, si_lstore_n0, si_lstore_n1, si_lstore_n2, si_lstore_n3, si_lstore, si_iconst, si_bipush, si_sipush, si_ldc, si_ldc2_w, si_lconst0, si_lconst1, si_aconst_null, si_iinc, si_dup, si_dup2, si_iadd, si_isub, si_imul, si_idiv, si_irem, si_iand, si_ior, si_ishl, si_ishr, si_ladd, si_lmul, si_lor, si_lxor, si_lshl, si_lushr, si_lcmp, si_i2b, si_i2l, si_l2i, si_icmp_eq, si_icmp_ne, si_icmp_lt, si_icmp_ge, si_icmp_gt, si_icmp_le, si_if_eq, si_if_ne, si_if_lt, si_if_ge, si_if_gt, si_if_le, si_ifnull, si_ifnonnull, si_goto, si_tableswitch, si_lookupswitch, si_getfield, si_putfield, si_getstatic, si_iaload, si_baload, si_laload, si_aaload, si_iastore, si_bastore, si_lastore, si_aastore, si_arraylength, si_new, si_newarray, si_anewarray, si_invokevirtual, si_invokespecial, si_invokestatic, si_ireturn, si_lreturn, si_areturn, si_return_, pI_e, pL_e, pR_e, pA_r, pA_n, pN_n, pN_r, oI_e, oL_e, oA_r, oA_n, lget_e, lrm1_0, lrm2_0, lrm1_i, lrm1_r, lrm1_n, lrm1_l, lrm2_i, lrm2_r, lrm2_n, lrm2_l, popN_0, popN_s, acat_i, acat_l, acat_r, acat_n, stw_0, stw_s, psh_s, psh_n, wgf_r, wgf_i, wgf_b, wgf_n, wgf_m, wpf_i, wpf_r, wpf_b, wnew_e, callE_e, rbk_0, rbk_1, tsw_0, tsw_s, lsw_0, lsw_s, wp_s, wq_t, wq_f, oV_e, pick_0, pick_s, oZ_e, oY_e, r_Things_numberOf_0, r_Things_numberOf_1, r_Things_numberOf_2, r_Things_numberOf_5, r_Things_numberOf_8, r_Things_numberOf_9, r_Things_numberOf_12, r_Things_numberOf_13, r_Things_numberOf_14, r_Things_numberOf_17, r_Things_numberOf_18, xf_Things_numberOf_9, xe_Things_numberOf_360, xd_Things_numberOf, xrb_Things_numberOf, xin_Things_numberOf, T_Things_has_e, TF_Things_has, lh, lp0, lp1, lp2, lp3, lp4, lp5, lp6, lp7, lp8, lp9, lp10, lp11, lq0, lq1, lq2, lq3, lq4, lq5, lq6, lq7, lq8, lq9, lq10, lq11, Nat.reduceAdd, Nat.reduceMul, Nat.reduceEqDiff, reduceIte, Int.reduceNeg, Int.reduceLE, Int.reduceLT, Int.reduceAdd, Int.reduceSub, Int.reduceToNat, true_and, and_true, inR_e, Nat.reduceLT, Nat.reduceLeDiff, reduceCtorEq, Nat.add_zero, Nat.zero_add, or_false, false_or, or_true, true_or, not_true_eq_false, not_false_eq_true, Classical.not_not, Nat.add_eq_zero_iff, and_false, false_and, Int.reduceEq, List.mem_cons, List.not_mem_nil, forall_eq_or_imp, forall_eq, false_implies, implies_true, forall_const, aargs_0, aargs_i, aargs_r, aargs_l, aargs_n, nfT_e, eq_self, and_self, Nat.le_refl, fu_s, fu_fu, iu_iu, iu_s, fu_am, fu_a0, fu_0a, iu_l, Nat.reduceBEq, Int.reduceBEq, T_objInit_e]
  repeat' (first | assumption | intro _ | apply And.intro)
  all_goals first | omega | assumption | (exact h1 (by omega)) | (exact h0 (by omega)) | (exact h1 ⟨by omega, by omega⟩) | (exact h0 ⟨by omega, by omega⟩) | (exact h1 ⟨by omega, by omega, by omega⟩) | (exact h0 ⟨by omega, by omega, by omega⟩)
def TF_Things_sizeOf (o : Nat) (i : Int) (sz sl : Nat) (lay : Nat → Nat × Int) (ρ : Nat → Int → Nat) (σ : Nat → Int → Int) (τ : Nat → Int → Int64) (k : Option AV → Mm → Prop) : Prop := LThings lay ρ o ∧ (0 ≤ σ o 12 ∧ σ o 12 ≤ 600) ∧ (0 ≤ i ∧ i < σ o 12 → k (some (vI (σ (o + 5) i))) (sz, sl, lay, ρ, σ, τ)) ∧ (¬ (0 ≤ i ∧ i < σ o 12) → k (some (vI (0))) (sz, sl, lay, ρ, σ, τ))
def T_Things_sizeOf : Tr := mkT 7 fun o as M k => pI as fun i as => as = [] ∧ TF_Things_sizeOf o i M.1 M.2.1 M.2.2.1 M.2.2.2.1 M.2.2.2.2.1 M.2.2.2.2.2 k
theorem T_Things_sizeOf_e {o : Nat} {i : Int} {sz sl : Nat} {lay : Nat → Nat × Int} {ρ : Nat → Int → Nat} {σ : Nat → Int → Int} {τ : Nat → Int → Int64} {k : Option AV → Mm → Prop} : T_Things_sizeOf [vR o, vI i] (sz, sl, lay, ρ, σ, τ) k = (lay o = (17, 0) ∧ TF_Things_sizeOf o i sz sl lay ρ σ τ k) := by simp [T_Things_sizeOf, mkT_e, pI_e, pR_e, pL_e]
theorem T_Things_sizeOf_r (as : List AV) (M : Mm) (k : Option AV → Mm → Prop) (h : T_Things_sizeOf as M k) : ∃ b As, as = vR b :: As ∧ M.2.2.1 b = (10 + 7, 0) := by
  obtain ⟨b, As, h1, h2, -⟩ := mkT_r h
  exact ⟨b, As, h1, h2⟩
def tb_Things_sizeOf : List (Nat × Option (List Nat) × Instr × List Nat) := [(0, none, .aload_n 0, []), (1, none, .iload_n 1, []), (2, none, .invokevirtual 90, []), (5, none, .ifCond .eq 12, [17]), (8, none, .aload_n 0, []), (9, none, .getfield 24, []), (12, none, .iload_n 1, []), (13, none, .iaload, []), (14, none, .goto 4, [18]), (17, none, .iconst 0, []), (18, none, .ireturn, [])]
def P_Things_sizeOf : Nat → Option (List Nat) × Instr × List Nat := plk tb_Things_sizeOf
theorem r_Things_sizeOf_0 : P_Things_sizeOf 0 = (none, .aload_n 0, []) := by decide +kernel
theorem r_Things_sizeOf_1 : P_Things_sizeOf 1 = (none, .iload_n 1, []) := by decide +kernel
theorem r_Things_sizeOf_2 : P_Things_sizeOf 2 = (none, .invokevirtual 90, []) := by decide +kernel
theorem r_Things_sizeOf_5 : P_Things_sizeOf 5 = (none, .ifCond .eq 12, [17]) := by decide +kernel
theorem r_Things_sizeOf_8 : P_Things_sizeOf 8 = (none, .aload_n 0, []) := by decide +kernel
theorem r_Things_sizeOf_9 : P_Things_sizeOf 9 = (none, .getfield 24, []) := by decide +kernel
theorem r_Things_sizeOf_12 : P_Things_sizeOf 12 = (none, .iload_n 1, []) := by decide +kernel
theorem r_Things_sizeOf_13 : P_Things_sizeOf 13 = (none, .iaload, []) := by decide +kernel
theorem r_Things_sizeOf_14 : P_Things_sizeOf 14 = (none, .goto 4, [18]) := by decide +kernel
theorem r_Things_sizeOf_17 : P_Things_sizeOf 17 = (none, .iconst 0, []) := by decide +kernel
theorem r_Things_sizeOf_18 : P_Things_sizeOf 18 = (none, .ireturn, []) := by decide +kernel
def E_Things_sizeOf : List (Nat × Ent) := [(360, (2, 0, 0, 0, T_Things_has))]
def X_Things_sizeOf : Cx := (llk (0, 0, 9) ftX7, llk 99 ntX7, llk none kcX7, llk none klX7, llk dEnt E_Things_sizeOf, 1, 0, false)
theorem xok_Things_sizeOf : Xok RX7 X_Things_sizeOf := xok_of ftX7_ok ntX7_ok kcX7_ok klX7_ok (E := E_Things_sizeOf) (List.forall_mem_cons.mpr ⟨co_X7_360, fun _ h => absurd h List.not_mem_nil⟩)
theorem xf_Things_sizeOf_24 : xfl X_Things_sizeOf 24 = (7, 4, 1) := by decide +kernel
theorem xe_Things_sizeOf_360 : xE X_Things_sizeOf (4 * 90 + 0) = (2, 0, 0, 0, T_Things_has) := rfl
theorem xd_Things_sizeOf : xd X_Things_sizeOf = 1 := rfl
theorem xrb_Things_sizeOf : xrb X_Things_sizeOf = 0 := rfl
theorem xin_Things_sizeOf : xin X_Things_sizeOf = false := rfl
set_option maxHeartbeats 4000000 in
set_option maxRecDepth 100000 in
theorem S_Things_sizeOf : Snd yX7_sizeOf cX7_sizeOf 2 (some .int) T_Things_sizeOf 1 0 0 := by
  refine snd_of (X := X_Things_sizeOf) (P := P_Things_sizeOf) (tb := tb_Things_sizeOf) (own := RX7) (by decide) rfl rfl (by decide +kernel) xok_Things_sizeOf rfl rk0 (fun h => by first | rfl | cases h) ?_
  intro as M k has hM hT0
  obtain ⟨sz, sl, lay, ρ, σ, τ⟩ := M
  obtain ⟨o, as1, e, hlo, hT1⟩ := mkT_r hT0
  clear hT0
  subst e
  obtain ⟨i, as2, e, hT2⟩ := pI_x hT1
  clear hT1
  subst e
  obtain ⟨e, hT⟩ := hT2
  subst e
  replace hlo : lay o = (17, 0) := hlo
  have r_i : -2147483648 ≤ i ∧ i ≤ 2147483647 := has (vI i) (by simp)
  clear has
  replace hM : ∀ a i, -2147483648 ≤ σ a i ∧ σ a i ≤ 2147483647 := hM
  replace hT : TF_Things_sizeOf o i sz sl lay ρ σ τ k := hT
  unfold TF_Things_sizeOf at hT
  obtain ⟨hL, hn, h1, h0⟩ := hT
  obtain ⟨lh, lp0, lp1, lp2, lp3, lp4, lp5, lp6, lp7, lp8, lp9, lp10, lp11, lq0, lq1, lq2, lq3, lq4, lq5, lq6, lq7, lq8, lq9, lq10, lq11⟩ := (show LThings lay ρ _ from hL)
  refine ⟨Nat.le_of_ble_eq_true rfl, fun _ _ _ => False, fun _ _ _ => 0, 19, ?_, fun _ _ _ _ _ _ h => h.elim⟩
  unfold wps
  simp only [si_iload_n0, si_iload_n1, si_iload_n2, si_iload_n3, si_iload, si_lload_n0, si_lload_n1, si_lload_n2, si_lload_n3, si_lload, si_aload_n0, si_aload_n1, si_aload_n2, si_aload_n3, si_aload, si_istore_n0, si_istore_n1, si_istore_n2, si_istore_n3, si_istore, si_astore_n0, si_astore_n1, si_astore_n2, si_astore_n3, si_astore, si_lstore_n0, si_lstore_n1, si_lstore_n2, si_lstore_n3, si_lstore, si_iconst, si_bipush, si_sipush, si_ldc, si_ldc2_w, si_lconst0, si_lconst1, si_aconst_null, si_iinc, si_dup, si_dup2, si_iadd, si_isub, si_imul, si_idiv, si_irem, si_iand, si_ior, si_ishl, si_ishr, si_ladd, si_lmul, si_lor, si_lxor, si_lshl, si_lushr, si_lcmp, si_i2b, si_i2l, si_l2i, si_icmp_eq, si_icmp_ne, si_icmp_lt, si_icmp_ge, si_icmp_gt, si_icmp_le, si_if_eq, si_if_ne, si_if_lt, si_if_ge, si_if_gt, si_if_le, si_ifnull, si_ifnonnull, si_goto, si_tableswitch, si_lookupswitch, si_getfield, si_putfield, si_getstatic, si_iaload, si_baload, si_laload, si_aaload, si_iastore, si_bastore, si_lastore, si_aastore, si_arraylength, si_new, si_newarray, si_anewarray, si_invokevirtual, si_invokespecial, si_invokestatic, si_ireturn, si_lreturn, si_areturn, si_return_, pI_e, pL_e, pR_e, pA_r, pA_n, pN_n, pN_r, oI_e, oL_e, oA_r, oA_n, lget_e, lrm1_0, lrm2_0, lrm1_i, lrm1_r, lrm1_n, lrm1_l, lrm2_i, lrm2_r, lrm2_n, lrm2_l, popN_0, popN_s, acat_i, acat_l, acat_r, acat_n, stw_0, stw_s, psh_s, psh_n, wgf_r, wgf_i, wgf_b, wgf_n, wgf_m, wpf_i, wpf_r, wpf_b, wnew_e, callE_e, rbk_0, rbk_1, tsw_0, tsw_s, lsw_0, lsw_s, wp_s, wq_t, wq_f, oV_e, pick_0, pick_s, oZ_e, oY_e, r_Things_sizeOf_0, r_Things_sizeOf_1, r_Things_sizeOf_2, r_Things_sizeOf_5, r_Things_sizeOf_8, r_Things_sizeOf_9, r_Things_sizeOf_12, r_Things_sizeOf_13, r_Things_sizeOf_14, r_Things_sizeOf_17, r_Things_sizeOf_18, xf_Things_sizeOf_24, xe_Things_sizeOf_360, xd_Things_sizeOf, xrb_Things_sizeOf, xin_Things_sizeOf, T_Things_has_e, TF_Things_has, lh, lp0, lp1, lp2, lp3, lp4, lp5, lp6, lp7, lp8, lp9, lp10, lp11, lq0, lq1, lq2, lq3, lq4, lq5, lq6, lq7, lq8, lq9, lq10, lq11, Nat.reduceAdd, Nat.reduceMul, Nat.reduceEqDiff, reduceIte, Int.reduceNeg, Int.reduceLE, Int.reduceLT, Int.reduceAdd, Int.reduceSub, Int.reduceToNat, true_and, and_true, inR_e, Nat.reduceLT, Nat.reduceLeDiff, reduceCtorEq, Nat.add_zero, Nat.zero_add, or_false, false_or, or_true, true_or, not_true_eq_false, not_false_eq_true, Classical.not_not, Nat.add_eq_zero_iff, and_false, false_and, Int.reduceEq, List.mem_cons, List.not_mem_nil, forall_eq_or_imp, forall_eq, false_implies, implies_true, forall_const, aargs_0, aargs_i, aargs_r, aargs_l, aargs_n, nfT_e, eq_self, and_self, Nat.le_refl, fu_s, fu_fu, iu_iu, iu_s, fu_am, fu_a0, fu_0a, iu_l, Nat.reduceBEq, Int.reduceBEq, T_objInit_e]
  repeat' (first | assumption | intro _ | apply And.intro)
  all_goals first | omega | assumption | (exact h1 (by omega)) | (exact h0 (by omega)) | (exact h1 ⟨by omega, by omega⟩) | (exact h0 ⟨by omega, by omega⟩) | (exact h1 ⟨by omega, by omega, by omega⟩) | (exact h0 ⟨by omega, by omega, by omega⟩)
def TF_Things_idByRank (o : Nat) (i : Int) (sz sl : Nat) (lay : Nat → Nat × Int) (ρ : Nat → Int → Nat) (σ : Nat → Int → Int) (τ : Nat → Int → Int64) (k : Option AV → Mm → Prop) : Prop := LThings lay ρ o ∧ (0 ≤ σ o 12 ∧ σ o 12 ≤ 600) ∧ (0 ≤ i ∧ i < σ o 12 → k (some (vI (σ (o + 7) i))) (sz, sl, lay, ρ, σ, τ)) ∧ (¬ (0 ≤ i ∧ i < σ o 12) → k (some (vI (-1))) (sz, sl, lay, ρ, σ, τ))
def T_Things_idByRank : Tr := mkT 7 fun o as M k => pI as fun i as => as = [] ∧ TF_Things_idByRank o i M.1 M.2.1 M.2.2.1 M.2.2.2.1 M.2.2.2.2.1 M.2.2.2.2.2 k
theorem T_Things_idByRank_e {o : Nat} {i : Int} {sz sl : Nat} {lay : Nat → Nat × Int} {ρ : Nat → Int → Nat} {σ : Nat → Int → Int} {τ : Nat → Int → Int64} {k : Option AV → Mm → Prop} : T_Things_idByRank [vR o, vI i] (sz, sl, lay, ρ, σ, τ) k = (lay o = (17, 0) ∧ TF_Things_idByRank o i sz sl lay ρ σ τ k) := by simp [T_Things_idByRank, mkT_e, pI_e, pR_e, pL_e]
theorem T_Things_idByRank_r (as : List AV) (M : Mm) (k : Option AV → Mm → Prop) (h : T_Things_idByRank as M k) : ∃ b As, as = vR b :: As ∧ M.2.2.1 b = (10 + 7, 0) := by
  obtain ⟨b, As, h1, h2, -⟩ := mkT_r h
  exact ⟨b, As, h1, h2⟩
def tb_Things_idByRank : List (Nat × Option (List Nat) × Instr × List Nat) := [(0, none, .aload_n 0, []), (1, none, .iload_n 1, []), (2, none, .invokevirtual 90, []), (5, none, .ifCond .eq 12, [17]), (8, none, .aload_n 0, []), (9, none, .getfield 30, []), (12, none, .iload_n 1, []), (13, none, .iaload, []), (14, none, .goto 4, [18]), (17, none, .iconst (-1), []), (18, none, .ireturn, [])]
def P_Things_idByRank : Nat → Option (List Nat) × Instr × List Nat := plk tb_Things_idByRank
theorem r_Things_idByRank_0 : P_Things_idByRank 0 = (none, .aload_n 0, []) := by decide +kernel
theorem r_Things_idByRank_1 : P_Things_idByRank 1 = (none, .iload_n 1, []) := by decide +kernel
theorem r_Things_idByRank_2 : P_Things_idByRank 2 = (none, .invokevirtual 90, []) := by decide +kernel
theorem r_Things_idByRank_5 : P_Things_idByRank 5 = (none, .ifCond .eq 12, [17]) := by decide +kernel
theorem r_Things_idByRank_8 : P_Things_idByRank 8 = (none, .aload_n 0, []) := by decide +kernel
theorem r_Things_idByRank_9 : P_Things_idByRank 9 = (none, .getfield 30, []) := by decide +kernel
theorem r_Things_idByRank_12 : P_Things_idByRank 12 = (none, .iload_n 1, []) := by decide +kernel
theorem r_Things_idByRank_13 : P_Things_idByRank 13 = (none, .iaload, []) := by decide +kernel
theorem r_Things_idByRank_14 : P_Things_idByRank 14 = (none, .goto 4, [18]) := by decide +kernel
theorem r_Things_idByRank_17 : P_Things_idByRank 17 = (none, .iconst (-1), []) := by decide +kernel
theorem r_Things_idByRank_18 : P_Things_idByRank 18 = (none, .ireturn, []) := by decide +kernel
def E_Things_idByRank : List (Nat × Ent) := [(360, (2, 0, 0, 0, T_Things_has))]
def X_Things_idByRank : Cx := (llk (0, 0, 9) ftX7, llk 99 ntX7, llk none kcX7, llk none klX7, llk dEnt E_Things_idByRank, 1, 0, false)
theorem xok_Things_idByRank : Xok RX7 X_Things_idByRank := xok_of ftX7_ok ntX7_ok kcX7_ok klX7_ok (E := E_Things_idByRank) (List.forall_mem_cons.mpr ⟨co_X7_360, fun _ h => absurd h List.not_mem_nil⟩)
theorem xf_Things_idByRank_30 : xfl X_Things_idByRank 30 = (7, 6, 1) := by decide +kernel
theorem xe_Things_idByRank_360 : xE X_Things_idByRank (4 * 90 + 0) = (2, 0, 0, 0, T_Things_has) := rfl
theorem xd_Things_idByRank : xd X_Things_idByRank = 1 := rfl
theorem xrb_Things_idByRank : xrb X_Things_idByRank = 0 := rfl
theorem xin_Things_idByRank : xin X_Things_idByRank = false := rfl
set_option maxHeartbeats 4000000 in
set_option maxRecDepth 100000 in
theorem S_Things_idByRank : Snd yX7_idByRank cX7_idByRank 2 (some .int) T_Things_idByRank 1 0 0 := by
  refine snd_of (X := X_Things_idByRank) (P := P_Things_idByRank) (tb := tb_Things_idByRank) (own := RX7) (by decide) rfl rfl (by decide +kernel) xok_Things_idByRank rfl rk0 (fun h => by first | rfl | cases h) ?_
  intro as M k has hM hT0
  obtain ⟨sz, sl, lay, ρ, σ, τ⟩ := M
  obtain ⟨o, as1, e, hlo, hT1⟩ := mkT_r hT0
  clear hT0
  subst e
  obtain ⟨i, as2, e, hT2⟩ := pI_x hT1
  clear hT1
  subst e
  obtain ⟨e, hT⟩ := hT2
  subst e
  replace hlo : lay o = (17, 0) := hlo
  have r_i : -2147483648 ≤ i ∧ i ≤ 2147483647 := has (vI i) (by simp)
  clear has
  replace hM : ∀ a i, -2147483648 ≤ σ a i ∧ σ a i ≤ 2147483647 := hM
  replace hT : TF_Things_idByRank o i sz sl lay ρ σ τ k := hT
  unfold TF_Things_idByRank at hT
  obtain ⟨hL, hn, h1, h0⟩ := hT
  obtain ⟨lh, lp0, lp1, lp2, lp3, lp4, lp5, lp6, lp7, lp8, lp9, lp10, lp11, lq0, lq1, lq2, lq3, lq4, lq5, lq6, lq7, lq8, lq9, lq10, lq11⟩ := (show LThings lay ρ _ from hL)
  refine ⟨Nat.le_of_ble_eq_true rfl, fun _ _ _ => False, fun _ _ _ => 0, 19, ?_, fun _ _ _ _ _ _ h => h.elim⟩
  unfold wps
  simp only [si_iload_n0, si_iload_n1, si_iload_n2, si_iload_n3, si_iload, si_lload_n0, si_lload_n1, si_lload_n2, si_lload_n3, si_lload, si_aload_n0, si_aload_n1, si_aload_n2, si_aload_n3, si_aload, si_istore_n0, si_istore_n1, si_istore_n2, si_istore_n3, si_istore, si_astore_n0, si_astore_n1, si_astore_n2, si_astore_n3, si_astore, si_lstore_n0, si_lstore_n1, si_lstore_n2, si_lstore_n3, si_lstore, si_iconst, si_bipush, si_sipush, si_ldc, si_ldc2_w, si_lconst0, si_lconst1, si_aconst_null, si_iinc, si_dup, si_dup2, si_iadd, si_isub, si_imul, si_idiv, si_irem, si_iand, si_ior, si_ishl, si_ishr, si_ladd, si_lmul, si_lor, si_lxor, si_lshl, si_lushr, si_lcmp, si_i2b, si_i2l, si_l2i, si_icmp_eq, si_icmp_ne, si_icmp_lt, si_icmp_ge, si_icmp_gt, si_icmp_le, si_if_eq, si_if_ne, si_if_lt, si_if_ge, si_if_gt, si_if_le, si_ifnull, si_ifnonnull, si_goto, si_tableswitch, si_lookupswitch, si_getfield, si_putfield, si_getstatic, si_iaload, si_baload, si_laload, si_aaload, si_iastore, si_bastore, si_lastore, si_aastore, si_arraylength, si_new, si_newarray, si_anewarray, si_invokevirtual, si_invokespecial, si_invokestatic, si_ireturn, si_lreturn, si_areturn, si_return_, pI_e, pL_e, pR_e, pA_r, pA_n, pN_n, pN_r, oI_e, oL_e, oA_r, oA_n, lget_e, lrm1_0, lrm2_0, lrm1_i, lrm1_r, lrm1_n, lrm1_l, lrm2_i, lrm2_r, lrm2_n, lrm2_l, popN_0, popN_s, acat_i, acat_l, acat_r, acat_n, stw_0, stw_s, psh_s, psh_n, wgf_r, wgf_i, wgf_b, wgf_n, wgf_m, wpf_i, wpf_r, wpf_b, wnew_e, callE_e, rbk_0, rbk_1, tsw_0, tsw_s, lsw_0, lsw_s, wp_s, wq_t, wq_f, oV_e, pick_0, pick_s, oZ_e, oY_e, r_Things_idByRank_0, r_Things_idByRank_1, r_Things_idByRank_2, r_Things_idByRank_5, r_Things_idByRank_8, r_Things_idByRank_9, r_Things_idByRank_12, r_Things_idByRank_13, r_Things_idByRank_14, r_Things_idByRank_17, r_Things_idByRank_18, xf_Things_idByRank_30, xe_Things_idByRank_360, xd_Things_idByRank, xrb_Things_idByRank, xin_Things_idByRank, T_Things_has_e, TF_Things_has, lh, lp0, lp1, lp2, lp3, lp4, lp5, lp6, lp7, lp8, lp9, lp10, lp11, lq0, lq1, lq2, lq3, lq4, lq5, lq6, lq7, lq8, lq9, lq10, lq11, Nat.reduceAdd, Nat.reduceMul, Nat.reduceEqDiff, reduceIte, Int.reduceNeg, Int.reduceLE, Int.reduceLT, Int.reduceAdd, Int.reduceSub, Int.reduceToNat, true_and, and_true, inR_e, Nat.reduceLT, Nat.reduceLeDiff, reduceCtorEq, Nat.add_zero, Nat.zero_add, or_false, false_or, or_true, true_or, not_true_eq_false, not_false_eq_true, Classical.not_not, Nat.add_eq_zero_iff, and_false, false_and, Int.reduceEq, List.mem_cons, List.not_mem_nil, forall_eq_or_imp, forall_eq, false_implies, implies_true, forall_const, aargs_0, aargs_i, aargs_r, aargs_l, aargs_n, nfT_e, eq_self, and_self, Nat.le_refl, fu_s, fu_fu, iu_iu, iu_s, fu_am, fu_a0, fu_0a, iu_l, Nat.reduceBEq, Int.reduceBEq, T_objInit_e]
  repeat' (first | assumption | intro _ | apply And.intro)
  all_goals first | omega | assumption | (exact h1 (by omega)) | (exact h0 (by omega)) | (exact h1 ⟨by omega, by omega⟩) | (exact h0 ⟨by omega, by omega⟩) | (exact h1 ⟨by omega, by omega, by omega⟩) | (exact h0 ⟨by omega, by omega, by omega⟩)
theorem co_X7_376 : CallOK RX7 (.invokevirtual 94) (2, 1, 0, 0, T_Things_idByRank) := call_V S_Things_idByRank (by decide) (ci := 7) rfl (by decide +kernel) (by decide +kernel) (by decide +kernel) (by decide +kernel) (by decide +kernel) (by decide +kernel) T_Things_idByRank_r
theorem co_X7_388 : CallOK RX7 (.invokevirtual 97) (2, 1, 0, 0, T_Things_numberOf) := call_V S_Things_numberOf (by decide) (ci := 7) rfl (by decide +kernel) (by decide +kernel) (by decide +kernel) (by decide +kernel) (by decide +kernel) (by decide +kernel) T_Things_numberOf_r
def TF_Things_numberByRank (o : Nat) (i : Int) (sz sl : Nat) (lay : Nat → Nat × Int) (ρ : Nat → Int → Nat) (σ : Nat → Int → Int) (τ : Nat → Int → Int64) (k : Option AV → Mm → Prop) : Prop := LThings lay ρ o ∧ (0 ≤ σ o 12 ∧ σ o 12 ≤ 600) ∧ (∀ i, 0 ≤ i ∧ i < σ o 12 → 0 ≤ σ (o + 7) i ∧ σ (o + 7) i < σ o 12) ∧ (0 ≤ i ∧ i < σ o 12 → k (some (vI (σ (o + 1) (σ (o + 7) i)))) (sz, sl, lay, ρ, σ, τ)) ∧ (¬ (0 ≤ i ∧ i < σ o 12) → k (some (vI (-1))) (sz, sl, lay, ρ, σ, τ))
def T_Things_numberByRank : Tr := mkT 7 fun o as M k => pI as fun i as => as = [] ∧ TF_Things_numberByRank o i M.1 M.2.1 M.2.2.1 M.2.2.2.1 M.2.2.2.2.1 M.2.2.2.2.2 k
theorem T_Things_numberByRank_e {o : Nat} {i : Int} {sz sl : Nat} {lay : Nat → Nat × Int} {ρ : Nat → Int → Nat} {σ : Nat → Int → Int} {τ : Nat → Int → Int64} {k : Option AV → Mm → Prop} : T_Things_numberByRank [vR o, vI i] (sz, sl, lay, ρ, σ, τ) k = (lay o = (17, 0) ∧ TF_Things_numberByRank o i sz sl lay ρ σ τ k) := by simp [T_Things_numberByRank, mkT_e, pI_e, pR_e, pL_e]
theorem T_Things_numberByRank_r (as : List AV) (M : Mm) (k : Option AV → Mm → Prop) (h : T_Things_numberByRank as M k) : ∃ b As, as = vR b :: As ∧ M.2.2.1 b = (10 + 7, 0) := by
  obtain ⟨b, As, h1, h2, -⟩ := mkT_r h
  exact ⟨b, As, h1, h2⟩
def tb_Things_numberByRank : List (Nat × Option (List Nat) × Instr × List Nat) := [(0, none, .aload_n 0, []), (1, none, .aload_n 0, []), (2, none, .iload_n 1, []), (3, none, .invokevirtual 94, []), (6, none, .invokevirtual 97, []), (9, none, .ireturn, [])]
def P_Things_numberByRank : Nat → Option (List Nat) × Instr × List Nat := plk tb_Things_numberByRank
theorem r_Things_numberByRank_0 : P_Things_numberByRank 0 = (none, .aload_n 0, []) := by decide +kernel
theorem r_Things_numberByRank_1 : P_Things_numberByRank 1 = (none, .aload_n 0, []) := by decide +kernel
theorem r_Things_numberByRank_2 : P_Things_numberByRank 2 = (none, .iload_n 1, []) := by decide +kernel
theorem r_Things_numberByRank_3 : P_Things_numberByRank 3 = (none, .invokevirtual 94, []) := by decide +kernel
theorem r_Things_numberByRank_6 : P_Things_numberByRank 6 = (none, .invokevirtual 97, []) := by decide +kernel
theorem r_Things_numberByRank_9 : P_Things_numberByRank 9 = (none, .ireturn, []) := by decide +kernel
def E_Things_numberByRank : List (Nat × Ent) := [(376, (2, 1, 0, 0, T_Things_idByRank)), (388, (2, 1, 0, 0, T_Things_numberOf))]
def X_Things_numberByRank : Cx := (llk (0, 0, 9) ftX7, llk 99 ntX7, llk none kcX7, llk none klX7, llk dEnt E_Things_numberByRank, 2, 0, false)
theorem xok_Things_numberByRank : Xok RX7 X_Things_numberByRank := xok_of ftX7_ok ntX7_ok kcX7_ok klX7_ok (E := E_Things_numberByRank) (List.forall_mem_cons.mpr ⟨co_X7_376, List.forall_mem_cons.mpr ⟨co_X7_388, fun _ h => absurd h List.not_mem_nil⟩⟩)
theorem xe_Things_numberByRank_376 : xE X_Things_numberByRank (4 * 94 + 0) = (2, 1, 0, 0, T_Things_idByRank) := rfl
theorem xe_Things_numberByRank_388 : xE X_Things_numberByRank (4 * 97 + 0) = (2, 1, 0, 0, T_Things_numberOf) := rfl
theorem xd_Things_numberByRank : xd X_Things_numberByRank = 2 := rfl
theorem xrb_Things_numberByRank : xrb X_Things_numberByRank = 0 := rfl
theorem xin_Things_numberByRank : xin X_Things_numberByRank = false := rfl
set_option maxHeartbeats 4000000 in
set_option maxRecDepth 100000 in
theorem S_Things_numberByRank : Snd yX7_numberByRank cX7_numberByRank 2 (some .int) T_Things_numberByRank 2 0 0 := by
  refine snd_of (X := X_Things_numberByRank) (P := P_Things_numberByRank) (tb := tb_Things_numberByRank) (own := RX7) (by decide) rfl rfl (by decide +kernel) xok_Things_numberByRank rfl rk0 (fun h => by first | rfl | cases h) ?_
  intro as M k has hM hT0
  obtain ⟨sz, sl, lay, ρ, σ, τ⟩ := M
  obtain ⟨o, as1, e, hlo, hT1⟩ := mkT_r hT0
  clear hT0
  subst e
  obtain ⟨i, as2, e, hT2⟩ := pI_x hT1
  clear hT1
  subst e
  obtain ⟨e, hT⟩ := hT2
  subst e
  replace hlo : lay o = (17, 0) := hlo
  have r_i : -2147483648 ≤ i ∧ i ≤ 2147483647 := has (vI i) (by simp)
  clear has
  replace hM : ∀ a i, -2147483648 ≤ σ a i ∧ σ a i ≤ 2147483647 := hM
  replace hT : TF_Things_numberByRank o i sz sl lay ρ σ τ k := hT
  unfold TF_Things_numberByRank at hT
  obtain ⟨hL, hn, hb, h1, h0⟩ := hT
  obtain ⟨lh, lp0, lp1, lp2, lp3, lp4, lp5, lp6, lp7, lp8, lp9, lp10, lp11, lq0, lq1, lq2, lq3, lq4, lq5, lq6, lq7, lq8, lq9, lq10, lq11⟩ := (show LThings lay ρ _ from hL)
  refine ⟨Nat.le_of_ble_eq_true rfl, fun _ _ _ => False, fun _ _ _ => 0, 14, ?_, fun _ _ _ _ _ _ h => h.elim⟩
  unfold wps
  simp only [si_iload_n0, si_iload_n1, si_iload_n2, si_iload_n3, si_iload, si_lload_n0, si_lload_n1, si_lload_n2, si_lload_n3, si_lload, si_aload_n0, si_aload_n1, si_aload_n2, si_aload_n3, si_aload, si_istore_n0, si_istore_n1, si_istore_n2, si_istore_n3, si_istore, si_astore_n0, si_astore_n1, si_astore_n2, si_astore_n3, si_astore, si_lstore_n0, si_lstore_n1, si_lstore_n2, si_lstore_n3, si_lstore, si_iconst, si_bipush, si_sipush, si_ldc, si_ldc2_w, si_lconst0, si_lconst1, si_aconst_null, si_iinc, si_dup, si_dup2, si_iadd, si_isub, si_imul, si_idiv, si_irem, si_iand, si_ior, si_ishl, si_ishr, si_ladd, si_lmul, si_lor, si_lxor, si_lshl, si_lushr, si_lcmp, si_i2b, si_i2l, si_l2i, si_icmp_eq, si_icmp_ne, si_icmp_lt, si_icmp_ge, si_icmp_gt, si_icmp_le, si_if_eq, si_if_ne, si_if_lt, si_if_ge, si_if_gt, si_if_le, si_ifnull, si_ifnonnull, si_goto, si_tableswitch, si_lookupswitch, si_getfield, si_putfield, si_getstatic, si_iaload, si_baload, si_laload, si_aaload, si_iastore, si_bastore, si_lastore, si_aastore, si_arraylength, si_new, si_newarray, si_anewarray, si_invokevirtual, si_invokespecial, si_invokestatic, si_ireturn, si_lreturn, si_areturn, si_return_, pI_e, pL_e, pR_e, pA_r, pA_n, pN_n, pN_r, oI_e, oL_e, oA_r, oA_n, lget_e, lrm1_0, lrm2_0, lrm1_i, lrm1_r, lrm1_n, lrm1_l, lrm2_i, lrm2_r, lrm2_n, lrm2_l, popN_0, popN_s, acat_i, acat_l, acat_r, acat_n, stw_0, stw_s, psh_s, psh_n, wgf_r, wgf_i, wgf_b, wgf_n, wgf_m, wpf_i, wpf_r, wpf_b, wnew_e, callE_e, rbk_0, rbk_1, tsw_0, tsw_s, lsw_0, lsw_s, wp_s, wq_t, wq_f, oV_e, pick_0, pick_s, oZ_e, oY_e, r_Things_numberByRank_0, r_Things_numberByRank_1, r_Things_numberByRank_2, r_Things_numberByRank_3, r_Things_numberByRank_6, r_Things_numberByRank_9, xe_Things_numberByRank_376, xe_Things_numberByRank_388, xd_Things_numberByRank, xrb_Things_numberByRank, xin_Things_numberByRank, T_Things_idByRank_e, TF_Things_idByRank, T_Things_numberOf_e, TF_Things_numberOf, lh, lp0, lp1, lp2, lp3, lp4, lp5, lp6, lp7, lp8, lp9, lp10, lp11, lq0, lq1, lq2, lq3, lq4, lq5, lq6, lq7, lq8, lq9, lq10, lq11, Nat.reduceAdd, Nat.reduceMul, Nat.reduceEqDiff, reduceIte, Int.reduceNeg, Int.reduceLE, Int.reduceLT, Int.reduceAdd, Int.reduceSub, Int.reduceToNat, true_and, and_true, inR_e, Nat.reduceLT, Nat.reduceLeDiff, reduceCtorEq, Nat.add_zero, Nat.zero_add, or_false, false_or, or_true, true_or, not_true_eq_false, not_false_eq_true, Classical.not_not, Nat.add_eq_zero_iff, and_false, false_and, Int.reduceEq, List.mem_cons, List.not_mem_nil, forall_eq_or_imp, forall_eq, false_implies, implies_true, forall_const, aargs_0, aargs_i, aargs_r, aargs_l, aargs_n, nfT_e, eq_self, and_self, Nat.le_refl, fu_s, fu_fu, iu_iu, iu_s, fu_am, fu_a0, fu_0a, iu_l, Nat.reduceBEq, Int.reduceBEq, T_objInit_e]
  have hbi := hb i
  repeat' (first | assumption | intro _ | apply And.intro)
  all_goals first | omega | assumption | (exact h1 (by omega)) | (exact h0 (by omega)) | (exact h1 ⟨by omega, by omega⟩) | (exact h0 ⟨by omega, by omega⟩) | (exact h1 ⟨by omega, by omega, by omega⟩) | (exact h0 ⟨by omega, by omega, by omega⟩)
def TF_Things_isRow (o : Nat) (i : Int) (sz sl : Nat) (lay : Nat → Nat × Int) (ρ : Nat → Int → Nat) (σ : Nat → Int → Int) (τ : Nat → Int → Int64) (k : Option AV → Mm → Prop) : Prop := LThings lay ρ o ∧ (0 ≤ σ o 12 ∧ σ o 12 ≤ 600) ∧ (0 ≤ i ∧ i < σ o 12 ∧ σ (o + 2) i = 1 → k (some (vI (1))) (sz, sl, lay, ρ, σ, τ)) ∧ (¬ (0 ≤ i ∧ i < σ o 12 ∧ σ (o + 2) i = 1) → k (some (vI (0))) (sz, sl, lay, ρ, σ, τ))
def T_Things_isRow : Tr := mkT 7 fun o as M k => pI as fun i as => as = [] ∧ TF_Things_isRow o i M.1 M.2.1 M.2.2.1 M.2.2.2.1 M.2.2.2.2.1 M.2.2.2.2.2 k
theorem T_Things_isRow_e {o : Nat} {i : Int} {sz sl : Nat} {lay : Nat → Nat × Int} {ρ : Nat → Int → Nat} {σ : Nat → Int → Int} {τ : Nat → Int → Int64} {k : Option AV → Mm → Prop} : T_Things_isRow [vR o, vI i] (sz, sl, lay, ρ, σ, τ) k = (lay o = (17, 0) ∧ TF_Things_isRow o i sz sl lay ρ σ τ k) := by simp [T_Things_isRow, mkT_e, pI_e, pR_e, pL_e]
theorem T_Things_isRow_r (as : List AV) (M : Mm) (k : Option AV → Mm → Prop) (h : T_Things_isRow as M k) : ∃ b As, as = vR b :: As ∧ M.2.2.1 b = (10 + 7, 0) := by
  obtain ⟨b, As, h1, h2, -⟩ := mkT_r h
  exact ⟨b, As, h1, h2⟩
def tb_Things_isRow : List (Nat × Option (List Nat) × Instr × List Nat) := [(0, none, .aload_n 0, []), (1, none, .iload_n 1, []), (2, none, .invokevirtual 90, []), (5, none, .ifCond .eq 17, [22]), (8, none, .aload_n 0, []), (9, none, .getfield 15, []), (12, none, .iload_n 1, []), (13, none, .iaload, []), (14, none, .iconst 1, []), (15, none, .if_icmp .ne 7, [22]), (18, none, .iconst 1, []), (19, none, .goto 4, [23]), (22, none, .iconst 0, []), (23, none, .ireturn, [])]
def P_Things_isRow : Nat → Option (List Nat) × Instr × List Nat := plk tb_Things_isRow
theorem r_Things_isRow_0 : P_Things_isRow 0 = (none, .aload_n 0, []) := by decide +kernel
theorem r_Things_isRow_1 : P_Things_isRow 1 = (none, .iload_n 1, []) := by decide +kernel
theorem r_Things_isRow_2 : P_Things_isRow 2 = (none, .invokevirtual 90, []) := by decide +kernel
theorem r_Things_isRow_5 : P_Things_isRow 5 = (none, .ifCond .eq 17, [22]) := by decide +kernel
theorem r_Things_isRow_8 : P_Things_isRow 8 = (none, .aload_n 0, []) := by decide +kernel
theorem r_Things_isRow_9 : P_Things_isRow 9 = (none, .getfield 15, []) := by decide +kernel
theorem r_Things_isRow_12 : P_Things_isRow 12 = (none, .iload_n 1, []) := by decide +kernel
theorem r_Things_isRow_13 : P_Things_isRow 13 = (none, .iaload, []) := by decide +kernel
theorem r_Things_isRow_14 : P_Things_isRow 14 = (none, .iconst 1, []) := by decide +kernel
theorem r_Things_isRow_15 : P_Things_isRow 15 = (none, .if_icmp .ne 7, [22]) := by decide +kernel
theorem r_Things_isRow_18 : P_Things_isRow 18 = (none, .iconst 1, []) := by decide +kernel
theorem r_Things_isRow_19 : P_Things_isRow 19 = (none, .goto 4, [23]) := by decide +kernel
theorem r_Things_isRow_22 : P_Things_isRow 22 = (none, .iconst 0, []) := by decide +kernel
theorem r_Things_isRow_23 : P_Things_isRow 23 = (none, .ireturn, []) := by decide +kernel
def E_Things_isRow : List (Nat × Ent) := [(360, (2, 0, 0, 0, T_Things_has))]
def X_Things_isRow : Cx := (llk (0, 0, 9) ftX7, llk 99 ntX7, llk none kcX7, llk none klX7, llk dEnt E_Things_isRow, 1, 1, false)
theorem xok_Things_isRow : Xok RX7 X_Things_isRow := xok_of ftX7_ok ntX7_ok kcX7_ok klX7_ok (E := E_Things_isRow) (List.forall_mem_cons.mpr ⟨co_X7_360, fun _ h => absurd h List.not_mem_nil⟩)
theorem xf_Things_isRow_15 : xfl X_Things_isRow 15 = (7, 1, 1) := by decide +kernel
theorem xe_Things_isRow_360 : xE X_Things_isRow (4 * 90 + 0) = (2, 0, 0, 0, T_Things_has) := rfl
theorem xd_Things_isRow : xd X_Things_isRow = 1 := rfl
theorem xrb_Things_isRow : xrb X_Things_isRow = 1 := rfl
theorem xin_Things_isRow : xin X_Things_isRow = false := rfl
set_option maxHeartbeats 4000000 in
set_option maxRecDepth 100000 in
theorem S_Things_isRow : Snd yX7_isRow cX7_isRow 2 (some .boolean) T_Things_isRow 1 0 0 := by
  refine snd_of (X := X_Things_isRow) (P := P_Things_isRow) (tb := tb_Things_isRow) (own := RX7) (by decide) rfl rfl (by decide +kernel) xok_Things_isRow rfl rk1 (fun h => by first | rfl | cases h) ?_
  intro as M k has hM hT0
  obtain ⟨sz, sl, lay, ρ, σ, τ⟩ := M
  obtain ⟨o, as1, e, hlo, hT1⟩ := mkT_r hT0
  clear hT0
  subst e
  obtain ⟨i, as2, e, hT2⟩ := pI_x hT1
  clear hT1
  subst e
  obtain ⟨e, hT⟩ := hT2
  subst e
  replace hlo : lay o = (17, 0) := hlo
  have r_i : -2147483648 ≤ i ∧ i ≤ 2147483647 := has (vI i) (by simp)
  clear has
  replace hM : ∀ a i, -2147483648 ≤ σ a i ∧ σ a i ≤ 2147483647 := hM
  replace hT : TF_Things_isRow o i sz sl lay ρ σ τ k := hT
  unfold TF_Things_isRow at hT
  obtain ⟨hL, hn, h1, h0⟩ := hT
  obtain ⟨lh, lp0, lp1, lp2, lp3, lp4, lp5, lp6, lp7, lp8, lp9, lp10, lp11, lq0, lq1, lq2, lq3, lq4, lq5, lq6, lq7, lq8, lq9, lq10, lq11⟩ := (show LThings lay ρ _ from hL)
  refine ⟨Nat.le_of_ble_eq_true rfl, fun _ _ _ => False, fun _ _ _ => 0, 22, ?_, fun _ _ _ _ _ _ h => h.elim⟩
  unfold wps
  simp only [si_iload_n0, si_iload_n1, si_iload_n2, si_iload_n3, si_iload, si_lload_n0, si_lload_n1, si_lload_n2, si_lload_n3, si_lload, si_aload_n0, si_aload_n1, si_aload_n2, si_aload_n3, si_aload, si_istore_n0, si_istore_n1, si_istore_n2, si_istore_n3, si_istore, si_astore_n0, si_astore_n1, si_astore_n2, si_astore_n3, si_astore, si_lstore_n0, si_lstore_n1, si_lstore_n2, si_lstore_n3, si_lstore, si_iconst, si_bipush, si_sipush, si_ldc, si_ldc2_w, si_lconst0, si_lconst1, si_aconst_null, si_iinc, si_dup, si_dup2, si_iadd, si_isub, si_imul, si_idiv, si_irem, si_iand, si_ior, si_ishl, si_ishr, si_ladd, si_lmul, si_lor, si_lxor, si_lshl, si_lushr, si_lcmp, si_i2b, si_i2l, si_l2i, si_icmp_eq, si_icmp_ne, si_icmp_lt, si_icmp_ge, si_icmp_gt, si_icmp_le, si_if_eq, si_if_ne, si_if_lt, si_if_ge, si_if_gt, si_if_le, si_ifnull, si_ifnonnull, si_goto, si_tableswitch, si_lookupswitch, si_getfield, si_putfield, si_getstatic, si_iaload, si_baload, si_laload, si_aaload, si_iastore, si_bastore, si_lastore, si_aastore, si_arraylength, si_new, si_newarray, si_anewarray, si_invokevirtual, si_invokespecial, si_invokestatic, si_ireturn, si_lreturn, si_areturn, si_return_, pI_e, pL_e, pR_e, pA_r, pA_n, pN_n, pN_r, oI_e, oL_e, oA_r, oA_n, lget_e, lrm1_0, lrm2_0, lrm1_i, lrm1_r, lrm1_n, lrm1_l, lrm2_i, lrm2_r, lrm2_n, lrm2_l, popN_0, popN_s, acat_i, acat_l, acat_r, acat_n, stw_0, stw_s, psh_s, psh_n, wgf_r, wgf_i, wgf_b, wgf_n, wgf_m, wpf_i, wpf_r, wpf_b, wnew_e, callE_e, rbk_0, rbk_1, tsw_0, tsw_s, lsw_0, lsw_s, wp_s, wq_t, wq_f, oV_e, pick_0, pick_s, oZ_e, oY_e, r_Things_isRow_0, r_Things_isRow_1, r_Things_isRow_2, r_Things_isRow_5, r_Things_isRow_8, r_Things_isRow_9, r_Things_isRow_12, r_Things_isRow_13, r_Things_isRow_14, r_Things_isRow_15, r_Things_isRow_18, r_Things_isRow_19, r_Things_isRow_22, r_Things_isRow_23, xf_Things_isRow_15, xe_Things_isRow_360, xd_Things_isRow, xrb_Things_isRow, xin_Things_isRow, T_Things_has_e, TF_Things_has, lh, lp0, lp1, lp2, lp3, lp4, lp5, lp6, lp7, lp8, lp9, lp10, lp11, lq0, lq1, lq2, lq3, lq4, lq5, lq6, lq7, lq8, lq9, lq10, lq11, Nat.reduceAdd, Nat.reduceMul, Nat.reduceEqDiff, reduceIte, Int.reduceNeg, Int.reduceLE, Int.reduceLT, Int.reduceAdd, Int.reduceSub, Int.reduceToNat, true_and, and_true, inR_e, Nat.reduceLT, Nat.reduceLeDiff, reduceCtorEq, Nat.add_zero, Nat.zero_add, or_false, false_or, or_true, true_or, not_true_eq_false, not_false_eq_true, Classical.not_not, Nat.add_eq_zero_iff, and_false, false_and, Int.reduceEq, List.mem_cons, List.not_mem_nil, forall_eq_or_imp, forall_eq, false_implies, implies_true, forall_const, aargs_0, aargs_i, aargs_r, aargs_l, aargs_n, nfT_e, eq_self, and_self, Nat.le_refl, fu_s, fu_fu, iu_iu, iu_s, fu_am, fu_a0, fu_0a, iu_l, Nat.reduceBEq, Int.reduceBEq, T_objInit_e]
  repeat' (first | assumption | intro _ | apply And.intro)
  all_goals first | omega | assumption | (exact h1 (by omega)) | (exact h0 (by omega)) | (exact h1 ⟨by omega, by omega⟩) | (exact h0 ⟨by omega, by omega⟩) | (exact h1 ⟨by omega, by omega, by omega⟩) | (exact h0 ⟨by omega, by omega, by omega⟩)
def TF_Things_isSoft (o : Nat) (i : Int) (sz sl : Nat) (lay : Nat → Nat × Int) (ρ : Nat → Int → Nat) (σ : Nat → Int → Int) (τ : Nat → Int → Int64) (k : Option AV → Mm → Prop) : Prop := LThings lay ρ o ∧ (0 ≤ σ o 12 ∧ σ o 12 ≤ 600) ∧ (0 ≤ i ∧ i < σ o 12 ∧ σ (o + 2) i = 2 → k (some (vI (1))) (sz, sl, lay, ρ, σ, τ)) ∧ (¬ (0 ≤ i ∧ i < σ o 12 ∧ σ (o + 2) i = 2) → k (some (vI (0))) (sz, sl, lay, ρ, σ, τ))
def T_Things_isSoft : Tr := mkT 7 fun o as M k => pI as fun i as => as = [] ∧ TF_Things_isSoft o i M.1 M.2.1 M.2.2.1 M.2.2.2.1 M.2.2.2.2.1 M.2.2.2.2.2 k
theorem T_Things_isSoft_e {o : Nat} {i : Int} {sz sl : Nat} {lay : Nat → Nat × Int} {ρ : Nat → Int → Nat} {σ : Nat → Int → Int} {τ : Nat → Int → Int64} {k : Option AV → Mm → Prop} : T_Things_isSoft [vR o, vI i] (sz, sl, lay, ρ, σ, τ) k = (lay o = (17, 0) ∧ TF_Things_isSoft o i sz sl lay ρ σ τ k) := by simp [T_Things_isSoft, mkT_e, pI_e, pR_e, pL_e]
theorem T_Things_isSoft_r (as : List AV) (M : Mm) (k : Option AV → Mm → Prop) (h : T_Things_isSoft as M k) : ∃ b As, as = vR b :: As ∧ M.2.2.1 b = (10 + 7, 0) := by
  obtain ⟨b, As, h1, h2, -⟩ := mkT_r h
  exact ⟨b, As, h1, h2⟩
def tb_Things_isSoft : List (Nat × Option (List Nat) × Instr × List Nat) := [(0, none, .aload_n 0, []), (1, none, .iload_n 1, []), (2, none, .invokevirtual 90, []), (5, none, .ifCond .eq 17, [22]), (8, none, .aload_n 0, []), (9, none, .getfield 15, []), (12, none, .iload_n 1, []), (13, none, .iaload, []), (14, none, .iconst 2, []), (15, none, .if_icmp .ne 7, [22]), (18, none, .iconst 1, []), (19, none, .goto 4, [23]), (22, none, .iconst 0, []), (23, none, .ireturn, [])]
def P_Things_isSoft : Nat → Option (List Nat) × Instr × List Nat := plk tb_Things_isSoft
theorem r_Things_isSoft_0 : P_Things_isSoft 0 = (none, .aload_n 0, []) := by decide +kernel
theorem r_Things_isSoft_1 : P_Things_isSoft 1 = (none, .iload_n 1, []) := by decide +kernel
theorem r_Things_isSoft_2 : P_Things_isSoft 2 = (none, .invokevirtual 90, []) := by decide +kernel
theorem r_Things_isSoft_5 : P_Things_isSoft 5 = (none, .ifCond .eq 17, [22]) := by decide +kernel
theorem r_Things_isSoft_8 : P_Things_isSoft 8 = (none, .aload_n 0, []) := by decide +kernel
theorem r_Things_isSoft_9 : P_Things_isSoft 9 = (none, .getfield 15, []) := by decide +kernel
theorem r_Things_isSoft_12 : P_Things_isSoft 12 = (none, .iload_n 1, []) := by decide +kernel
theorem r_Things_isSoft_13 : P_Things_isSoft 13 = (none, .iaload, []) := by decide +kernel
theorem r_Things_isSoft_14 : P_Things_isSoft 14 = (none, .iconst 2, []) := by decide +kernel
theorem r_Things_isSoft_15 : P_Things_isSoft 15 = (none, .if_icmp .ne 7, [22]) := by decide +kernel
theorem r_Things_isSoft_18 : P_Things_isSoft 18 = (none, .iconst 1, []) := by decide +kernel
theorem r_Things_isSoft_19 : P_Things_isSoft 19 = (none, .goto 4, [23]) := by decide +kernel
theorem r_Things_isSoft_22 : P_Things_isSoft 22 = (none, .iconst 0, []) := by decide +kernel
theorem r_Things_isSoft_23 : P_Things_isSoft 23 = (none, .ireturn, []) := by decide +kernel
def E_Things_isSoft : List (Nat × Ent) := [(360, (2, 0, 0, 0, T_Things_has))]
def X_Things_isSoft : Cx := (llk (0, 0, 9) ftX7, llk 99 ntX7, llk none kcX7, llk none klX7, llk dEnt E_Things_isSoft, 1, 1, false)
theorem xok_Things_isSoft : Xok RX7 X_Things_isSoft := xok_of ftX7_ok ntX7_ok kcX7_ok klX7_ok (E := E_Things_isSoft) (List.forall_mem_cons.mpr ⟨co_X7_360, fun _ h => absurd h List.not_mem_nil⟩)
theorem xf_Things_isSoft_15 : xfl X_Things_isSoft 15 = (7, 1, 1) := by decide +kernel
theorem xe_Things_isSoft_360 : xE X_Things_isSoft (4 * 90 + 0) = (2, 0, 0, 0, T_Things_has) := rfl
theorem xd_Things_isSoft : xd X_Things_isSoft = 1 := rfl
theorem xrb_Things_isSoft : xrb X_Things_isSoft = 1 := rfl
theorem xin_Things_isSoft : xin X_Things_isSoft = false := rfl
set_option maxHeartbeats 4000000 in
set_option maxRecDepth 100000 in
theorem S_Things_isSoft : Snd yX7_isSoft cX7_isSoft 2 (some .boolean) T_Things_isSoft 1 0 0 := by
  refine snd_of (X := X_Things_isSoft) (P := P_Things_isSoft) (tb := tb_Things_isSoft) (own := RX7) (by decide) rfl rfl (by decide +kernel) xok_Things_isSoft rfl rk1 (fun h => by first | rfl | cases h) ?_
  intro as M k has hM hT0
  obtain ⟨sz, sl, lay, ρ, σ, τ⟩ := M
  obtain ⟨o, as1, e, hlo, hT1⟩ := mkT_r hT0
  clear hT0
  subst e
  obtain ⟨i, as2, e, hT2⟩ := pI_x hT1
  clear hT1
  subst e
  obtain ⟨e, hT⟩ := hT2
  subst e
  replace hlo : lay o = (17, 0) := hlo
  have r_i : -2147483648 ≤ i ∧ i ≤ 2147483647 := has (vI i) (by simp)
  clear has
  replace hM : ∀ a i, -2147483648 ≤ σ a i ∧ σ a i ≤ 2147483647 := hM
  replace hT : TF_Things_isSoft o i sz sl lay ρ σ τ k := hT
  unfold TF_Things_isSoft at hT
  obtain ⟨hL, hn, h1, h0⟩ := hT
  obtain ⟨lh, lp0, lp1, lp2, lp3, lp4, lp5, lp6, lp7, lp8, lp9, lp10, lp11, lq0, lq1, lq2, lq3, lq4, lq5, lq6, lq7, lq8, lq9, lq10, lq11⟩ := (show LThings lay ρ _ from hL)
  refine ⟨Nat.le_of_ble_eq_true rfl, fun _ _ _ => False, fun _ _ _ => 0, 22, ?_, fun _ _ _ _ _ _ h => h.elim⟩
  unfold wps
  simp only [si_iload_n0, si_iload_n1, si_iload_n2, si_iload_n3, si_iload, si_lload_n0, si_lload_n1, si_lload_n2, si_lload_n3, si_lload, si_aload_n0, si_aload_n1, si_aload_n2, si_aload_n3, si_aload, si_istore_n0, si_istore_n1, si_istore_n2, si_istore_n3, si_istore, si_astore_n0, si_astore_n1, si_astore_n2, si_astore_n3, si_astore, si_lstore_n0, si_lstore_n1, si_lstore_n2, si_lstore_n3, si_lstore, si_iconst, si_bipush, si_sipush, si_ldc, si_ldc2_w, si_lconst0, si_lconst1, si_aconst_null, si_iinc, si_dup, si_dup2, si_iadd, si_isub, si_imul, si_idiv, si_irem, si_iand, si_ior, si_ishl, si_ishr, si_ladd, si_lmul, si_lor, si_lxor, si_lshl, si_lushr, si_lcmp, si_i2b, si_i2l, si_l2i, si_icmp_eq, si_icmp_ne, si_icmp_lt, si_icmp_ge, si_icmp_gt, si_icmp_le, si_if_eq, si_if_ne, si_if_lt, si_if_ge, si_if_gt, si_if_le, si_ifnull, si_ifnonnull, si_goto, si_tableswitch, si_lookupswitch, si_getfield, si_putfield, si_getstatic, si_iaload, si_baload, si_laload, si_aaload, si_iastore, si_bastore, si_lastore, si_aastore, si_arraylength, si_new, si_newarray, si_anewarray, si_invokevirtual, si_invokespecial, si_invokestatic, si_ireturn, si_lreturn, si_areturn, si_return_, pI_e, pL_e, pR_e, pA_r, pA_n, pN_n, pN_r, oI_e, oL_e, oA_r, oA_n, lget_e, lrm1_0, lrm2_0, lrm1_i, lrm1_r, lrm1_n, lrm1_l, lrm2_i, lrm2_r, lrm2_n, lrm2_l, popN_0, popN_s, acat_i, acat_l, acat_r, acat_n, stw_0, stw_s, psh_s, psh_n, wgf_r, wgf_i, wgf_b, wgf_n, wgf_m, wpf_i, wpf_r, wpf_b, wnew_e, callE_e, rbk_0, rbk_1, tsw_0, tsw_s, lsw_0, lsw_s, wp_s, wq_t, wq_f, oV_e, pick_0, pick_s, oZ_e, oY_e, r_Things_isSoft_0, r_Things_isSoft_1, r_Things_isSoft_2, r_Things_isSoft_5, r_Things_isSoft_8, r_Things_isSoft_9, r_Things_isSoft_12, r_Things_isSoft_13, r_Things_isSoft_14, r_Things_isSoft_15, r_Things_isSoft_18, r_Things_isSoft_19, r_Things_isSoft_22, r_Things_isSoft_23, xf_Things_isSoft_15, xe_Things_isSoft_360, xd_Things_isSoft, xrb_Things_isSoft, xin_Things_isSoft, T_Things_has_e, TF_Things_has, lh, lp0, lp1, lp2, lp3, lp4, lp5, lp6, lp7, lp8, lp9, lp10, lp11, lq0, lq1, lq2, lq3, lq4, lq5, lq6, lq7, lq8, lq9, lq10, lq11, Nat.reduceAdd, Nat.reduceMul, Nat.reduceEqDiff, reduceIte, Int.reduceNeg, Int.reduceLE, Int.reduceLT, Int.reduceAdd, Int.reduceSub, Int.reduceToNat, true_and, and_true, inR_e, Nat.reduceLT, Nat.reduceLeDiff, reduceCtorEq, Nat.add_zero, Nat.zero_add, or_false, false_or, or_true, true_or, not_true_eq_false, not_false_eq_true, Classical.not_not, Nat.add_eq_zero_iff, and_false, false_and, Int.reduceEq, List.mem_cons, List.not_mem_nil, forall_eq_or_imp, forall_eq, false_implies, implies_true, forall_const, aargs_0, aargs_i, aargs_r, aargs_l, aargs_n, nfT_e, eq_self, and_self, Nat.le_refl, fu_s, fu_fu, iu_iu, iu_s, fu_am, fu_a0, fu_0a, iu_l, Nat.reduceBEq, Int.reduceBEq, T_objInit_e]
  repeat' (first | assumption | intro _ | apply And.intro)
  all_goals first | omega | assumption | (exact h1 (by omega)) | (exact h0 (by omega)) | (exact h1 ⟨by omega, by omega⟩) | (exact h0 ⟨by omega, by omega⟩) | (exact h1 ⟨by omega, by omega, by omega⟩) | (exact h0 ⟨by omega, by omega, by omega⟩)
def TF_Things_valueCount (o : Nat) (i : Int) (sz sl : Nat) (lay : Nat → Nat × Int) (ρ : Nat → Int → Nat) (σ : Nat → Int → Int) (τ : Nat → Int → Int64) (k : Option AV → Mm → Prop) : Prop := LThings lay ρ o ∧ (0 ≤ σ o 12 ∧ σ o 12 ≤ 600) ∧ (∀ i, 0 ≤ i → i ≤ σ o 12 → 0 ≤ σ (o + 8) i ∧ σ (o + 8) i ≤ 8000) ∧ (0 ≤ i ∧ i < σ o 12 → k (some (vI (σ (o + 8) (i + 1) - σ (o + 8) i))) (sz, sl, lay, ρ, σ, τ)) ∧ (¬ (0 ≤ i ∧ i < σ o 12) → k (some (vI (0))) (sz, sl, lay, ρ, σ, τ))
def T_Things_valueCount : Tr := mkT 7 fun o as M k => pI as fun i as => as = [] ∧ TF_Things_valueCount o i M.1 M.2.1 M.2.2.1 M.2.2.2.1 M.2.2.2.2.1 M.2.2.2.2.2 k
theorem T_Things_valueCount_e {o : Nat} {i : Int} {sz sl : Nat} {lay : Nat → Nat × Int} {ρ : Nat → Int → Nat} {σ : Nat → Int → Int} {τ : Nat → Int → Int64} {k : Option AV → Mm → Prop} : T_Things_valueCount [vR o, vI i] (sz, sl, lay, ρ, σ, τ) k = (lay o = (17, 0) ∧ TF_Things_valueCount o i sz sl lay ρ σ τ k) := by simp [T_Things_valueCount, mkT_e, pI_e, pR_e, pL_e]
theorem T_Things_valueCount_r (as : List AV) (M : Mm) (k : Option AV → Mm → Prop) (h : T_Things_valueCount as M k) : ∃ b As, as = vR b :: As ∧ M.2.2.1 b = (10 + 7, 0) := by
  obtain ⟨b, As, h1, h2, -⟩ := mkT_r h
  exact ⟨b, As, h1, h2⟩
def tb_Things_valueCount : List (Nat × Option (List Nat) × Instr × List Nat) := [(0, none, .aload_n 0, []), (1, none, .iload_n 1, []), (2, none, .invokevirtual 90, []), (5, none, .ifCond .eq 21, [26]), (8, none, .aload_n 0, []), (9, none, .getfield 33, []), (12, none, .iload_n 1, []), (13, none, .iconst 1, []), (14, none, .iadd, []), (15, none, .iaload, []), (16, none, .aload_n 0, []), (17, none, .getfield 33, []), (20, none, .iload_n 1, []), (21, none, .iaload, []), (22, none, .isub, []), (23, none, .goto 4, [27]), (26, none, .iconst 0, []), (27, none, .ireturn, [])]
def P_Things_valueCount : Nat → Option (List Nat) × Instr × List Nat := plk tb_Things_valueCount
theorem r_Things_valueCount_0 : P_Things_valueCount 0 = (none, .aload_n 0, []) := by decide +kernel
theorem r_Things_valueCount_1 : P_Things_valueCount 1 = (none, .iload_n 1, []) := by decide +kernel
theorem r_Things_valueCount_2 : P_Things_valueCount 2 = (none, .invokevirtual 90, []) := by decide +kernel
theorem r_Things_valueCount_5 : P_Things_valueCount 5 = (none, .ifCond .eq 21, [26]) := by decide +kernel
theorem r_Things_valueCount_8 : P_Things_valueCount 8 = (none, .aload_n 0, []) := by decide +kernel
theorem r_Things_valueCount_9 : P_Things_valueCount 9 = (none, .getfield 33, []) := by decide +kernel
theorem r_Things_valueCount_12 : P_Things_valueCount 12 = (none, .iload_n 1, []) := by decide +kernel
theorem r_Things_valueCount_13 : P_Things_valueCount 13 = (none, .iconst 1, []) := by decide +kernel
theorem r_Things_valueCount_14 : P_Things_valueCount 14 = (none, .iadd, []) := by decide +kernel
theorem r_Things_valueCount_15 : P_Things_valueCount 15 = (none, .iaload, []) := by decide +kernel
theorem r_Things_valueCount_16 : P_Things_valueCount 16 = (none, .aload_n 0, []) := by decide +kernel
theorem r_Things_valueCount_17 : P_Things_valueCount 17 = (none, .getfield 33, []) := by decide +kernel
theorem r_Things_valueCount_20 : P_Things_valueCount 20 = (none, .iload_n 1, []) := by decide +kernel
theorem r_Things_valueCount_21 : P_Things_valueCount 21 = (none, .iaload, []) := by decide +kernel
theorem r_Things_valueCount_22 : P_Things_valueCount 22 = (none, .isub, []) := by decide +kernel
theorem r_Things_valueCount_23 : P_Things_valueCount 23 = (none, .goto 4, [27]) := by decide +kernel
theorem r_Things_valueCount_26 : P_Things_valueCount 26 = (none, .iconst 0, []) := by decide +kernel
theorem r_Things_valueCount_27 : P_Things_valueCount 27 = (none, .ireturn, []) := by decide +kernel
def E_Things_valueCount : List (Nat × Ent) := [(360, (2, 0, 0, 0, T_Things_has))]
def X_Things_valueCount : Cx := (llk (0, 0, 9) ftX7, llk 99 ntX7, llk none kcX7, llk none klX7, llk dEnt E_Things_valueCount, 1, 0, false)
theorem xok_Things_valueCount : Xok RX7 X_Things_valueCount := xok_of ftX7_ok ntX7_ok kcX7_ok klX7_ok (E := E_Things_valueCount) (List.forall_mem_cons.mpr ⟨co_X7_360, fun _ h => absurd h List.not_mem_nil⟩)
theorem xf_Things_valueCount_33 : xfl X_Things_valueCount 33 = (7, 7, 1) := by decide +kernel
theorem xe_Things_valueCount_360 : xE X_Things_valueCount (4 * 90 + 0) = (2, 0, 0, 0, T_Things_has) := rfl
theorem xd_Things_valueCount : xd X_Things_valueCount = 1 := rfl
theorem xrb_Things_valueCount : xrb X_Things_valueCount = 0 := rfl
theorem xin_Things_valueCount : xin X_Things_valueCount = false := rfl
set_option maxHeartbeats 4000000 in
set_option maxRecDepth 100000 in
theorem S_Things_valueCount : Snd yX7_valueCount cX7_valueCount 2 (some .int) T_Things_valueCount 1 0 0 := by
  refine snd_of (X := X_Things_valueCount) (P := P_Things_valueCount) (tb := tb_Things_valueCount) (own := RX7) (by decide) rfl rfl (by decide +kernel) xok_Things_valueCount rfl rk0 (fun h => by first | rfl | cases h) ?_
  intro as M k has hM hT0
  obtain ⟨sz, sl, lay, ρ, σ, τ⟩ := M
  obtain ⟨o, as1, e, hlo, hT1⟩ := mkT_r hT0
  clear hT0
  subst e
  obtain ⟨i, as2, e, hT2⟩ := pI_x hT1
  clear hT1
  subst e
  obtain ⟨e, hT⟩ := hT2
  subst e
  replace hlo : lay o = (17, 0) := hlo
  have r_i : -2147483648 ≤ i ∧ i ≤ 2147483647 := has (vI i) (by simp)
  clear has
  replace hM : ∀ a i, -2147483648 ≤ σ a i ∧ σ a i ≤ 2147483647 := hM
  replace hT : TF_Things_valueCount o i sz sl lay ρ σ τ k := hT
  unfold TF_Things_valueCount at hT
  obtain ⟨hL, hn, hv, h1, h0⟩ := hT
  obtain ⟨lh, lp0, lp1, lp2, lp3, lp4, lp5, lp6, lp7, lp8, lp9, lp10, lp11, lq0, lq1, lq2, lq3, lq4, lq5, lq6, lq7, lq8, lq9, lq10, lq11⟩ := (show LThings lay ρ _ from hL)
  refine ⟨Nat.le_of_ble_eq_true rfl, fun _ _ _ => False, fun _ _ _ => 0, 26, ?_, fun _ _ _ _ _ _ h => h.elim⟩
  unfold wps
  simp only [si_iload_n0, si_iload_n1, si_iload_n2, si_iload_n3, si_iload, si_lload_n0, si_lload_n1, si_lload_n2, si_lload_n3, si_lload, si_aload_n0, si_aload_n1, si_aload_n2, si_aload_n3, si_aload, si_istore_n0, si_istore_n1, si_istore_n2, si_istore_n3, si_istore, si_astore_n0, si_astore_n1, si_astore_n2, si_astore_n3, si_astore, si_lstore_n0, si_lstore_n1, si_lstore_n2, si_lstore_n3, si_lstore, si_iconst, si_bipush, si_sipush, si_ldc, si_ldc2_w, si_lconst0, si_lconst1, si_aconst_null, si_iinc, si_dup, si_dup2, si_iadd, si_isub, si_imul, si_idiv, si_irem, si_iand, si_ior, si_ishl, si_ishr, si_ladd, si_lmul, si_lor, si_lxor, si_lshl, si_lushr, si_lcmp, si_i2b, si_i2l, si_l2i, si_icmp_eq, si_icmp_ne, si_icmp_lt, si_icmp_ge, si_icmp_gt, si_icmp_le, si_if_eq, si_if_ne, si_if_lt, si_if_ge, si_if_gt, si_if_le, si_ifnull, si_ifnonnull, si_goto, si_tableswitch, si_lookupswitch, si_getfield, si_putfield, si_getstatic, si_iaload, si_baload, si_laload, si_aaload, si_iastore, si_bastore, si_lastore, si_aastore, si_arraylength, si_new, si_newarray, si_anewarray, si_invokevirtual, si_invokespecial, si_invokestatic, si_ireturn, si_lreturn, si_areturn, si_return_, pI_e, pL_e, pR_e, pA_r, pA_n, pN_n, pN_r, oI_e, oL_e, oA_r, oA_n, lget_e, lrm1_0, lrm2_0, lrm1_i, lrm1_r, lrm1_n, lrm1_l, lrm2_i, lrm2_r, lrm2_n, lrm2_l, popN_0, popN_s, acat_i, acat_l, acat_r, acat_n, stw_0, stw_s, psh_s, psh_n, wgf_r, wgf_i, wgf_b, wgf_n, wgf_m, wpf_i, wpf_r, wpf_b, wnew_e, callE_e, rbk_0, rbk_1, tsw_0, tsw_s, lsw_0, lsw_s, wp_s, wq_t, wq_f, oV_e, pick_0, pick_s, oZ_e, oY_e, r_Things_valueCount_0, r_Things_valueCount_1, r_Things_valueCount_2, r_Things_valueCount_5, r_Things_valueCount_8, r_Things_valueCount_9, r_Things_valueCount_12, r_Things_valueCount_13, r_Things_valueCount_14, r_Things_valueCount_15, r_Things_valueCount_16, r_Things_valueCount_17, r_Things_valueCount_20, r_Things_valueCount_21, r_Things_valueCount_22, r_Things_valueCount_23, r_Things_valueCount_26, r_Things_valueCount_27, xf_Things_valueCount_33, xe_Things_valueCount_360, xd_Things_valueCount, xrb_Things_valueCount, xin_Things_valueCount, T_Things_has_e, TF_Things_has, lh, lp0, lp1, lp2, lp3, lp4, lp5, lp6, lp7, lp8, lp9, lp10, lp11, lq0, lq1, lq2, lq3, lq4, lq5, lq6, lq7, lq8, lq9, lq10, lq11, Nat.reduceAdd, Nat.reduceMul, Nat.reduceEqDiff, reduceIte, Int.reduceNeg, Int.reduceLE, Int.reduceLT, Int.reduceAdd, Int.reduceSub, Int.reduceToNat, true_and, and_true, inR_e, Nat.reduceLT, Nat.reduceLeDiff, reduceCtorEq, Nat.add_zero, Nat.zero_add, or_false, false_or, or_true, true_or, not_true_eq_false, not_false_eq_true, Classical.not_not, Nat.add_eq_zero_iff, and_false, false_and, Int.reduceEq, List.mem_cons, List.not_mem_nil, forall_eq_or_imp, forall_eq, false_implies, implies_true, forall_const, aargs_0, aargs_i, aargs_r, aargs_l, aargs_n, nfT_e, eq_self, and_self, Nat.le_refl, fu_s, fu_fu, iu_iu, iu_s, fu_am, fu_a0, fu_0a, iu_l, Nat.reduceBEq, Int.reduceBEq, T_objInit_e]
  have hv1 := hv i
  have hv2 := hv (i + 1)
  repeat' (first | assumption | intro _ | apply And.intro)
  all_goals first | omega | assumption | (exact h1 (by omega)) | (exact h0 (by omega)) | (exact h1 ⟨by omega, by omega⟩) | (exact h0 ⟨by omega, by omega⟩) | (exact h1 ⟨by omega, by omega, by omega⟩) | (exact h0 ⟨by omega, by omega, by omega⟩)
def TF_Things_refCount (o : Nat) (i : Int) (sz sl : Nat) (lay : Nat → Nat × Int) (ρ : Nat → Int → Nat) (σ : Nat → Int → Int) (τ : Nat → Int → Int64) (k : Option AV → Mm → Prop) : Prop := LThings lay ρ o ∧ (0 ≤ σ o 12 ∧ σ o 12 ≤ 600) ∧ (∀ i, 0 ≤ i → i ≤ σ o 12 → 0 ≤ σ (o + 9) i ∧ σ (o + 9) i ≤ 4000) ∧ (0 ≤ i ∧ i < σ o 12 → k (some (vI (σ (o + 9) (i + 1) - σ (o + 9) i))) (sz, sl, lay, ρ, σ, τ)) ∧ (¬ (0 ≤ i ∧ i < σ o 12) → k (some (vI (0))) (sz, sl, lay, ρ, σ, τ))
def T_Things_refCount : Tr := mkT 7 fun o as M k => pI as fun i as => as = [] ∧ TF_Things_refCount o i M.1 M.2.1 M.2.2.1 M.2.2.2.1 M.2.2.2.2.1 M.2.2.2.2.2 k
theorem T_Things_refCount_e {o : Nat} {i : Int} {sz sl : Nat} {lay : Nat → Nat × Int} {ρ : Nat → Int → Nat} {σ : Nat → Int → Int} {τ : Nat → Int → Int64} {k : Option AV → Mm → Prop} : T_Things_refCount [vR o, vI i] (sz, sl, lay, ρ, σ, τ) k = (lay o = (17, 0) ∧ TF_Things_refCount o i sz sl lay ρ σ τ k) := by simp [T_Things_refCount, mkT_e, pI_e, pR_e, pL_e]
theorem T_Things_refCount_r (as : List AV) (M : Mm) (k : Option AV → Mm → Prop) (h : T_Things_refCount as M k) : ∃ b As, as = vR b :: As ∧ M.2.2.1 b = (10 + 7, 0) := by
  obtain ⟨b, As, h1, h2, -⟩ := mkT_r h
  exact ⟨b, As, h1, h2⟩
def tb_Things_refCount : List (Nat × Option (List Nat) × Instr × List Nat) := [(0, none, .aload_n 0, []), (1, none, .iload_n 1, []), (2, none, .invokevirtual 90, []), (5, none, .ifCond .eq 21, [26]), (8, none, .aload_n 0, []), (9, none, .getfield 36, []), (12, none, .iload_n 1, []), (13, none, .iconst 1, []), (14, none, .iadd, []), (15, none, .iaload, []), (16, none, .aload_n 0, []), (17, none, .getfield 36, []), (20, none, .iload_n 1, []), (21, none, .iaload, []), (22, none, .isub, []), (23, none, .goto 4, [27]), (26, none, .iconst 0, []), (27, none, .ireturn, [])]
def P_Things_refCount : Nat → Option (List Nat) × Instr × List Nat := plk tb_Things_refCount
theorem r_Things_refCount_0 : P_Things_refCount 0 = (none, .aload_n 0, []) := by decide +kernel
theorem r_Things_refCount_1 : P_Things_refCount 1 = (none, .iload_n 1, []) := by decide +kernel
theorem r_Things_refCount_2 : P_Things_refCount 2 = (none, .invokevirtual 90, []) := by decide +kernel
theorem r_Things_refCount_5 : P_Things_refCount 5 = (none, .ifCond .eq 21, [26]) := by decide +kernel
theorem r_Things_refCount_8 : P_Things_refCount 8 = (none, .aload_n 0, []) := by decide +kernel
theorem r_Things_refCount_9 : P_Things_refCount 9 = (none, .getfield 36, []) := by decide +kernel
theorem r_Things_refCount_12 : P_Things_refCount 12 = (none, .iload_n 1, []) := by decide +kernel
theorem r_Things_refCount_13 : P_Things_refCount 13 = (none, .iconst 1, []) := by decide +kernel
theorem r_Things_refCount_14 : P_Things_refCount 14 = (none, .iadd, []) := by decide +kernel
theorem r_Things_refCount_15 : P_Things_refCount 15 = (none, .iaload, []) := by decide +kernel
theorem r_Things_refCount_16 : P_Things_refCount 16 = (none, .aload_n 0, []) := by decide +kernel
theorem r_Things_refCount_17 : P_Things_refCount 17 = (none, .getfield 36, []) := by decide +kernel
theorem r_Things_refCount_20 : P_Things_refCount 20 = (none, .iload_n 1, []) := by decide +kernel
theorem r_Things_refCount_21 : P_Things_refCount 21 = (none, .iaload, []) := by decide +kernel
theorem r_Things_refCount_22 : P_Things_refCount 22 = (none, .isub, []) := by decide +kernel
theorem r_Things_refCount_23 : P_Things_refCount 23 = (none, .goto 4, [27]) := by decide +kernel
theorem r_Things_refCount_26 : P_Things_refCount 26 = (none, .iconst 0, []) := by decide +kernel
theorem r_Things_refCount_27 : P_Things_refCount 27 = (none, .ireturn, []) := by decide +kernel
def E_Things_refCount : List (Nat × Ent) := [(360, (2, 0, 0, 0, T_Things_has))]
def X_Things_refCount : Cx := (llk (0, 0, 9) ftX7, llk 99 ntX7, llk none kcX7, llk none klX7, llk dEnt E_Things_refCount, 1, 0, false)
theorem xok_Things_refCount : Xok RX7 X_Things_refCount := xok_of ftX7_ok ntX7_ok kcX7_ok klX7_ok (E := E_Things_refCount) (List.forall_mem_cons.mpr ⟨co_X7_360, fun _ h => absurd h List.not_mem_nil⟩)
theorem xf_Things_refCount_36 : xfl X_Things_refCount 36 = (7, 8, 1) := by decide +kernel
theorem xe_Things_refCount_360 : xE X_Things_refCount (4 * 90 + 0) = (2, 0, 0, 0, T_Things_has) := rfl
theorem xd_Things_refCount : xd X_Things_refCount = 1 := rfl
theorem xrb_Things_refCount : xrb X_Things_refCount = 0 := rfl
theorem xin_Things_refCount : xin X_Things_refCount = false := rfl
set_option maxHeartbeats 4000000 in
set_option maxRecDepth 100000 in
theorem S_Things_refCount : Snd yX7_refCount cX7_refCount 2 (some .int) T_Things_refCount 1 0 0 := by
  refine snd_of (X := X_Things_refCount) (P := P_Things_refCount) (tb := tb_Things_refCount) (own := RX7) (by decide) rfl rfl (by decide +kernel) xok_Things_refCount rfl rk0 (fun h => by first | rfl | cases h) ?_
  intro as M k has hM hT0
  obtain ⟨sz, sl, lay, ρ, σ, τ⟩ := M
  obtain ⟨o, as1, e, hlo, hT1⟩ := mkT_r hT0
  clear hT0
  subst e
  obtain ⟨i, as2, e, hT2⟩ := pI_x hT1
  clear hT1
  subst e
  obtain ⟨e, hT⟩ := hT2
  subst e
  replace hlo : lay o = (17, 0) := hlo
  have r_i : -2147483648 ≤ i ∧ i ≤ 2147483647 := has (vI i) (by simp)
  clear has
  replace hM : ∀ a i, -2147483648 ≤ σ a i ∧ σ a i ≤ 2147483647 := hM
  replace hT : TF_Things_refCount o i sz sl lay ρ σ τ k := hT
  unfold TF_Things_refCount at hT
  obtain ⟨hL, hn, hv, h1, h0⟩ := hT
  obtain ⟨lh, lp0, lp1, lp2, lp3, lp4, lp5, lp6, lp7, lp8, lp9, lp10, lp11, lq0, lq1, lq2, lq3, lq4, lq5, lq6, lq7, lq8, lq9, lq10, lq11⟩ := (show LThings lay ρ _ from hL)
  refine ⟨Nat.le_of_ble_eq_true rfl, fun _ _ _ => False, fun _ _ _ => 0, 26, ?_, fun _ _ _ _ _ _ h => h.elim⟩
  unfold wps
  simp only [si_iload_n0, si_iload_n1, si_iload_n2, si_iload_n3, si_iload, si_lload_n0, si_lload_n1, si_lload_n2, si_lload_n3, si_lload, si_aload_n0, si_aload_n1, si_aload_n2, si_aload_n3, si_aload, si_istore_n0, si_istore_n1, si_istore_n2, si_istore_n3, si_istore, si_astore_n0, si_astore_n1, si_astore_n2, si_astore_n3, si_astore, si_lstore_n0, si_lstore_n1, si_lstore_n2, si_lstore_n3, si_lstore, si_iconst, si_bipush, si_sipush, si_ldc, si_ldc2_w, si_lconst0, si_lconst1, si_aconst_null, si_iinc, si_dup, si_dup2, si_iadd, si_isub, si_imul, si_idiv, si_irem, si_iand, si_ior, si_ishl, si_ishr, si_ladd, si_lmul, si_lor, si_lxor, si_lshl, si_lushr, si_lcmp, si_i2b, si_i2l, si_l2i, si_icmp_eq, si_icmp_ne, si_icmp_lt, si_icmp_ge, si_icmp_gt, si_icmp_le, si_if_eq, si_if_ne, si_if_lt, si_if_ge, si_if_gt, si_if_le, si_ifnull, si_ifnonnull, si_goto, si_tableswitch, si_lookupswitch, si_getfield, si_putfield, si_getstatic, si_iaload, si_baload, si_laload, si_aaload, si_iastore, si_bastore, si_lastore, si_aastore, si_arraylength, si_new, si_newarray, si_anewarray, si_invokevirtual, si_invokespecial, si_invokestatic, si_ireturn, si_lreturn, si_areturn, si_return_, pI_e, pL_e, pR_e, pA_r, pA_n, pN_n, pN_r, oI_e, oL_e, oA_r, oA_n, lget_e, lrm1_0, lrm2_0, lrm1_i, lrm1_r, lrm1_n, lrm1_l, lrm2_i, lrm2_r, lrm2_n, lrm2_l, popN_0, popN_s, acat_i, acat_l, acat_r, acat_n, stw_0, stw_s, psh_s, psh_n, wgf_r, wgf_i, wgf_b, wgf_n, wgf_m, wpf_i, wpf_r, wpf_b, wnew_e, callE_e, rbk_0, rbk_1, tsw_0, tsw_s, lsw_0, lsw_s, wp_s, wq_t, wq_f, oV_e, pick_0, pick_s, oZ_e, oY_e, r_Things_refCount_0, r_Things_refCount_1, r_Things_refCount_2, r_Things_refCount_5, r_Things_refCount_8, r_Things_refCount_9, r_Things_refCount_12, r_Things_refCount_13, r_Things_refCount_14, r_Things_refCount_15, r_Things_refCount_16, r_Things_refCount_17, r_Things_refCount_20, r_Things_refCount_21, r_Things_refCount_22, r_Things_refCount_23, r_Things_refCount_26, r_Things_refCount_27, xf_Things_refCount_36, xe_Things_refCount_360, xd_Things_refCount, xrb_Things_refCount, xin_Things_refCount, T_Things_has_e, TF_Things_has, lh, lp0, lp1, lp2, lp3, lp4, lp5, lp6, lp7, lp8, lp9, lp10, lp11, lq0, lq1, lq2, lq3, lq4, lq5, lq6, lq7, lq8, lq9, lq10, lq11, Nat.reduceAdd, Nat.reduceMul, Nat.reduceEqDiff, reduceIte, Int.reduceNeg, Int.reduceLE, Int.reduceLT, Int.reduceAdd, Int.reduceSub, Int.reduceToNat, true_and, and_true, inR_e, Nat.reduceLT, Nat.reduceLeDiff, reduceCtorEq, Nat.add_zero, Nat.zero_add, or_false, false_or, or_true, true_or, not_true_eq_false, not_false_eq_true, Classical.not_not, Nat.add_eq_zero_iff, and_false, false_and, Int.reduceEq, List.mem_cons, List.not_mem_nil, forall_eq_or_imp, forall_eq, false_implies, implies_true, forall_const, aargs_0, aargs_i, aargs_r, aargs_l, aargs_n, nfT_e, eq_self, and_self, Nat.le_refl, fu_s, fu_fu, iu_iu, iu_s, fu_am, fu_a0, fu_0a, iu_l, Nat.reduceBEq, Int.reduceBEq, T_objInit_e]
  have hv1 := hv i
  have hv2 := hv (i + 1)
  repeat' (first | assumption | intro _ | apply And.intro)
  all_goals first | omega | assumption | (exact h1 (by omega)) | (exact h0 (by omega)) | (exact h1 ⟨by omega, by omega⟩) | (exact h0 ⟨by omega, by omega⟩) | (exact h1 ⟨by omega, by omega, by omega⟩) | (exact h0 ⟨by omega, by omega, by omega⟩)
theorem co_X7_400 : CallOK RX7 (.invokevirtual 100) (2, 1, 0, 0, T_Things_valueCount) := call_V S_Things_valueCount (by decide) (ci := 7) rfl (by decide +kernel) (by decide +kernel) (by decide +kernel) (by decide +kernel) (by decide +kernel) (by decide +kernel) T_Things_valueCount_r
def TF_Things_valueOf (o : Nat) (i : Int) (j : Int) (sz sl : Nat) (lay : Nat → Nat × Int) (ρ : Nat → Int → Nat) (σ : Nat → Int → Int) (τ : Nat → Int → Int64) (k : Option AV → Mm → Prop) : Prop := LThings lay ρ o ∧ (0 ≤ σ o 12 ∧ σ o 12 ≤ 600) ∧ (∀ i, 0 ≤ i → i ≤ σ o 12 → 0 ≤ σ (o + 8) i ∧ σ (o + 8) i ≤ 8000) ∧ (0 ≤ j ∧ 0 ≤ i ∧ i < σ o 12 ∧ j < σ (o + 8) (i + 1) - σ (o + 8) i → k (some (vL (τ (o + 10) (σ (o + 8) i + j)))) (sz, sl, lay, ρ, σ, τ)) ∧ (¬ (0 ≤ j ∧ 0 ≤ i ∧ i < σ o 12 ∧ j < σ (o + 8) (i + 1) - σ (o + 8) i) → k (some (vL (0))) (sz, sl, lay, ρ, σ, τ))
def T_Things_valueOf : Tr := mkT 7 fun o as M k => pI as fun i as => pI as fun j as => as = [] ∧ TF_Things_valueOf o i j M.1 M.2.1 M.2.2.1 M.2.2.2.1 M.2.2.2.2.1 M.2.2.2.2.2 k
theorem T_Things_valueOf_e {o : Nat} {i : Int} {j : Int} {sz sl : Nat} {lay : Nat → Nat × Int} {ρ : Nat → Int → Nat} {σ : Nat → Int → Int} {τ : Nat → Int → Int64} {k : Option AV → Mm → Prop} : T_Things_valueOf [vR o, vI i, vI j] (sz, sl, lay, ρ, σ, τ) k = (lay o = (17, 0) ∧ TF_Things_valueOf o i j sz sl lay ρ σ τ k) := by simp [T_Things_valueOf, mkT_e, pI_e, pR_e, pL_e]
theorem T_Things_valueOf_r (as : List AV) (M : Mm) (k : Option AV → Mm → Prop) (h : T_Things_valueOf as M k) : ∃ b As, as = vR b :: As ∧ M.2.2.1 b = (10 + 7, 0) := by
  obtain ⟨b, As, h1, h2, -⟩ := mkT_r h
  exact ⟨b, As, h1, h2⟩
def tb_Things_valueOf : List (Nat × Option (List Nat) × Instr × List Nat) := [(0, none, .iload_n 2, []), (1, none, .ifCond .lt 12, [13]), (4, none, .iload_n 2, []), (5, none, .aload_n 0, []), (6, none, .iload_n 1, []), (7, none, .invokevirtual 100, []), (10, none, .if_icmp .lt 7, [17]), (13, none, .lconst 0, []), (14, none, .goto 16, [30]), (17, none, .aload_n 0, []), (18, none, .getfield 39, []), (21, none, .aload_n 0, []), (22, none, .getfield 33, []), (25, none, .iload_n 1, []), (26, none, .iaload, []), (27, none, .iload_n 2, []), (28, none, .iadd, []), (29, none, .laload, []), (30, none, .lreturn, [])]
def P_Things_valueOf : Nat → Option (List Nat) × Instr × List Nat := plk tb_Things_valueOf
theorem r_Things_valueOf_0 : P_Things_valueOf 0 = (none, .iload_n 2, []) := by decide +kernel
theorem r_Things_valueOf_1 : P_Things_valueOf 1 = (none, .ifCond .lt 12, [13]) := by decide +kernel
theorem r_Things_valueOf_4 : P_Things_valueOf 4 = (none, .iload_n 2, []) := by decide +kernel
theorem r_Things_valueOf_5 : P_Things_valueOf 5 = (none, .aload_n 0, []) := by decide +kernel
theorem r_Things_valueOf_6 : P_Things_valueOf 6 = (none, .iload_n 1, []) := by decide +kernel
theorem r_Things_valueOf_7 : P_Things_valueOf 7 = (none, .invokevirtual 100, []) := by decide +kernel
theorem r_Things_valueOf_10 : P_Things_valueOf 10 = (none, .if_icmp .lt 7, [17]) := by decide +kernel
theorem r_Things_valueOf_13 : P_Things_valueOf 13 = (none, .lconst 0, []) := by decide +kernel
theorem r_Things_valueOf_14 : P_Things_valueOf 14 = (none, .goto 16, [30]) := by decide +kernel
theorem r_Things_valueOf_17 : P_Things_valueOf 17 = (none, .aload_n 0, []) := by decide +kernel
theorem r_Things_valueOf_18 : P_Things_valueOf 18 = (none, .getfield 39, []) := by decide +kernel
theorem r_Things_valueOf_21 : P_Things_valueOf 21 = (none, .aload_n 0, []) := by decide +kernel
theorem r_Things_valueOf_22 : P_Things_valueOf 22 = (none, .getfield 33, []) := by decide +kernel
theorem r_Things_valueOf_25 : P_Things_valueOf 25 = (none, .iload_n 1, []) := by decide +kernel
theorem r_Things_valueOf_26 : P_Things_valueOf 26 = (none, .iaload, []) := by decide +kernel
theorem r_Things_valueOf_27 : P_Things_valueOf 27 = (none, .iload_n 2, []) := by decide +kernel
theorem r_Things_valueOf_28 : P_Things_valueOf 28 = (none, .iadd, []) := by decide +kernel
theorem r_Things_valueOf_29 : P_Things_valueOf 29 = (none, .laload, []) := by decide +kernel
theorem r_Things_valueOf_30 : P_Things_valueOf 30 = (none, .lreturn, []) := by decide +kernel
def E_Things_valueOf : List (Nat × Ent) := [(400, (2, 1, 0, 0, T_Things_valueCount))]
def X_Things_valueOf : Cx := (llk (0, 0, 9) ftX7, llk 99 ntX7, llk none kcX7, llk none klX7, llk dEnt E_Things_valueOf, 2, 2, false)
theorem xok_Things_valueOf : Xok RX7 X_Things_valueOf := xok_of ftX7_ok ntX7_ok kcX7_ok klX7_ok (E := E_Things_valueOf) (List.forall_mem_cons.mpr ⟨co_X7_400, fun _ h => absurd h List.not_mem_nil⟩)
theorem xf_Things_valueOf_33 : xfl X_Things_valueOf 33 = (7, 7, 1) := by decide +kernel
theorem xf_Things_valueOf_39 : xfl X_Things_valueOf 39 = (7, 9, 1) := by decide +kernel
theorem xe_Things_valueOf_400 : xE X_Things_valueOf (4 * 100 + 0) = (2, 1, 0, 0, T_Things_valueCount) := rfl
theorem xd_Things_valueOf : xd X_Things_valueOf = 2 := rfl
theorem xrb_Things_valueOf : xrb X_Things_valueOf = 2 := rfl
theorem xin_Things_valueOf : xin X_Things_valueOf = false := rfl
set_option maxHeartbeats 4000000 in
set_option maxRecDepth 100000 in
theorem S_Things_valueOf : Snd yX7_valueOf cX7_valueOf 3 (some .long) T_Things_valueOf 2 0 0 := by
  refine snd_of (X := X_Things_valueOf) (P := P_Things_valueOf) (tb := tb_Things_valueOf) (own := RX7) (by decide) rfl rfl (by decide +kernel) xok_Things_valueOf rfl rk2 (fun h => by first | rfl | cases h) ?_
  intro as M k has hM hT0
  obtain ⟨sz, sl, lay, ρ, σ, τ⟩ := M
  obtain ⟨o, as1, e, hlo, hT1⟩ := mkT_r hT0
  clear hT0
  subst e
  obtain ⟨i, as2, e, hT2⟩ := pI_x hT1
  clear hT1
  subst e
  obtain ⟨j, as3, e, hT3⟩ := pI_x hT2
  clear hT2
  subst e
  obtain ⟨e, hT⟩ := hT3
  subst e
  replace hlo : lay o = (17, 0) := hlo
  have r_i : -2147483648 ≤ i ∧ i ≤ 2147483647 := has (vI i) (by simp)
  have r_j : -2147483648 ≤ j ∧ j ≤ 2147483647 := has (vI j) (by simp)
  clear has
  replace hM : ∀ a i, -2147483648 ≤ σ a i ∧ σ a i ≤ 2147483647 := hM
  replace hT : TF_Things_valueOf o i j sz sl lay ρ σ τ k := hT
  unfold TF_Things_valueOf at hT
  obtain ⟨hL, hn, hv, h1, h0⟩ := hT
  obtain ⟨lh, lp0, lp1, lp2, lp3, lp4, lp5, lp6, lp7, lp8, lp9, lp10, lp11, lq0, lq1, lq2, lq3, lq4, lq5, lq6, lq7, lq8, lq9, lq10, lq11⟩ := (show LThings lay ρ _ from hL)
  refine ⟨Nat.le_of_ble_eq_true rfl, fun _ _ _ => False, fun _ _ _ => 0, 27, ?_, fun _ _ _ _ _ _ h => h.elim⟩
  unfold wps
  simp only [si_iload_n0, si_iload_n1, si_iload_n2, si_iload_n3, si_iload, si_lload_n0, si_lload_n1, si_lload_n2, si_lload_n3, si_lload, si_aload_n0, si_aload_n1, si_aload_n2, si_aload_n3, si_aload, si_istore_n0, si_istore_n1, si_istore_n2, si_istore_n3, si_istore, si_astore_n0, si_astore_n1, si_astore_n2, si_astore_n3, si_astore, si_lstore_n0, si_lstore_n1, si_lstore_n2, si_lstore_n3, si_lstore, si_iconst, si_bipush, si_sipush, si_ldc, si_ldc2_w, si_lconst0, si_lconst1, si_aconst_null, si_iinc, si_dup, si_dup2, si_iadd, si_isub, si_imul, si_idiv, si_irem, si_iand, si_ior, si_ishl, si_ishr, si_ladd, si_lmul, si_lor, si_lxor, si_lshl, si_lushr, si_lcmp, si_i2b, si_i2l, si_l2i, si_icmp_eq, si_icmp_ne, si_icmp_lt, si_icmp_ge, si_icmp_gt, si_icmp_le, si_if_eq, si_if_ne, si_if_lt, si_if_ge, si_if_gt, si_if_le, si_ifnull, si_ifnonnull, si_goto, si_tableswitch, si_lookupswitch, si_getfield, si_putfield, si_getstatic, si_iaload, si_baload, si_laload, si_aaload, si_iastore, si_bastore, si_lastore, si_aastore, si_arraylength, si_new, si_newarray, si_anewarray, si_invokevirtual, si_invokespecial, si_invokestatic, si_ireturn, si_lreturn, si_areturn, si_return_, pI_e, pL_e, pR_e, pA_r, pA_n, pN_n, pN_r, oI_e, oL_e, oA_r, oA_n, lget_e, lrm1_0, lrm2_0, lrm1_i, lrm1_r, lrm1_n, lrm1_l, lrm2_i, lrm2_r, lrm2_n, lrm2_l, popN_0, popN_s, acat_i, acat_l, acat_r, acat_n, stw_0, stw_s, psh_s, psh_n, wgf_r, wgf_i, wgf_b, wgf_n, wgf_m, wpf_i, wpf_r, wpf_b, wnew_e, callE_e, rbk_0, rbk_1, tsw_0, tsw_s, lsw_0, lsw_s, wp_s, wq_t, wq_f, oV_e, pick_0, pick_s, oZ_e, oY_e, r_Things_valueOf_0, r_Things_valueOf_1, r_Things_valueOf_4, r_Things_valueOf_5, r_Things_valueOf_6, r_Things_valueOf_7, r_Things_valueOf_10, r_Things_valueOf_13, r_Things_valueOf_14, r_Things_valueOf_17, r_Things_valueOf_18, r_Things_valueOf_21, r_Things_valueOf_22, r_Things_valueOf_25, r_Things_valueOf_26, r_Things_valueOf_27, r_Things_valueOf_28, r_Things_valueOf_29, r_Things_valueOf_30, xf_Things_valueOf_33, xf_Things_valueOf_39, xe_Things_valueOf_400, xd_Things_valueOf, xrb_Things_valueOf, xin_Things_valueOf, T_Things_valueCount_e, TF_Things_valueCount, lh, lp0, lp1, lp2, lp3, lp4, lp5, lp6, lp7, lp8, lp9, lp10, lp11, lq0, lq1, lq2, lq3, lq4, lq5, lq6, lq7, lq8, lq9, lq10, lq11, Nat.reduceAdd, Nat.reduceMul, Nat.reduceEqDiff, reduceIte, Int.reduceNeg, Int.reduceLE, Int.reduceLT, Int.reduceAdd, Int.reduceSub, Int.reduceToNat, true_and, and_true, inR_e, Nat.reduceLT, Nat.reduceLeDiff, reduceCtorEq, Nat.add_zero, Nat.zero_add, or_false, false_or, or_true, true_or, not_true_eq_false, not_false_eq_true, Classical.not_not, Nat.add_eq_zero_iff, and_false, false_and, Int.reduceEq, List.mem_cons, List.not_mem_nil, forall_eq_or_imp, forall_eq, false_implies, implies_true, forall_const, aargs_0, aargs_i, aargs_r, aargs_l, aargs_n, nfT_e, eq_self, and_self, Nat.le_refl, fu_s, fu_fu, iu_iu, iu_s, fu_am, fu_a0, fu_0a, iu_l, Nat.reduceBEq, Int.reduceBEq, T_objInit_e]
  have hv1 := hv i
  have hv2 := hv (i + 1)
  repeat' (first | assumption | intro _ | apply And.intro)
  all_goals first | omega | assumption | (exact h1 (by omega)) | (exact h0 (by omega)) | (exact h1 ⟨by omega, by omega⟩) | (exact h0 ⟨by omega, by omega⟩) | (exact h1 ⟨by omega, by omega, by omega⟩) | (exact h0 ⟨by omega, by omega, by omega⟩) | (exact h1 ⟨by omega, by omega, by omega, by omega⟩)
theorem co_X7_412 : CallOK RX7 (.invokevirtual 103) (2, 1, 0, 0, T_Things_refCount) := call_V S_Things_refCount (by decide) (ci := 7) rfl (by decide +kernel) (by decide +kernel) (by decide +kernel) (by decide +kernel) (by decide +kernel) (by decide +kernel) T_Things_refCount_r
def TF_Things_refOf (o : Nat) (i : Int) (j : Int) (sz sl : Nat) (lay : Nat → Nat × Int) (ρ : Nat → Int → Nat) (σ : Nat → Int → Int) (τ : Nat → Int → Int64) (k : Option AV → Mm → Prop) : Prop := LThings lay ρ o ∧ (0 ≤ σ o 12 ∧ σ o 12 ≤ 600) ∧ (∀ i, 0 ≤ i → i ≤ σ o 12 → 0 ≤ σ (o + 9) i ∧ σ (o + 9) i ≤ 4000) ∧ (0 ≤ j ∧ 0 ≤ i ∧ i < σ o 12 ∧ j < σ (o + 9) (i + 1) - σ (o + 9) i → k (some (vI (σ (o + 11) (σ (o + 9) i + j)))) (sz, sl, lay, ρ, σ, τ)) ∧ (¬ (0 ≤ j ∧ 0 ≤ i ∧ i < σ o 12 ∧ j < σ (o + 9) (i + 1) - σ (o + 9) i) → k (some (vI (-1))) (sz, sl, lay, ρ, σ, τ))
def T_Things_refOf : Tr := mkT 7 fun o as M k => pI as fun i as => pI as fun j as => as = [] ∧ TF_Things_refOf o i j M.1 M.2.1 M.2.2.1 M.2.2.2.1 M.2.2.2.2.1 M.2.2.2.2.2 k
theorem T_Things_refOf_e {o : Nat} {i : Int} {j : Int} {sz sl : Nat} {lay : Nat → Nat × Int} {ρ : Nat → Int → Nat} {σ : Nat → Int → Int} {τ : Nat → Int → Int64} {k : Option AV → Mm → Prop} : T_Things_refOf [vR o, vI i, vI j] (sz, sl, lay, ρ, σ, τ) k = (lay o = (17, 0) ∧ TF_Things_refOf o i j sz sl lay ρ σ τ k) := by simp [T_Things_refOf, mkT_e, pI_e, pR_e, pL_e]
theorem T_Things_refOf_r (as : List AV) (M : Mm) (k : Option AV → Mm → Prop) (h : T_Things_refOf as M k) : ∃ b As, as = vR b :: As ∧ M.2.2.1 b = (10 + 7, 0) := by
  obtain ⟨b, As, h1, h2, -⟩ := mkT_r h
  exact ⟨b, As, h1, h2⟩
def tb_Things_refOf : List (Nat × Option (List Nat) × Instr × List Nat) := [(0, none, .iload_n 2, []), (1, none, .ifCond .lt 12, [13]), (4, none, .iload_n 2, []), (5, none, .aload_n 0, []), (6, none, .iload_n 1, []), (7, none, .invokevirtual 103, []), (10, none, .if_icmp .lt 7, [17]), (13, none, .iconst (-1), []), (14, none, .goto 16, [30]), (17, none, .aload_n 0, []), (18, none, .getfield 43, []), (21, none, .aload_n 0, []), (22, none, .getfield 36, []), (25, none, .iload_n 1, []), (26, none, .iaload, []), (27, none, .iload_n 2, []), (28, none, .iadd, []), (29, none, .iaload, []), (30, none, .ireturn, [])]
def P_Things_refOf : Nat → Option (List Nat) × Instr × List Nat := plk tb_Things_refOf
theorem r_Things_refOf_0 : P_Things_refOf 0 = (none, .iload_n 2, []) := by decide +kernel
theorem r_Things_refOf_1 : P_Things_refOf 1 = (none, .ifCond .lt 12, [13]) := by decide +kernel
theorem r_Things_refOf_4 : P_Things_refOf 4 = (none, .iload_n 2, []) := by decide +kernel
theorem r_Things_refOf_5 : P_Things_refOf 5 = (none, .aload_n 0, []) := by decide +kernel
theorem r_Things_refOf_6 : P_Things_refOf 6 = (none, .iload_n 1, []) := by decide +kernel
theorem r_Things_refOf_7 : P_Things_refOf 7 = (none, .invokevirtual 103, []) := by decide +kernel
theorem r_Things_refOf_10 : P_Things_refOf 10 = (none, .if_icmp .lt 7, [17]) := by decide +kernel
theorem r_Things_refOf_13 : P_Things_refOf 13 = (none, .iconst (-1), []) := by decide +kernel
theorem r_Things_refOf_14 : P_Things_refOf 14 = (none, .goto 16, [30]) := by decide +kernel
theorem r_Things_refOf_17 : P_Things_refOf 17 = (none, .aload_n 0, []) := by decide +kernel
theorem r_Things_refOf_18 : P_Things_refOf 18 = (none, .getfield 43, []) := by decide +kernel
theorem r_Things_refOf_21 : P_Things_refOf 21 = (none, .aload_n 0, []) := by decide +kernel
theorem r_Things_refOf_22 : P_Things_refOf 22 = (none, .getfield 36, []) := by decide +kernel
theorem r_Things_refOf_25 : P_Things_refOf 25 = (none, .iload_n 1, []) := by decide +kernel
theorem r_Things_refOf_26 : P_Things_refOf 26 = (none, .iaload, []) := by decide +kernel
theorem r_Things_refOf_27 : P_Things_refOf 27 = (none, .iload_n 2, []) := by decide +kernel
theorem r_Things_refOf_28 : P_Things_refOf 28 = (none, .iadd, []) := by decide +kernel
theorem r_Things_refOf_29 : P_Things_refOf 29 = (none, .iaload, []) := by decide +kernel
theorem r_Things_refOf_30 : P_Things_refOf 30 = (none, .ireturn, []) := by decide +kernel
def E_Things_refOf : List (Nat × Ent) := [(412, (2, 1, 0, 0, T_Things_refCount))]
def X_Things_refOf : Cx := (llk (0, 0, 9) ftX7, llk 99 ntX7, llk none kcX7, llk none klX7, llk dEnt E_Things_refOf, 2, 0, false)
theorem xok_Things_refOf : Xok RX7 X_Things_refOf := xok_of ftX7_ok ntX7_ok kcX7_ok klX7_ok (E := E_Things_refOf) (List.forall_mem_cons.mpr ⟨co_X7_412, fun _ h => absurd h List.not_mem_nil⟩)
theorem xf_Things_refOf_36 : xfl X_Things_refOf 36 = (7, 8, 1) := by decide +kernel
theorem xf_Things_refOf_43 : xfl X_Things_refOf 43 = (7, 10, 1) := by decide +kernel
theorem xe_Things_refOf_412 : xE X_Things_refOf (4 * 103 + 0) = (2, 1, 0, 0, T_Things_refCount) := rfl
theorem xd_Things_refOf : xd X_Things_refOf = 2 := rfl
theorem xrb_Things_refOf : xrb X_Things_refOf = 0 := rfl
theorem xin_Things_refOf : xin X_Things_refOf = false := rfl
set_option maxHeartbeats 4000000 in
set_option maxRecDepth 100000 in
theorem S_Things_refOf : Snd yX7_refOf cX7_refOf 3 (some .int) T_Things_refOf 2 0 0 := by
  refine snd_of (X := X_Things_refOf) (P := P_Things_refOf) (tb := tb_Things_refOf) (own := RX7) (by decide) rfl rfl (by decide +kernel) xok_Things_refOf rfl rk0 (fun h => by first | rfl | cases h) ?_
  intro as M k has hM hT0
  obtain ⟨sz, sl, lay, ρ, σ, τ⟩ := M
  obtain ⟨o, as1, e, hlo, hT1⟩ := mkT_r hT0
  clear hT0
  subst e
  obtain ⟨i, as2, e, hT2⟩ := pI_x hT1
  clear hT1
  subst e
  obtain ⟨j, as3, e, hT3⟩ := pI_x hT2
  clear hT2
  subst e
  obtain ⟨e, hT⟩ := hT3
  subst e
  replace hlo : lay o = (17, 0) := hlo
  have r_i : -2147483648 ≤ i ∧ i ≤ 2147483647 := has (vI i) (by simp)
  have r_j : -2147483648 ≤ j ∧ j ≤ 2147483647 := has (vI j) (by simp)
  clear has
  replace hM : ∀ a i, -2147483648 ≤ σ a i ∧ σ a i ≤ 2147483647 := hM
  replace hT : TF_Things_refOf o i j sz sl lay ρ σ τ k := hT
  unfold TF_Things_refOf at hT
  obtain ⟨hL, hn, hv, h1, h0⟩ := hT
  obtain ⟨lh, lp0, lp1, lp2, lp3, lp4, lp5, lp6, lp7, lp8, lp9, lp10, lp11, lq0, lq1, lq2, lq3, lq4, lq5, lq6, lq7, lq8, lq9, lq10, lq11⟩ := (show LThings lay ρ _ from hL)
  refine ⟨Nat.le_of_ble_eq_true rfl, fun _ _ _ => False, fun _ _ _ => 0, 27, ?_, fun _ _ _ _ _ _ h => h.elim⟩
  unfold wps
  simp only [si_iload_n0, si_iload_n1, si_iload_n2, si_iload_n3, si_iload, si_lload_n0, si_lload_n1, si_lload_n2, si_lload_n3, si_lload, si_aload_n0, si_aload_n1, si_aload_n2, si_aload_n3, si_aload, si_istore_n0, si_istore_n1, si_istore_n2, si_istore_n3, si_istore, si_astore_n0, si_astore_n1, si_astore_n2, si_astore_n3, si_astore, si_lstore_n0, si_lstore_n1, si_lstore_n2, si_lstore_n3, si_lstore, si_iconst, si_bipush, si_sipush, si_ldc, si_ldc2_w, si_lconst0, si_lconst1, si_aconst_null, si_iinc, si_dup, si_dup2, si_iadd, si_isub, si_imul, si_idiv, si_irem, si_iand, si_ior, si_ishl, si_ishr, si_ladd, si_lmul, si_lor, si_lxor, si_lshl, si_lushr, si_lcmp, si_i2b, si_i2l, si_l2i, si_icmp_eq, si_icmp_ne, si_icmp_lt, si_icmp_ge, si_icmp_gt, si_icmp_le, si_if_eq, si_if_ne, si_if_lt, si_if_ge, si_if_gt, si_if_le, si_ifnull, si_ifnonnull, si_goto, si_tableswitch, si_lookupswitch, si_getfield, si_putfield, si_getstatic, si_iaload, si_baload, si_laload, si_aaload, si_iastore, si_bastore, si_lastore, si_aastore, si_arraylength, si_new, si_newarray, si_anewarray, si_invokevirtual, si_invokespecial, si_invokestatic, si_ireturn, si_lreturn, si_areturn, si_return_, pI_e, pL_e, pR_e, pA_r, pA_n, pN_n, pN_r, oI_e, oL_e, oA_r, oA_n, lget_e, lrm1_0, lrm2_0, lrm1_i, lrm1_r, lrm1_n, lrm1_l, lrm2_i, lrm2_r, lrm2_n, lrm2_l, popN_0, popN_s, acat_i, acat_l, acat_r, acat_n, stw_0, stw_s, psh_s, psh_n, wgf_r, wgf_i, wgf_b, wgf_n, wgf_m, wpf_i, wpf_r, wpf_b, wnew_e, callE_e, rbk_0, rbk_1, tsw_0, tsw_s, lsw_0, lsw_s, wp_s, wq_t, wq_f, oV_e, pick_0, pick_s, oZ_e, oY_e, r_Things_refOf_0, r_Things_refOf_1, r_Things_refOf_4, r_Things_refOf_5, r_Things_refOf_6, r_Things_refOf_7, r_Things_refOf_10, r_Things_refOf_13, r_Things_refOf_14, r_Things_refOf_17, r_Things_refOf_18, r_Things_refOf_21, r_Things_refOf_22, r_Things_refOf_25, r_Things_refOf_26, r_Things_refOf_27, r_Things_refOf_28, r_Things_refOf_29, r_Things_refOf_30, xf_Things_refOf_36, xf_Things_refOf_43, xe_Things_refOf_412, xd_Things_refOf, xrb_Things_refOf, xin_Things_refOf, T_Things_refCount_e, TF_Things_refCount, lh, lp0, lp1, lp2, lp3, lp4, lp5, lp6, lp7, lp8, lp9, lp10, lp11, lq0, lq1, lq2, lq3, lq4, lq5, lq6, lq7, lq8, lq9, lq10, lq11, Nat.reduceAdd, Nat.reduceMul, Nat.reduceEqDiff, reduceIte, Int.reduceNeg, Int.reduceLE, Int.reduceLT, Int.reduceAdd, Int.reduceSub, Int.reduceToNat, true_and, and_true, inR_e, Nat.reduceLT, Nat.reduceLeDiff, reduceCtorEq, Nat.add_zero, Nat.zero_add, or_false, false_or, or_true, true_or, not_true_eq_false, not_false_eq_true, Classical.not_not, Nat.add_eq_zero_iff, and_false, false_and, Int.reduceEq, List.mem_cons, List.not_mem_nil, forall_eq_or_imp, forall_eq, false_implies, implies_true, forall_const, aargs_0, aargs_i, aargs_r, aargs_l, aargs_n, nfT_e, eq_self, and_self, Nat.le_refl, fu_s, fu_fu, iu_iu, iu_s, fu_am, fu_a0, fu_0a, iu_l, Nat.reduceBEq, Int.reduceBEq, T_objInit_e]
  have hv1 := hv i
  have hv2 := hv (i + 1)
  repeat' (first | assumption | intro _ | apply And.intro)
  all_goals first | omega | assumption | (exact h1 (by omega)) | (exact h0 (by omega)) | (exact h1 ⟨by omega, by omega⟩) | (exact h0 ⟨by omega, by omega⟩) | (exact h1 ⟨by omega, by omega, by omega⟩) | (exact h0 ⟨by omega, by omega, by omega⟩) | (exact h1 ⟨by omega, by omega, by omega, by omega⟩)
def TF_Things_targetOf (o : Nat) (i : Int) (j : Int) (sz sl : Nat) (lay : Nat → Nat × Int) (ρ : Nat → Int → Nat) (σ : Nat → Int → Int) (τ : Nat → Int → Int64) (k : Option AV → Mm → Prop) : Prop := LThings lay ρ o ∧ (0 ≤ σ o 12 ∧ σ o 12 ≤ 600) ∧ (∀ i, 0 ≤ i → i ≤ σ o 12 → 0 ≤ σ (o + 9) i ∧ σ (o + 9) i ≤ 4000) ∧ (0 ≤ j ∧ 0 ≤ i ∧ i < σ o 12 ∧ j < σ (o + 9) (i + 1) - σ (o + 9) i → k (some (vI (σ (o + 12) (σ (o + 9) i + j)))) (sz, sl, lay, ρ, σ, τ)) ∧ (¬ (0 ≤ j ∧ 0 ≤ i ∧ i < σ o 12 ∧ j < σ (o + 9) (i + 1) - σ (o + 9) i) → k (some (vI (-1))) (sz, sl, lay, ρ, σ, τ))
def T_Things_targetOf : Tr := mkT 7 fun o as M k => pI as fun i as => pI as fun j as => as = [] ∧ TF_Things_targetOf o i j M.1 M.2.1 M.2.2.1 M.2.2.2.1 M.2.2.2.2.1 M.2.2.2.2.2 k
theorem T_Things_targetOf_e {o : Nat} {i : Int} {j : Int} {sz sl : Nat} {lay : Nat → Nat × Int} {ρ : Nat → Int → Nat} {σ : Nat → Int → Int} {τ : Nat → Int → Int64} {k : Option AV → Mm → Prop} : T_Things_targetOf [vR o, vI i, vI j] (sz, sl, lay, ρ, σ, τ) k = (lay o = (17, 0) ∧ TF_Things_targetOf o i j sz sl lay ρ σ τ k) := by simp [T_Things_targetOf, mkT_e, pI_e, pR_e, pL_e]
theorem T_Things_targetOf_r (as : List AV) (M : Mm) (k : Option AV → Mm → Prop) (h : T_Things_targetOf as M k) : ∃ b As, as = vR b :: As ∧ M.2.2.1 b = (10 + 7, 0) := by
  obtain ⟨b, As, h1, h2, -⟩ := mkT_r h
  exact ⟨b, As, h1, h2⟩
def tb_Things_targetOf : List (Nat × Option (List Nat) × Instr × List Nat) := [(0, none, .iload_n 2, []), (1, none, .ifCond .lt 12, [13]), (4, none, .iload_n 2, []), (5, none, .aload_n 0, []), (6, none, .iload_n 1, []), (7, none, .invokevirtual 103, []), (10, none, .if_icmp .lt 7, [17]), (13, none, .iconst (-1), []), (14, none, .goto 16, [30]), (17, none, .aload_n 0, []), (18, none, .getfield 46, []), (21, none, .aload_n 0, []), (22, none, .getfield 36, []), (25, none, .iload_n 1, []), (26, none, .iaload, []), (27, none, .iload_n 2, []), (28, none, .iadd, []), (29, none, .iaload, []), (30, none, .ireturn, [])]
def P_Things_targetOf : Nat → Option (List Nat) × Instr × List Nat := plk tb_Things_targetOf
theorem r_Things_targetOf_0 : P_Things_targetOf 0 = (none, .iload_n 2, []) := by decide +kernel
theorem r_Things_targetOf_1 : P_Things_targetOf 1 = (none, .ifCond .lt 12, [13]) := by decide +kernel
theorem r_Things_targetOf_4 : P_Things_targetOf 4 = (none, .iload_n 2, []) := by decide +kernel
theorem r_Things_targetOf_5 : P_Things_targetOf 5 = (none, .aload_n 0, []) := by decide +kernel
theorem r_Things_targetOf_6 : P_Things_targetOf 6 = (none, .iload_n 1, []) := by decide +kernel
theorem r_Things_targetOf_7 : P_Things_targetOf 7 = (none, .invokevirtual 103, []) := by decide +kernel
theorem r_Things_targetOf_10 : P_Things_targetOf 10 = (none, .if_icmp .lt 7, [17]) := by decide +kernel
theorem r_Things_targetOf_13 : P_Things_targetOf 13 = (none, .iconst (-1), []) := by decide +kernel
theorem r_Things_targetOf_14 : P_Things_targetOf 14 = (none, .goto 16, [30]) := by decide +kernel
theorem r_Things_targetOf_17 : P_Things_targetOf 17 = (none, .aload_n 0, []) := by decide +kernel
theorem r_Things_targetOf_18 : P_Things_targetOf 18 = (none, .getfield 46, []) := by decide +kernel
theorem r_Things_targetOf_21 : P_Things_targetOf 21 = (none, .aload_n 0, []) := by decide +kernel
theorem r_Things_targetOf_22 : P_Things_targetOf 22 = (none, .getfield 36, []) := by decide +kernel
theorem r_Things_targetOf_25 : P_Things_targetOf 25 = (none, .iload_n 1, []) := by decide +kernel
theorem r_Things_targetOf_26 : P_Things_targetOf 26 = (none, .iaload, []) := by decide +kernel
theorem r_Things_targetOf_27 : P_Things_targetOf 27 = (none, .iload_n 2, []) := by decide +kernel
theorem r_Things_targetOf_28 : P_Things_targetOf 28 = (none, .iadd, []) := by decide +kernel
theorem r_Things_targetOf_29 : P_Things_targetOf 29 = (none, .iaload, []) := by decide +kernel
theorem r_Things_targetOf_30 : P_Things_targetOf 30 = (none, .ireturn, []) := by decide +kernel
def E_Things_targetOf : List (Nat × Ent) := [(412, (2, 1, 0, 0, T_Things_refCount))]
def X_Things_targetOf : Cx := (llk (0, 0, 9) ftX7, llk 99 ntX7, llk none kcX7, llk none klX7, llk dEnt E_Things_targetOf, 2, 0, false)
theorem xok_Things_targetOf : Xok RX7 X_Things_targetOf := xok_of ftX7_ok ntX7_ok kcX7_ok klX7_ok (E := E_Things_targetOf) (List.forall_mem_cons.mpr ⟨co_X7_412, fun _ h => absurd h List.not_mem_nil⟩)
theorem xf_Things_targetOf_36 : xfl X_Things_targetOf 36 = (7, 8, 1) := by decide +kernel
theorem xf_Things_targetOf_46 : xfl X_Things_targetOf 46 = (7, 11, 1) := by decide +kernel
theorem xe_Things_targetOf_412 : xE X_Things_targetOf (4 * 103 + 0) = (2, 1, 0, 0, T_Things_refCount) := rfl
theorem xd_Things_targetOf : xd X_Things_targetOf = 2 := rfl
theorem xrb_Things_targetOf : xrb X_Things_targetOf = 0 := rfl
theorem xin_Things_targetOf : xin X_Things_targetOf = false := rfl
set_option maxHeartbeats 4000000 in
set_option maxRecDepth 100000 in
theorem S_Things_targetOf : Snd yX7_targetOf cX7_targetOf 3 (some .int) T_Things_targetOf 2 0 0 := by
  refine snd_of (X := X_Things_targetOf) (P := P_Things_targetOf) (tb := tb_Things_targetOf) (own := RX7) (by decide) rfl rfl (by decide +kernel) xok_Things_targetOf rfl rk0 (fun h => by first | rfl | cases h) ?_
  intro as M k has hM hT0
  obtain ⟨sz, sl, lay, ρ, σ, τ⟩ := M
  obtain ⟨o, as1, e, hlo, hT1⟩ := mkT_r hT0
  clear hT0
  subst e
  obtain ⟨i, as2, e, hT2⟩ := pI_x hT1
  clear hT1
  subst e
  obtain ⟨j, as3, e, hT3⟩ := pI_x hT2
  clear hT2
  subst e
  obtain ⟨e, hT⟩ := hT3
  subst e
  replace hlo : lay o = (17, 0) := hlo
  have r_i : -2147483648 ≤ i ∧ i ≤ 2147483647 := has (vI i) (by simp)
  have r_j : -2147483648 ≤ j ∧ j ≤ 2147483647 := has (vI j) (by simp)
  clear has
  replace hM : ∀ a i, -2147483648 ≤ σ a i ∧ σ a i ≤ 2147483647 := hM
  replace hT : TF_Things_targetOf o i j sz sl lay ρ σ τ k := hT
  unfold TF_Things_targetOf at hT
  obtain ⟨hL, hn, hv, h1, h0⟩ := hT
  obtain ⟨lh, lp0, lp1, lp2, lp3, lp4, lp5, lp6, lp7, lp8, lp9, lp10, lp11, lq0, lq1, lq2, lq3, lq4, lq5, lq6, lq7, lq8, lq9, lq10, lq11⟩ := (show LThings lay ρ _ from hL)
  refine ⟨Nat.le_of_ble_eq_true rfl, fun _ _ _ => False, fun _ _ _ => 0, 27, ?_, fun _ _ _ _ _ _ h => h.elim⟩
  unfold wps
  simp only [si_iload_n0, si_iload_n1, si_iload_n2, si_iload_n3, si_iload, si_lload_n0, si_lload_n1, si_lload_n2, si_lload_n3, si_lload, si_aload_n0, si_aload_n1, si_aload_n2, si_aload_n3, si_aload, si_istore_n0, si_istore_n1, si_istore_n2, si_istore_n3, si_istore, si_astore_n0, si_astore_n1, si_astore_n2, si_astore_n3, si_astore, si_lstore_n0, si_lstore_n1, si_lstore_n2, si_lstore_n3, si_lstore, si_iconst, si_bipush, si_sipush, si_ldc, si_ldc2_w, si_lconst0, si_lconst1, si_aconst_null, si_iinc, si_dup, si_dup2, si_iadd, si_isub, si_imul, si_idiv, si_irem, si_iand, si_ior, si_ishl, si_ishr, si_ladd, si_lmul, si_lor, si_lxor, si_lshl, si_lushr, si_lcmp, si_i2b, si_i2l, si_l2i, si_icmp_eq, si_icmp_ne, si_icmp_lt, si_icmp_ge, si_icmp_gt, si_icmp_le, si_if_eq, si_if_ne, si_if_lt, si_if_ge, si_if_gt, si_if_le, si_ifnull, si_ifnonnull, si_goto, si_tableswitch, si_lookupswitch, si_getfield, si_putfield, si_getstatic, si_iaload, si_baload, si_laload, si_aaload, si_iastore, si_bastore, si_lastore, si_aastore, si_arraylength, si_new, si_newarray, si_anewarray, si_invokevirtual, si_invokespecial, si_invokestatic, si_ireturn, si_lreturn, si_areturn, si_return_, pI_e, pL_e, pR_e, pA_r, pA_n, pN_n, pN_r, oI_e, oL_e, oA_r, oA_n, lget_e, lrm1_0, lrm2_0, lrm1_i, lrm1_r, lrm1_n, lrm1_l, lrm2_i, lrm2_r, lrm2_n, lrm2_l, popN_0, popN_s, acat_i, acat_l, acat_r, acat_n, stw_0, stw_s, psh_s, psh_n, wgf_r, wgf_i, wgf_b, wgf_n, wgf_m, wpf_i, wpf_r, wpf_b, wnew_e, callE_e, rbk_0, rbk_1, tsw_0, tsw_s, lsw_0, lsw_s, wp_s, wq_t, wq_f, oV_e, pick_0, pick_s, oZ_e, oY_e, r_Things_targetOf_0, r_Things_targetOf_1, r_Things_targetOf_4, r_Things_targetOf_5, r_Things_targetOf_6, r_Things_targetOf_7, r_Things_targetOf_10, r_Things_targetOf_13, r_Things_targetOf_14, r_Things_targetOf_17, r_Things_targetOf_18, r_Things_targetOf_21, r_Things_targetOf_22, r_Things_targetOf_25, r_Things_targetOf_26, r_Things_targetOf_27, r_Things_targetOf_28, r_Things_targetOf_29, r_Things_targetOf_30, xf_Things_targetOf_36, xf_Things_targetOf_46, xe_Things_targetOf_412, xd_Things_targetOf, xrb_Things_targetOf, xin_Things_targetOf, T_Things_refCount_e, TF_Things_refCount, lh, lp0, lp1, lp2, lp3, lp4, lp5, lp6, lp7, lp8, lp9, lp10, lp11, lq0, lq1, lq2, lq3, lq4, lq5, lq6, lq7, lq8, lq9, lq10, lq11, Nat.reduceAdd, Nat.reduceMul, Nat.reduceEqDiff, reduceIte, Int.reduceNeg, Int.reduceLE, Int.reduceLT, Int.reduceAdd, Int.reduceSub, Int.reduceToNat, true_and, and_true, inR_e, Nat.reduceLT, Nat.reduceLeDiff, reduceCtorEq, Nat.add_zero, Nat.zero_add, or_false, false_or, or_true, true_or, not_true_eq_false, not_false_eq_true, Classical.not_not, Nat.add_eq_zero_iff, and_false, false_and, Int.reduceEq, List.mem_cons, List.not_mem_nil, forall_eq_or_imp, forall_eq, false_implies, implies_true, forall_const, aargs_0, aargs_i, aargs_r, aargs_l, aargs_n, nfT_e, eq_self, and_self, Nat.le_refl, fu_s, fu_fu, iu_iu, iu_s, fu_am, fu_a0, fu_0a, iu_l, Nat.reduceBEq, Int.reduceBEq, T_objInit_e]
  have hv1 := hv i
  have hv2 := hv (i + 1)
  repeat' (first | assumption | intro _ | apply And.intro)
  all_goals first | omega | assumption | (exact h1 (by omega)) | (exact h0 (by omega)) | (exact h1 ⟨by omega, by omega⟩) | (exact h0 ⟨by omega, by omega⟩) | (exact h1 ⟨by omega, by omega, by omega⟩) | (exact h0 ⟨by omega, by omega, by omega⟩) | (exact h1 ⟨by omega, by omega, by omega, by omega⟩)

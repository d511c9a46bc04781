def TF_Things_countSet (o : Nat) (a : Int) (b : Int) (sz sl : Nat) (lay : Nat → Nat × Int) (ρ : Nat → Int → Nat) (σ : Nat → Int → Int) (τ : Nat → Int → Int64) (k : Option AV → Mm → Prop) : Prop := LThings lay ρ o ∧ (0 ≤ a ∧ a ≤ b ∧ b ≤ 4000) ∧ k (some (vI (cntZ (fun i => decide (¬ σ (o + 11) (a + i) = 0)) (b - a).toNat))) (sz, sl, lay, ρ, σ, τ)
def T_Things_countSet : Tr := mkT 7 fun o as M k => pI as fun a as => pI as fun b as => as = [] ∧ TF_Things_countSet o a b M.1 M.2.1 M.2.2.1 M.2.2.2.1 M.2.2.2.2.1 M.2.2.2.2.2 k
theorem T_Things_countSet_e {o : Nat} {a : Int} {b : Int} {sz sl : Nat} {lay : Nat → Nat × Int} {ρ : Nat → Int → Nat} {σ : Nat → Int → Int} {τ : Nat → Int → Int64} {k : Option AV → Mm → Prop} : T_Things_countSet [vR o, vI a, vI b] (sz, sl, lay, ρ, σ, τ) k = (lay o = (17, 0) ∧ TF_Things_countSet o a b sz sl lay ρ σ τ k) := by simp [T_Things_countSet, mkT_e, pI_e, pR_e, pL_e]
theorem T_Things_countSet_r (as : List AV) (M : Mm) (k : Option AV → Mm → Prop) (h : T_Things_countSet as M k) : ∃ b As, as = vR b :: As ∧ M.2.2.1 b = (10 + 7, 0) := by
  obtain ⟨b, As, h1, h2, -⟩ := mkT_r h
  exact ⟨b, As, h1, h2⟩
def tb_Things_countSet : List (Nat × Option (List Nat) × Instr × List Nat) := [(0, none, .iconst 0, []), (1, none, .istore_n 3, []), (2, none, .iload_n 1, []), (3, none, .istore 4, []), (5, some [0, 1, 2, 3, 4], .iload 4, []), (7, none, .iload_n 2, []), (8, none, .if_icmp .ge 22, [30]), (11, none, .aload_n 0, []), (12, none, .getfield 43, []), (15, none, .iload 4, []), (17, none, .iaload, []), (18, none, .ifCond .eq 6, [24]), (21, none, .iinc 3 1, []), (24, none, .iinc 4 1, []), (27, none, .goto (-22), [5]), (30, none, .iload_n 3, []), (31, none, .ireturn, [])]
def P_Things_countSet : Nat → Option (List Nat) × Instr × List Nat := plk tb_Things_countSet
theorem r_Things_countSet_0 : P_Things_countSet 0 = (none, .iconst 0, []) := by decide +kernel
theorem r_Things_countSet_1 : P_Things_countSet 1 = (none, .istore_n 3, []) := by decide +kernel
theorem r_Things_countSet_2 : P_Things_countSet 2 = (none, .iload_n 1, []) := by decide +kernel
theorem r_Things_countSet_3 : P_Things_countSet 3 = (none, .istore 4, []) := by decide +kernel
theorem r_Things_countSet_5 : P_Things_countSet 5 = (some [0, 1, 2, 3, 4], .iload 4, []) := by decide +kernel
theorem r_Things_countSet_7 : P_Things_countSet 7 = (none, .iload_n 2, []) := by decide +kernel
theorem r_Things_countSet_8 : P_Things_countSet 8 = (none, .if_icmp .ge 22, [30]) := by decide +kernel
theorem r_Things_countSet_11 : P_Things_countSet 11 = (none, .aload_n 0, []) := by decide +kernel
theorem r_Things_countSet_12 : P_Things_countSet 12 = (none, .getfield 43, []) := by decide +kernel
theorem r_Things_countSet_15 : P_Things_countSet 15 = (none, .iload 4, []) := by decide +kernel
theorem r_Things_countSet_17 : P_Things_countSet 17 = (none, .iaload, []) := by decide +kernel
theorem r_Things_countSet_18 : P_Things_countSet 18 = (none, .ifCond .eq 6, [24]) := by decide +kernel
theorem r_Things_countSet_21 : P_Things_countSet 21 = (none, .iinc 3 1, []) := by decide +kernel
theorem r_Things_countSet_24 : P_Things_countSet 24 = (none, .iinc 4 1, []) := by decide +kernel
theorem r_Things_countSet_27 : P_Things_countSet 27 = (none, .goto (-22), [5]) := by decide +kernel
theorem r_Things_countSet_30 : P_Things_countSet 30 = (none, .iload_n 3, []) := by decide +kernel
theorem r_Things_countSet_31 : P_Things_countSet 31 = (none, .ireturn, []) := by decide +kernel
def E_Things_countSet : List (Nat × Ent) := []
def X_Things_countSet : Cx := (llk (0, 0, 9) ftX7, llk 99 ntX7, llk none kcX7, llk none klX7, llk dEnt E_Things_countSet, 0, 0, false)
theorem xok_Things_countSet : Xok RX7 X_Things_countSet := xok_of ftX7_ok ntX7_ok kcX7_ok klX7_ok (E := E_Things_countSet) (fun _ h => absurd h List.not_mem_nil)
theorem xf_Things_countSet_43 : xfl X_Things_countSet 43 = (7, 10, 1) := by decide +kernel
theorem xd_Things_countSet : xd X_Things_countSet = 0 := rfl
theorem xrb_Things_countSet : xrb X_Things_countSet = 0 := rfl
theorem xin_Things_countSet : xin X_Things_countSet = false := rfl
set_option maxHeartbeats 4000000 in
set_option maxRecDepth 100000 in
theorem S_Things_countSet : Snd yX7_countSet cX7_countSet 5 (some .int) T_Things_countSet 0 0 0 := by
  refine snd_of (X := X_Things_countSet) (P := P_Things_countSet) (tb := tb_Things_countSet) (own := RX7) (by decide) rfl rfl (by decide +kernel) xok_Things_countSet rfl rk0 (fun h => by first | rfl | cases h) ?_
  intro as M k has hM hT0
  obtain ⟨sz, sl, lay, ρ, σ, τ⟩ := M
  obtain ⟨o, as1, e, hlo, hT1⟩ := mkT_r hT0
  clear hT0
  subst e
  obtain ⟨a, as2, e, hT2⟩ := pI_x hT1
  clear hT1
  subst e
  obtain ⟨b, as3, e, hT3⟩ := pI_x hT2
  clear hT2
  subst e
  obtain ⟨e, hT⟩ := hT3
  subst e
  replace hlo : lay o = (17, 0) := hlo
  have r_a : -2147483648 ≤ a ∧ a ≤ 2147483647 := has (vI a) (by simp)
  have r_b : -2147483648 ≤ b ∧ b ≤ 2147483647 := has (vI b) (by simp)
  clear has
  replace hM : ∀ a i, -2147483648 ≤ σ a i ∧ σ a i ≤ 2147483647 := hM
  replace hT : TF_Things_countSet o a b sz sl lay ρ σ τ k := hT
  unfold TF_Things_countSet at hT
  obtain ⟨hL, hb, hT⟩ := hT
  obtain ⟨lh, lp0, lp1, lp2, lp3, lp4, lp5, lp6, lp7, lp8, lp9, lp10, lp11, lq0, lq1, lq2, lq3, lq4, lq5, lq6, lq7, lq8, lq9, lq10, lq11⟩ := (show LThings lay ρ _ from hL)
  obtain ⟨J, hJd⟩ : ∃ J : Nat → List AV → Mm → Prop, J = (fun c vs M1 => c = 5 ∧ ∃ n : Nat, a + n ≤ b ∧ vs = [vR o, vI a, vI b, vI (cntZ (fun i => decide (¬ σ (o + 11) (a + i) = 0)) n), vI (a + n)] ∧ M1 = (sz, sl, lay, ρ, σ, τ)) := ⟨_, rfl⟩
  obtain ⟨μ, hμ⟩ : ∃ μ : Nat → List AV → Mm → Nat, μ = (fun _ vs _ => (b - gI (vs.getD 4 vN)).toNat) := ⟨_, rfl⟩
  refine ⟨Nat.le_of_ble_eq_true rfl, J, μ, 25, ?_, ?_⟩
  · unfold wps
    simp only [si_iload_n0, si_iload_n1, si_iload_n2, si_iload_n3, si_iload, si_lload_n0, si_lload_n1, si_lload_n2, si_lload_n3, si_lload, si_aload_n0, si_aload_n1, si_aload_n2, si_aload_n3, si_aload, si_istore_n0, si_istore_n1, si_istore_n2, si_istore_n3, si_istore, si_astore_n0, si_astore_n1, si_astore_n2, si_astore_n3, si_astore, si_lstore_n0, si_lstore_n1, si_lstore_n2, si_lstore_n3, si_lstore, si_iconst, si_bipush, si_sipush, si_ldc, si_ldc2_w, si_lconst0, si_lconst1, si_aconst_null, si_iinc, si_dup, si_dup2, si_iadd, si_isub, si_imul, si_idiv, si_irem, si_iand, si_ior, si_ishl, si_ishr, si_ladd, si_lmul, si_lor, si_lxor, si_lshl, si_lushr, si_lcmp, si_i2b, si_i2l, si_l2i, si_icmp_eq, si_icmp_ne, si_icmp_lt, si_icmp_ge, si_icmp_gt, si_icmp_le, si_if_eq, si_if_ne, si_if_lt, si_if_ge, si_if_gt, si_if_le, si_ifnull, si_ifnonnull, si_goto, si_tableswitch, si_lookupswitch, si_getfield, si_putfield, si_getstatic, si_iaload, si_baload, si_laload, si_aaload, si_iastore, si_bastore, si_lastore, si_aastore, si_arraylength, si_new, si_newarray, si_anewarray, si_invokevirtual, si_invokespecial, si_invokestatic, si_ireturn, si_lreturn, si_areturn, si_return_, pI_e, pL_e, pR_e, pA_r, pA_n, pN_n, pN_r, oI_e, oL_e, oA_r, oA_n, lget_e, lrm1_0, lrm2_0, lrm1_i, lrm1_r, lrm1_n, lrm1_l, lrm2_i, lrm2_r, lrm2_n, lrm2_l, popN_0, popN_s, acat_i, acat_l, acat_r, acat_n, stw_0, stw_s, psh_s, psh_n, wgf_r, wgf_i, wgf_b, wgf_n, wgf_m, wpf_i, wpf_r, wpf_b, wnew_e, callE_e, rbk_0, rbk_1, tsw_0, tsw_s, lsw_0, lsw_s, wp_s, wq_t, wq_f, oV_e, pick_0, pick_s, oZ_e, oY_e, r_Things_countSet_0, r_Things_countSet_1, r_Things_countSet_2, r_Things_countSet_3, r_Things_countSet_5, r_Things_countSet_7, r_Things_countSet_8, r_Things_countSet_11, r_Things_countSet_12, r_Things_countSet_15, r_Things_countSet_17, r_Things_countSet_18, r_Things_countSet_21, r_Things_countSet_24, r_Things_countSet_27, r_Things_countSet_30, r_Things_countSet_31, xf_Things_countSet_43, xd_Things_countSet, xrb_Things_countSet, xin_Things_countSet, lh, lp0, lp1, lp2, lp3, lp4, lp5, lp6, lp7, lp8, lp9, lp10, lp11, lq0, lq1, lq2, lq3, lq4, lq5, lq6, lq7, lq8, lq9, lq10, lq11, Nat.reduceAdd, Nat.reduceMul, Nat.reduceEqDiff, reduceIte, Int.reduceNeg, Int.reduceLE, Int.reduceLT, Int.reduceAdd, Int.reduceSub, Int.reduceToNat, true_and, and_true, inR_e, Nat.reduceLT, Nat.reduceLeDiff, reduceCtorEq, Nat.add_zero, Nat.zero_add, or_false, false_or, or_true, true_or, not_true_eq_false, not_false_eq_true, Classical.not_not, Nat.add_eq_zero_iff, and_false, false_and, Int.reduceEq, List.mem_cons, List.not_mem_nil, forall_eq_or_imp, forall_eq, false_implies, implies_true, forall_const, aargs_0, aargs_i, aargs_r, aargs_l, aargs_n, nfT_e, eq_self, and_self, Nat.le_refl, fu_s, fu_fu, iu_iu, iu_s, fu_am, fu_a0, fu_0a, iu_l, Nat.reduceBEq, Int.reduceBEq, T_objInit_e]
    rw [hJd]
    exact ⟨rfl, 0, by omega, congrArg (fun z => [vR o, vI a, vI b, vI 0, vI z]) (by omega), rfl⟩
  · intro cp vs M1 hvs hM1 hlen hJ
    rw [hJd] at hJ
    obtain ⟨rfl, n, h1, rfl, rfl⟩ := hJ
    have hc := cntZ_R (fun i => decide (¬ σ (o + 11) (a + i) = 0)) n
    unfold wps
    simp only [Option.getD_some, List.zip_cons_cons, List.zip_nil_left, List.zip_nil_right, List.zip_nil_right, si_iload_n0, si_iload_n1, si_iload_n2, si_iload_n3, si_iload, si_lload_n0, si_lload_n1, si_lload_n2, si_lload_n3, si_lload, si_aload_n0, si_aload_n1, si_aload_n2, si_aload_n3, si_aload, si_istore_n0, si_istore_n1, si_istore_n2, si_istore_n3, si_istore, si_astore_n0, si_astore_n1, si_astore_n2, si_astore_n3, si_astore, si_lstore_n0, si_lstore_n1, si_lstore_n2, si_lstore_n3, si_lstore, si_iconst, si_bipush, si_sipush, si_ldc, si_ldc2_w, si_lconst0, si_lconst1, si_aconst_null, si_iinc, si_dup, si_dup2, si_iadd, si_isub, si_imul, si_idiv, si_irem, si_iand, si_ior, si_ishl, si_ishr, si_ladd, si_lmul, si_lor, si_lxor, si_lshl, si_lushr, si_lcmp, si_i2b, si_i2l, si_l2i, si_icmp_eq, si_icmp_ne, si_icmp_lt, si_icmp_ge, si_icmp_gt, si_icmp_le, si_if_eq, si_if_ne, si_if_lt, si_if_ge, si_if_gt, si_if_le, si_ifnull, si_ifnonnull, si_goto, si_tableswitch, si_lookupswitch, si_getfield, si_putfield, si_getstatic, si_iaload, si_baload, si_laload, si_aaload, si_iastore, si_bastore, si_lastore, si_aastore, si_arraylength, si_new, si_newarray, si_anewarray, si_invokevirtual, si_invokespecial, si_invokestatic, si_ireturn, si_lreturn, si_areturn, si_return_, pI_e, pL_e, pR_e, pA_r, pA_n, pN_n, pN_r, oI_e, oL_e, oA_r, oA_n, lget_e, lrm1_0, lrm2_0, lrm1_i, lrm1_r, lrm1_n, lrm1_l, lrm2_i, lrm2_r, lrm2_n, lrm2_l, popN_0, popN_s, acat_i, acat_l, acat_r, acat_n, stw_0, stw_s, psh_s, psh_n, wgf_r, wgf_i, wgf_b, wgf_n, wgf_m, wpf_i, wpf_r, wpf_b, wnew_e, callE_e, rbk_0, rbk_1, tsw_0, tsw_s, lsw_0, lsw_s, wp_s, wq_t, wq_f, oV_e, pick_0, pick_s, oZ_e, oY_e, r_Things_countSet_0, r_Things_countSet_1, r_Things_countSet_2, r_Things_countSet_3, r_Things_countSet_5, r_Things_countSet_7, r_Things_countSet_8, r_Things_countSet_11, r_Things_countSet_12, r_Things_countSet_15, r_Things_countSet_17, r_Things_countSet_18, r_Things_countSet_21, r_Things_countSet_24, r_Things_countSet_27, r_Things_countSet_30, r_Things_countSet_31, xf_Things_countSet_43, xd_Things_countSet, xrb_Things_countSet, xin_Things_countSet, lh, lp0, lp1, lp2, lp3, lp4, lp5, lp6, lp7, lp8, lp9, lp10, lp11, lq0, lq1, lq2, lq3, lq4, lq5, lq6, lq7, lq8, lq9, lq10, lq11, Nat.reduceAdd, Nat.reduceMul, Nat.reduceEqDiff, reduceIte, Int.reduceNeg, Int.reduceLE, Int.reduceLT, Int.reduceAdd, Int.reduceSub, Int.reduceToNat, true_and, and_true, inR_e, Nat.reduceLT, Nat.reduceLeDiff, reduceCtorEq, Nat.add_zero, Nat.zero_add, or_false, false_or, or_true, true_or, not_true_eq_false, not_false_eq_true, Classical.not_not, Nat.add_eq_zero_iff, and_false, false_and, Int.reduceEq, List.mem_cons, List.not_mem_nil, forall_eq_or_imp, forall_eq, false_implies, implies_true, forall_const, aargs_0, aargs_i, aargs_r, aargs_l, aargs_n, nfT_e, eq_self, and_self, Nat.le_refl, fu_s, fu_fu, iu_iu, iu_s, fu_am, fu_a0, fu_0a, iu_l, Nat.reduceBEq, Int.reduceBEq, T_objInit_e]
    refine ⟨fun h => ?_, fun h => ⟨by omega, by omega, fun g => ?_, fun g => ?_⟩⟩
    · rw [show (b - a).toNat = n by omega] at hT
      exact hT
    · refine ⟨by omega, ?_, (by rw [hμ]; simp only [gI_e, List.getD_cons_succ, List.getD_cons_zero]; omega)⟩
      rw [hJd]
      refine ⟨rfl, n + 1, by omega, ?_, rfl⟩
      have e : cntZ (fun i => decide (¬ σ (o + 11) (a + i) = 0)) (n + 1) = cntZ (fun i => decide (¬ σ (o + 11) (a + i) = 0)) n := by
        show _ + (if _ then _ else _) = _
        rw [if_neg (by simp [g])]
        omega
      rw [e, show a + (n : Int) + 1 = a + ((n + 1 : Nat) : Int) by omega]
    · refine ⟨by omega, by omega, ?_, (by rw [hμ]; simp only [gI_e, List.getD_cons_succ, List.getD_cons_zero]; omega)⟩
      rw [hJd]
      refine ⟨rfl, n + 1, by omega, ?_, rfl⟩
      have e : cntZ (fun i => decide (¬ σ (o + 11) (a + i) = 0)) (n + 1) = cntZ (fun i => decide (¬ σ (o + 11) (a + i) = 0)) n + 1 := by
        show _ + (if _ then _ else _) = _
        rw [if_pos (by simp [g])]
      rw [e, show a + (n : Int) + 1 = a + ((n + 1 : Nat) : Int) by omega]
def TF_Things_countBelow (o : Nat) (x : Int) (sz sl : Nat) (lay : Nat → Nat × Int) (ρ : Nat → Int → Nat) (σ : Nat → Int → Int) (τ : Nat → Int → Int64) (k : Option AV → Mm → Prop) : Prop := LThings lay ρ o ∧ (0 ≤ σ o 12 ∧ σ o 12 ≤ 600) ∧ ThB σ o ∧ (∀ r, 0 ≤ r ∧ r ≤ σ o 12 → (∀ i, 0 ≤ i ∧ i < r → σ (o + 1) (σ (o + 7) i) < x) → (∀ i, r ≤ i ∧ i < σ o 12 → x ≤ σ (o + 1) (σ (o + 7) i)) → k (some (vI (r))) (sz, sl, lay, ρ, σ, τ))
def T_Things_countBelow : Tr := mkT 7 fun o as M k => pI as fun x as => as = [] ∧ TF_Things_countBelow o x M.1 M.2.1 M.2.2.1 M.2.2.2.1 M.2.2.2.2.1 M.2.2.2.2.2 k
theorem T_Things_countBelow_e {o : Nat} {x : Int} {sz sl : Nat} {lay : Nat → Nat × Int} {ρ : Nat → Int → Nat} {σ : Nat → Int → Int} {τ : Nat → Int → Int64} {k : Option AV → Mm → Prop} : T_Things_countBelow [vR o, vI x] (sz, sl, lay, ρ, σ, τ) k = (lay o = (17, 0) ∧ TF_Things_countBelow o x sz sl lay ρ σ τ k) := by simp [T_Things_countBelow, mkT_e, pI_e, pR_e, pL_e]
theorem T_Things_countBelow_r (as : List AV) (M : Mm) (k : Option AV → Mm → Prop) (h : T_Things_countBelow as M k) : ∃ b As, as = vR b :: As ∧ M.2.2.1 b = (10 + 7, 0) := by
  obtain ⟨b, As, h1, h2, -⟩ := mkT_r h
  exact ⟨b, As, h1, h2⟩
def tb_Things_countBelow : List (Nat × Option (List Nat) × Instr × List Nat) := [(0, none, .iconst 0, []), (1, none, .istore_n 2, []), (2, none, .aload_n 0, []), (3, none, .getfield 49, []), (6, none, .istore_n 3, []), (7, some [0, 1, 2, 3], .iload_n 2, []), (8, none, .iload_n 3, []), (9, none, .if_icmp .ge 53, [62]), (12, none, .iload_n 2, []), (13, none, .iload_n 3, []), (14, none, .iadd, []), (15, none, .iconst 2, []), (16, none, .idiv, []), (17, none, .istore 4, []), (19, none, .aload_n 0, []), (20, none, .getfield 30, []), (23, none, .iload 4, []), (25, none, .iaload, []), (26, none, .istore 5, []), (28, none, .aload_n 0, []), (29, none, .iload 5, []), (31, none, .invokevirtual 90, []), (34, none, .ifCond .eq 22, [56]), (37, none, .aload_n 0, []), (38, none, .getfield 9, []), (41, none, .iload 5, []), (43, none, .iaload, []), (44, none, .iload_n 1, []), (45, none, .if_icmp .ge 11, [56]), (48, none, .iload 4, []), (50, none, .iconst 1, []), (51, none, .iadd, []), (52, none, .istore_n 2, []), (53, none, .goto 6, [59]), (56, none, .iload 4, []), (58, none, .istore_n 3, []), (59, none, .goto (-52), [7]), (62, none, .iload_n 2, []), (63, none, .ireturn, [])]
def P_Things_countBelow : Nat → Option (List Nat) × Instr × List Nat := plk tb_Things_countBelow
theorem r_Things_countBelow_0 : P_Things_countBelow 0 = (none, .iconst 0, []) := by decide +kernel
theorem r_Things_countBelow_1 : P_Things_countBelow 1 = (none, .istore_n 2, []) := by decide +kernel
theorem r_Things_countBelow_2 : P_Things_countBelow 2 = (none, .aload_n 0, []) := by decide +kernel
theorem r_Things_countBelow_3 : P_Things_countBelow 3 = (none, .getfield 49, []) := by decide +kernel
theorem r_Things_countBelow_6 : P_Things_countBelow 6 = (none, .istore_n 3, []) := by decide +kernel
theorem r_Things_countBelow_7 : P_Things_countBelow 7 = (some [0, 1, 2, 3], .iload_n 2, []) := by decide +kernel
theorem r_Things_countBelow_8 : P_Things_countBelow 8 = (none, .iload_n 3, []) := by decide +kernel
theorem r_Things_countBelow_9 : P_Things_countBelow 9 = (none, .if_icmp .ge 53, [62]) := by decide +kernel
theorem r_Things_countBelow_12 : P_Things_countBelow 12 = (none, .iload_n 2, []) := by decide +kernel
theorem r_Things_countBelow_13 : P_Things_countBelow 13 = (none, .iload_n 3, []) := by decide +kernel
theorem r_Things_countBelow_14 : P_Things_countBelow 14 = (none, .iadd, []) := by decide +kernel
theorem r_Things_countBelow_15 : P_Things_countBelow 15 = (none, .iconst 2, []) := by decide +kernel
theorem r_Things_countBelow_16 : P_Things_countBelow 16 = (none, .idiv, []) := by decide +kernel
theorem r_Things_countBelow_17 : P_Things_countBelow 17 = (none, .istore 4, []) := by decide +kernel
theorem r_Things_countBelow_19 : P_Things_countBelow 19 = (none, .aload_n 0, []) := by decide +kernel
theorem r_Things_countBelow_20 : P_Things_countBelow 20 = (none, .getfield 30, []) := by decide +kernel
theorem r_Things_countBelow_23 : P_Things_countBelow 23 = (none, .iload 4, []) := by decide +kernel
theorem r_Things_countBelow_25 : P_Things_countBelow 25 = (none, .iaload, []) := by decide +kernel
theorem r_Things_countBelow_26 : P_Things_countBelow 26 = (none, .istore 5, []) := by decide +kernel
theorem r_Things_countBelow_28 : P_Things_countBelow 28 = (none, .aload_n 0, []) := by decide +kernel
theorem r_Things_countBelow_29 : P_Things_countBelow 29 = (none, .iload 5, []) := by decide +kernel
theorem r_Things_countBelow_31 : P_Things_countBelow 31 = (none, .invokevirtual 90, []) := by decide +kernel
theorem r_Things_countBelow_34 : P_Things_countBelow 34 = (none, .ifCond .eq 22, [56]) := by decide +kernel
theorem r_Things_countBelow_37 : P_Things_countBelow 37 = (none, .aload_n 0, []) := by decide +kernel
theorem r_Things_countBelow_38 : P_Things_countBelow 38 = (none, .getfield 9, []) := by decide +kernel
theorem r_Things_countBelow_41 : P_Things_countBelow 41 = (none, .iload 5, []) := by decide +kernel
theorem r_Things_countBelow_43 : P_Things_countBelow 43 = (none, .iaload, []) := by decide +kernel
theorem r_Things_countBelow_44 : P_Things_countBelow 44 = (none, .iload_n 1, []) := by decide +kernel
theorem r_Things_countBelow_45 : P_Things_countBelow 45 = (none, .if_icmp .ge 11, [56]) := by decide +kernel
theorem r_Things_countBelow_48 : P_Things_countBelow 48 = (none, .iload 4, []) := by decide +kernel
theorem r_Things_countBelow_50 : P_Things_countBelow 50 = (none, .iconst 1, []) := by decide +kernel
theorem r_Things_countBelow_51 : P_Things_countBelow 51 = (none, .iadd, []) := by decide +kernel
theorem r_Things_countBelow_52 : P_Things_countBelow 52 = (none, .istore_n 2, []) := by decide +kernel
theorem r_Things_countBelow_53 : P_Things_countBelow 53 = (none, .goto 6, [59]) := by decide +kernel
theorem r_Things_countBelow_56 : P_Things_countBelow 56 = (none, .iload 4, []) := by decide +kernel
theorem r_Things_countBelow_58 : P_Things_countBelow 58 = (none, .istore_n 3, []) := by decide +kernel
theorem r_Things_countBelow_59 : P_Things_countBelow 59 = (none, .goto (-52), [7]) := by decide +kernel
theorem r_Things_countBelow_62 : P_Things_countBelow 62 = (none, .iload_n 2, []) := by decide +kernel
theorem r_Things_countBelow_63 : P_Things_countBelow 63 = (none, .ireturn, []) := by decide +kernel
def E_Things_countBelow : List (Nat × Ent) := [(360, (2, 0, 0, 0, T_Things_has))]
def X_Things_countBelow : Cx := (llk (0, 0, 9) ftX7, llk 99 ntX7, llk none kcX7, llk none klX7, llk dEnt E_Things_countBelow, 1, 0, false)
theorem xok_Things_countBelow : Xok RX7 X_Things_countBelow := xok_of ftX7_ok ntX7_ok kcX7_ok klX7_ok (E := E_Things_countBelow) (List.forall_mem_cons.mpr ⟨co_X7_360, fun _ h => absurd h List.not_mem_nil⟩)
theorem xf_Things_countBelow_9 : xfl X_Things_countBelow 9 = (7, 0, 1) := by decide +kernel
theorem xf_Things_countBelow_30 : xfl X_Things_countBelow 30 = (7, 6, 1) := by decide +kernel
theorem xf_Things_countBelow_49 : xfl X_Things_countBelow 49 = (7, 12, 0) := by decide +kernel
theorem xe_Things_countBelow_360 : xE X_Things_countBelow (4 * 90 + 0) = (2, 0, 0, 0, T_Things_has) := rfl
theorem xd_Things_countBelow : xd X_Things_countBelow = 1 := rfl
theorem xrb_Things_countBelow : xrb X_Things_countBelow = 0 := rfl
theorem xin_Things_countBelow : xin X_Things_countBelow = false := rfl
set_option maxHeartbeats 4000000 in
set_option maxRecDepth 100000 in
theorem S_Things_countBelow : Snd yX7_countBelow cX7_countBelow 6 (some .int) T_Things_countBelow 1 0 0 := by
  refine snd_of (X := X_Things_countBelow) (P := P_Things_countBelow) (tb := tb_Things_countBelow) (own := RX7) (by decide) rfl rfl (by decide +kernel) xok_Things_countBelow rfl rk0 (fun h => by first | rfl | cases h) ?_
  intro as M k has hM hT0
  obtain ⟨sz, sl, lay, ρ, σ, τ⟩ := M
  obtain ⟨o, as1, e, hlo, hT1⟩ := mkT_r hT0
  clear hT0
  subst e
  obtain ⟨x, as2, e, hT2⟩ := pI_x hT1
  clear hT1
  subst e
  obtain ⟨e, hT⟩ := hT2
  subst e
  replace hlo : lay o = (17, 0) := hlo
  have r_x : -2147483648 ≤ x ∧ x ≤ 2147483647 := has (vI x) (by simp)
  clear has
  replace hM : ∀ a i, -2147483648 ≤ σ a i ∧ σ a i ≤ 2147483647 := hM
  replace hT : TF_Things_countBelow o x sz sl lay ρ σ τ k := hT
  unfold TF_Things_countBelow at hT
  obtain ⟨hL, hn, hB, hT⟩ := hT
  obtain ⟨lh, lp0, lp1, lp2, lp3, lp4, lp5, lp6, lp7, lp8, lp9, lp10, lp11, lq0, lq1, lq2, lq3, lq4, lq5, lq6, lq7, lq8, lq9, lq10, lq11⟩ := (show LThings lay ρ _ from hL)
  obtain ⟨J, hJd⟩ : ∃ J : Nat → List AV → Mm → Prop, J = (fun c vs M1 => c = 7 ∧ ∃ a b : Int, (0 ≤ a ∧ a ≤ b ∧ b ≤ σ o 12) ∧ (∀ i, 0 ≤ i ∧ i < a → σ (o + 1) (σ (o + 7) i) < x) ∧ (∀ i, b ≤ i ∧ i < σ o 12 → x ≤ σ (o + 1) (σ (o + 7) i)) ∧ vs = [vR o, vI x, vI a, vI b] ∧ M1 = (sz, sl, lay, ρ, σ, τ)) := ⟨_, rfl⟩
  obtain ⟨μ, hμ⟩ : ∃ μ : Nat → List AV → Mm → Nat, μ = (fun _ vs _ => (gI (vs.getD 3 vN) - gI (vs.getD 2 vN)).toNat) := ⟨_, rfl⟩
  refine ⟨Nat.le_of_ble_eq_true rfl, J, μ, 47, ?_, ?_⟩
  · unfold wps
    simp only [si_iload_n0, si_iload_n1, si_iload_n2, si_iload_n3, si_iload, si_lload_n0, si_lload_n1, si_lload_n2, si_lload_n3, si_lload, si_aload_n0, si_aload_n1, si_aload_n2, si_aload_n3, si_aload, si_istore_n0, si_istore_n1, si_istore_n2, si_istore_n3, si_istore, si_astore_n0, si_astore_n1, si_astore_n2, si_astore_n3, si_astore, si_lstore_n0, si_lstore_n1, si_lstore_n2, si_lstore_n3, si_lstore, si_iconst, si_bipush, si_sipush, si_ldc, si_ldc2_w, si_lconst0, si_lconst1, si_aconst_null, si_iinc, si_dup, si_dup2, si_iadd, si_isub, si_imul, si_idiv, si_irem, si_iand, si_ior, si_ishl, si_ishr, si_ladd, si_lmul, si_lor, si_lxor, si_lshl, si_lushr, si_lcmp, si_i2b, si_i2l, si_l2i, si_icmp_eq, si_icmp_ne, si_icmp_lt, si_icmp_ge, si_icmp_gt, si_icmp_le, si_if_eq, si_if_ne, si_if_lt, si_if_ge, si_if_gt, si_if_le, si_ifnull, si_ifnonnull, si_goto, si_tableswitch, si_lookupswitch, si_getfield, si_putfield, si_getstatic, si_iaload, si_baload, si_laload, si_aaload, si_iastore, si_bastore, si_lastore, si_aastore, si_arraylength, si_new, si_newarray, si_anewarray, si_invokevirtual, si_invokespecial, si_invokestatic, si_ireturn, si_lreturn, si_areturn, si_return_, pI_e, pL_e, pR_e, pA_r, pA_n, pN_n, pN_r, oI_e, oL_e, oA_r, oA_n, lget_e, lrm1_0, lrm2_0, lrm1_i, lrm1_r, lrm1_n, lrm1_l, lrm2_i, lrm2_r, lrm2_n, lrm2_l, popN_0, popN_s, acat_i, acat_l, acat_r, acat_n, stw_0, stw_s, psh_s, psh_n, wgf_r, wgf_i, wgf_b, wgf_n, wgf_m, wpf_i, wpf_r, wpf_b, wnew_e, callE_e, rbk_0, rbk_1, tsw_0, tsw_s, lsw_0, lsw_s, wp_s, wq_t, wq_f, oV_e, pick_0, pick_s, oZ_e, oY_e, r_Things_countBelow_0, r_Things_countBelow_1, r_Things_countBelow_2, r_Things_countBelow_3, r_Things_countBelow_6, r_Things_countBelow_7, r_Things_countBelow_8, r_Things_countBelow_9, r_Things_countBelow_12, r_Things_countBelow_13, r_Things_countBelow_14, r_Things_countBelow_15, r_Things_countBelow_16, r_Things_countBelow_17, r_Things_countBelow_19, r_Things_countBelow_20, r_Things_countBelow_23, r_Things_countBelow_25, r_Things_countBelow_26, r_Things_countBelow_28, r_Things_countBelow_29, r_Things_countBelow_31, r_Things_countBelow_34, r_Things_countBelow_37, r_Things_countBelow_38, r_Things_countBelow_41, r_Things_countBelow_43, r_Things_countBelow_44, r_Things_countBelow_45, r_Things_countBelow_48, r_Things_countBelow_50, r_Things_countBelow_51, r_Things_countBelow_52, r_Things_countBelow_53, r_Things_countBelow_56, r_Things_countBelow_58, r_Things_countBelow_59, r_Things_countBelow_62, r_Things_countBelow_63, xf_Things_countBelow_9, xf_Things_countBelow_30, xf_Things_countBelow_49, xe_Things_countBelow_360, xd_Things_countBelow, xrb_Things_countBelow, xin_Things_countBelow, T_Things_has_e, TF_Things_has, lh, lp0, lp1, lp2, lp3, lp4, lp5, lp6, lp7, lp8, lp9, lp10, lp11, lq0, lq1, lq2, lq3, lq4, lq5, lq6, lq7, lq8, lq9, lq10, lq11, Nat.reduceAdd, Nat.reduceMul, Nat.reduceEqDiff, reduceIte, Int.reduceNeg, Int.reduceLE, Int.reduceLT, Int.reduceAdd, Int.reduceSub, Int.reduceToNat, true_and, and_true, inR_e, Nat.reduceLT, Nat.reduceLeDiff, reduceCtorEq, Nat.add_zero, Nat.zero_add, or_false, false_or, or_true, true_or, not_true_eq_false, not_false_eq_true, Classical.not_not, Nat.add_eq_zero_iff, and_false, false_and, Int.reduceEq, List.mem_cons, List.not_mem_nil, forall_eq_or_imp, forall_eq, false_implies, implies_true, forall_const, aargs_0, aargs_i, aargs_r, aargs_l, aargs_n, nfT_e, eq_self, and_self, Nat.le_refl, fu_s, fu_fu, iu_iu, iu_s, fu_am, fu_a0, fu_0a, iu_l, Nat.reduceBEq, Int.reduceBEq, T_objInit_e]
    rw [hJd]
    exact ⟨rfl, 0, σ o 12, by omega, (fun i h => by omega), (fun i h => by omega), rfl, rfl⟩
  · intro cp vs M1 hvs hM1 hlen hJ
    rw [hJd] at hJ
    obtain ⟨rfl, a, b, h1, h2, h3, rfl, rfl⟩ := hJ
    unfold wps
    simp only [Option.getD_some, List.zip_cons_cons, List.zip_nil_left, List.zip_nil_right, List.zip_nil_right, si_iload_n0, si_iload_n1, si_iload_n2, si_iload_n3, si_iload, si_lload_n0, si_lload_n1, si_lload_n2, si_lload_n3, si_lload, si_aload_n0, si_aload_n1, si_aload_n2, si_aload_n3, si_aload, si_istore_n0, si_istore_n1, si_istore_n2, si_istore_n3, si_istore, si_astore_n0, si_astore_n1, si_astore_n2, si_astore_n3, si_astore, si_lstore_n0, si_lstore_n1, si_lstore_n2, si_lstore_n3, si_lstore, si_iconst, si_bipush, si_sipush, si_ldc, si_ldc2_w, si_lconst0, si_lconst1, si_aconst_null, si_iinc, si_dup, si_dup2, si_iadd, si_isub, si_imul, si_idiv, si_irem, si_iand, si_ior, si_ishl, si_ishr, si_ladd, si_lmul, si_lor, si_lxor, si_lshl, si_lushr, si_lcmp, si_i2b, si_i2l, si_l2i, si_icmp_eq, si_icmp_ne, si_icmp_lt, si_icmp_ge, si_icmp_gt, si_icmp_le, si_if_eq, si_if_ne, si_if_lt, si_if_ge, si_if_gt, si_if_le, si_ifnull, si_ifnonnull, si_goto, si_tableswitch, si_lookupswitch, si_getfield, si_putfield, si_getstatic, si_iaload, si_baload, si_laload, si_aaload, si_iastore, si_bastore, si_lastore, si_aastore, si_arraylength, si_new, si_newarray, si_anewarray, si_invokevirtual, si_invokespecial, si_invokestatic, si_ireturn, si_lreturn, si_areturn, si_return_, pI_e, pL_e, pR_e, pA_r, pA_n, pN_n, pN_r, oI_e, oL_e, oA_r, oA_n, lget_e, lrm1_0, lrm2_0, lrm1_i, lrm1_r, lrm1_n, lrm1_l, lrm2_i, lrm2_r, lrm2_n, lrm2_l, popN_0, popN_s, acat_i, acat_l, acat_r, acat_n, stw_0, stw_s, psh_s, psh_n, wgf_r, wgf_i, wgf_b, wgf_n, wgf_m, wpf_i, wpf_r, wpf_b, wnew_e, callE_e, rbk_0, rbk_1, tsw_0, tsw_s, lsw_0, lsw_s, wp_s, wq_t, wq_f, oV_e, pick_0, pick_s, oZ_e, oY_e, r_Things_countBelow_0, r_Things_countBelow_1, r_Things_countBelow_2, r_Things_countBelow_3, r_Things_countBelow_6, r_Things_countBelow_7, r_Things_countBelow_8, r_Things_countBelow_9, r_Things_countBelow_12, r_Things_countBelow_13, r_Things_countBelow_14, r_Things_countBelow_15, r_Things_countBelow_16, r_Things_countBelow_17, r_Things_countBelow_19, r_Things_countBelow_20, r_Things_countBelow_23, r_Things_countBelow_25, r_Things_countBelow_26, r_Things_countBelow_28, r_Things_countBelow_29, r_Things_countBelow_31, r_Things_countBelow_34, r_Things_countBelow_37, r_Things_countBelow_38, r_Things_countBelow_41, r_Things_countBelow_43, r_Things_countBelow_44, r_Things_countBelow_45, r_Things_countBelow_48, r_Things_countBelow_50, r_Things_countBelow_51, r_Things_countBelow_52, r_Things_countBelow_53, r_Things_countBelow_56, r_Things_countBelow_58, r_Things_countBelow_59, r_Things_countBelow_62, r_Things_countBelow_63, xf_Things_countBelow_9, xf_Things_countBelow_30, xf_Things_countBelow_49, xe_Things_countBelow_360, xd_Things_countBelow, xrb_Things_countBelow, xin_Things_countBelow, T_Things_has_e, TF_Things_has, lh, lp0, lp1, lp2, lp3, lp4, lp5, lp6, lp7, lp8, lp9, lp10, lp11, lq0, lq1, lq2, lq3, lq4, lq5, lq6, lq7, lq8, lq9, lq10, lq11, Nat.reduceAdd, Nat.reduceMul, Nat.reduceEqDiff, reduceIte, Int.reduceNeg, Int.reduceLE, Int.reduceLT, Int.reduceAdd, Int.reduceSub, Int.reduceToNat, true_and, and_true, inR_e, Nat.reduceLT, Nat.reduceLeDiff, reduceCtorEq, Nat.add_zero, Nat.zero_add, or_false, false_or, or_true, true_or, not_true_eq_false, not_false_eq_true, Classical.not_not, Nat.add_eq_zero_iff, and_false, false_and, Int.reduceEq, List.mem_cons, List.not_mem_nil, forall_eq_or_imp, forall_eq, false_implies, implies_true, forall_const, aargs_0, aargs_i, aargs_r, aargs_l, aargs_n, nfT_e, eq_self, and_self, Nat.le_refl, fu_s, fu_fu, iu_iu, iu_s, fu_am, fu_a0, fu_0a, iu_l, Nat.reduceBEq, Int.reduceBEq, T_objInit_e]
    refine ⟨fun h => ?_, fun h => ?_⟩
    · exact hT a (by omega) h2 (fun i hi => h3 i (by omega))
    · have hm := hB.1 ((a + b) / 2) (by omega)
      refine ⟨by omega, by omega, by omega, by omega, fun _ => ⟨by omega, by omega, fun g => ?_, fun g => ?_⟩, fun g => absurd hm g⟩
      · refine ⟨?_, (by rw [hμ]; simp only [gI_e, List.getD_cons_succ, List.getD_cons_zero]; omega)⟩
        rw [hJd]
        refine ⟨rfl, a, (a + b) / 2, by omega, h2, fun i hi => ?_, rfl, rfl⟩
        by_cases e : i = (a + b) / 2
        · rw [e]; exact g
        · have := hB.2.1 ((a + b) / 2) i (by omega)
          omega
      · refine ⟨by omega, ?_, (by rw [hμ]; simp only [gI_e, List.getD_cons_succ, List.getD_cons_zero]; omega)⟩
        rw [hJd]
        refine ⟨rfl, (a + b) / 2 + 1, b, by omega, fun i hi => ?_, h3, rfl, rfl⟩
        by_cases e : i = (a + b) / 2
        · rw [e]; omega
        · have := hB.2.1 i ((a + b) / 2) (by omega)
          omega
theorem co_X7_324 : CallOK RX7 (.invokevirtual 81) (2, 1, 0, 0, T_Things_countBelow) := call_V S_Things_countBelow (by decide) (ci := 7) rfl (by decide +kernel) (by decide +kernel) (by decide +kernel) (by decide +kernel) (by decide +kernel) (by decide +kernel) T_Things_countBelow_r
def TF_Things_find (o : Nat) (x : Int) (sz sl : Nat) (lay : Nat → Nat × Int) (ρ : Nat → Int → Nat) (σ : Nat → Int → Int) (τ : Nat → Int → Int64) (k : Option AV → Mm → Prop) : Prop := LThings lay ρ o ∧ (0 ≤ σ o 12 ∧ σ o 12 ≤ 600) ∧ ThB σ o ∧ (∀ i, (0 ≤ i ∧ i < σ o 12) ∧ σ (o + 1) i = x → k (some (vI (i))) (sz, sl, lay, ρ, σ, τ)) ∧ ((∀ i, 0 ≤ i ∧ i < σ o 12 → ¬ σ (o + 1) i = x) → k (some (vI (-1))) (sz, sl, lay, ρ, σ, τ))
def T_Things_find : Tr := mkT 7 fun o as M k => pI as fun x as => as = [] ∧ TF_Things_find o x M.1 M.2.1 M.2.2.1 M.2.2.2.1 M.2.2.2.2.1 M.2.2.2.2.2 k
theorem T_Things_find_e {o : Nat} {x : Int} {sz sl : Nat} {lay : Nat → Nat × Int} {ρ : Nat → Int → Nat} {σ : Nat → Int → Int} {τ : Nat → Int → Int64} {k : Option AV → Mm → Prop} : T_Things_find [vR o, vI x] (sz, sl, lay, ρ, σ, τ) k = (lay o = (17, 0) ∧ TF_Things_find o x sz sl lay ρ σ τ k) := by simp [T_Things_find, mkT_e, pI_e, pR_e, pL_e]
theorem T_Things_find_r (as : List AV) (M : Mm) (k : Option AV → Mm → Prop) (h : T_Things_find as M k) : ∃ b As, as = vR b :: As ∧ M.2.2.1 b = (10 + 7, 0) := by
  obtain ⟨b, As, h1, h2, -⟩ := mkT_r h
  exact ⟨b, As, h1, h2⟩
def tb_Things_find : List (Nat × Option (List Nat) × Instr × List Nat) := [(0, none, .aload_n 0, []), (1, none, .aload_n 0, []), (2, none, .iload_n 1, []), (3, none, .invokevirtual 81, []), (6, none, .invokevirtual 94, []), (9, none, .istore_n 2, []), (10, none, .aload_n 0, []), (11, none, .iload_n 2, []), (12, none, .invokevirtual 97, []), (15, none, .iload_n 1, []), (16, none, .if_icmp .ne 7, [23]), (19, none, .iload_n 2, []), (20, none, .goto 4, [24]), (23, none, .iconst (-1), []), (24, none, .ireturn, [])]
def P_Things_find : Nat → Option (List Nat) × Instr × List Nat := plk tb_Things_find
theorem r_Things_find_0 : P_Things_find 0 = (none, .aload_n 0, []) := by decide +kernel
theorem r_Things_find_1 : P_Things_find 1 = (none, .aload_n 0, []) := by decide +kernel
theorem r_Things_find_2 : P_Things_find 2 = (none, .iload_n 1, []) := by decide +kernel
theorem r_Things_find_3 : P_Things_find 3 = (none, .invokevirtual 81, []) := by decide +kernel
theorem r_Things_find_6 : P_Things_find 6 = (none, .invokevirtual 94, []) := by decide +kernel
theorem r_Things_find_9 : P_Things_find 9 = (none, .istore_n 2, []) := by decide +kernel
theorem r_Things_find_10 : P_Things_find 10 = (none, .aload_n 0, []) := by decide +kernel
theorem r_Things_find_11 : P_Things_find 11 = (none, .iload_n 2, []) := by decide +kernel
theorem r_Things_find_12 : P_Things_find 12 = (none, .invokevirtual 97, []) := by decide +kernel
theorem r_Things_find_15 : P_Things_find 15 = (none, .iload_n 1, []) := by decide +kernel
theorem r_Things_find_16 : P_Things_find 16 = (none, .if_icmp .ne 7, [23]) := by decide +kernel
theorem r_Things_find_19 : P_Things_find 19 = (none, .iload_n 2, []) := by decide +kernel
theorem r_Things_find_20 : P_Things_find 20 = (none, .goto 4, [24]) := by decide +kernel
theorem r_Things_find_23 : P_Things_find 23 = (none, .iconst (-1), []) := by decide +kernel
theorem r_Things_find_24 : P_Things_find 24 = (none, .ireturn, []) := by decide +kernel
def E_Things_find : List (Nat × Ent) := [(324, (2, 1, 0, 0, T_Things_countBelow)), (376, (2, 1, 0, 0, T_Things_idByRank)), (388, (2, 1, 0, 0, T_Things_numberOf))]
def X_Things_find : Cx := (llk (0, 0, 9) ftX7, llk 99 ntX7, llk none kcX7, llk none klX7, llk dEnt E_Things_find, 2, 0, false)
theorem xok_Things_find : Xok RX7 X_Things_find := xok_of ftX7_ok ntX7_ok kcX7_ok klX7_ok (E := E_Things_find) (List.forall_mem_cons.mpr ⟨co_X7_324, List.forall_mem_cons.mpr ⟨co_X7_376, List.forall_mem_cons.mpr ⟨co_X7_388, fun _ h => absurd h List.not_mem_nil⟩⟩⟩)
theorem xe_Things_find_324 : xE X_Things_find (4 * 81 + 0) = (2, 1, 0, 0, T_Things_countBelow) := rfl
theorem xe_Things_find_376 : xE X_Things_find (4 * 94 + 0) = (2, 1, 0, 0, T_Things_idByRank) := rfl
theorem xe_Things_find_388 : xE X_Things_find (4 * 97 + 0) = (2, 1, 0, 0, T_Things_numberOf) := rfl
theorem xd_Things_find : xd X_Things_find = 2 := rfl
theorem xrb_Things_find : xrb X_Things_find = 0 := rfl
theorem xin_Things_find : xin X_Things_find = false := rfl
set_option maxHeartbeats 4000000 in
set_option maxRecDepth 100000 in
theorem S_Things_find : Snd yX7_find cX7_find 3 (some .int) T_Things_find 2 0 0 := by
  refine snd_of (X := X_Things_find) (P := P_Things_find) (tb := tb_Things_find) (own := RX7) (by decide) rfl rfl (by decide +kernel) xok_Things_find rfl rk0 (fun h => by first | rfl | cases h) ?_
  intro as M k has hM hT0
  obtain ⟨sz, sl, lay, ρ, σ, τ⟩ := M
  obtain ⟨o, as1, e, hlo, hT1⟩ := mkT_r hT0
  clear hT0
  subst e
  obtain ⟨x, as2, e, hT2⟩ := pI_x hT1
  clear hT1
  subst e
  obtain ⟨e, hT⟩ := hT2
  subst e
  replace hlo : lay o = (17, 0) := hlo
  have r_x : -2147483648 ≤ x ∧ x ≤ 2147483647 := has (vI x) (by simp)
  clear has
  replace hM : ∀ a i, -2147483648 ≤ σ a i ∧ σ a i ≤ 2147483647 := hM
  replace hT : TF_Things_find o x sz sl lay ρ σ τ k := hT
  unfold TF_Things_find at hT
  obtain ⟨hL, hn, hB, h1, h0⟩ := hT
  obtain ⟨lh, lp0, lp1, lp2, lp3, lp4, lp5, lp6, lp7, lp8, lp9, lp10, lp11, lq0, lq1, lq2, lq3, lq4, lq5, lq6, lq7, lq8, lq9, lq10, lq11⟩ := (show LThings lay ρ _ from hL)
  refine ⟨Nat.le_of_ble_eq_true rfl, fun _ _ _ => False, fun _ _ _ => 0, 23, ?_, fun _ _ _ _ _ _ h => h.elim⟩
  unfold wps
  simp only [si_iload_n0, si_iload_n1, si_iload_n2, si_iload_n3, si_iload, si_lload_n0, si_lload_n1, si_lload_n2, si_lload_n3, si_lload, si_aload_n0, si_aload_n1, si_aload_n2, si_aload_n3, si_aload, si_istore_n0, si_istore_n1, si_istore_n2, si_istore_n3, si_istore, si_astore_n0, si_astore_n1, si_astore_n2, si_astore_n3, si_astore, si_lstore_n0, si_lstore_n1, si_lstore_n2, si_lstore_n3, si_lstore, si_iconst, si_bipush, si_sipush, si_ldc, si_ldc2_w, si_lconst0, si_lconst1, si_aconst_null, si_iinc, si_dup, si_dup2, si_iadd, si_isub, si_imul, si_idiv, si_irem, si_iand, si_ior, si_ishl, si_ishr, si_ladd, si_lmul, si_lor, si_lxor, si_lshl, si_lushr, si_lcmp, si_i2b, si_i2l, si_l2i, si_icmp_eq, si_icmp_ne, si_icmp_lt, si_icmp_ge, si_icmp_gt, si_icmp_le, si_if_eq, si_if_ne, si_if_lt, si_if_ge, si_if_gt, si_if_le, si_ifnull, si_ifnonnull, si_goto, si_tableswitch, si_lookupswitch, si_getfield, si_putfield, si_getstatic, si_iaload, si_baload, si_laload, si_aaload, si_iastore, si_bastore, si_lastore, si_aastore, si_arraylength, si_new, si_newarray, si_anewarray, si_invokevirtual, si_invokespecial, si_invokestatic, si_ireturn, si_lreturn, si_areturn, si_return_, pI_e, pL_e, pR_e, pA_r, pA_n, pN_n, pN_r, oI_e, oL_e, oA_r, oA_n, lget_e, lrm1_0, lrm2_0, lrm1_i, lrm1_r, lrm1_n, lrm1_l, lrm2_i, lrm2_r, lrm2_n, lrm2_l, popN_0, popN_s, acat_i, acat_l, acat_r, acat_n, stw_0, stw_s, psh_s, psh_n, wgf_r, wgf_i, wgf_b, wgf_n, wgf_m, wpf_i, wpf_r, wpf_b, wnew_e, callE_e, rbk_0, rbk_1, tsw_0, tsw_s, lsw_0, lsw_s, wp_s, wq_t, wq_f, oV_e, pick_0, pick_s, oZ_e, oY_e, r_Things_find_0, r_Things_find_1, r_Things_find_2, r_Things_find_3, r_Things_find_6, r_Things_find_9, r_Things_find_10, r_Things_find_11, r_Things_find_12, r_Things_find_15, r_Things_find_16, r_Things_find_19, r_Things_find_20, r_Things_find_23, r_Things_find_24, xe_Things_find_324, xe_Things_find_376, xe_Things_find_388, xd_Things_find, xrb_Things_find, xin_Things_find, T_Things_countBelow_e, TF_Things_countBelow, T_Things_idByRank_e, TF_Things_idByRank, T_Things_numberOf_e, TF_Things_numberOf, lh, lp0, lp1, lp2, lp3, lp4, lp5, lp6, lp7, lp8, lp9, lp10, lp11, lq0, lq1, lq2, lq3, lq4, lq5, lq6, lq7, lq8, lq9, lq10, lq11, Nat.reduceAdd, Nat.reduceMul, Nat.reduceEqDiff, reduceIte, Int.reduceNeg, Int.reduceLE, Int.reduceLT, Int.reduceAdd, Int.reduceSub, Int.reduceToNat, true_and, and_true, inR_e, Nat.reduceLT, Nat.reduceLeDiff, reduceCtorEq, Nat.add_zero, Nat.zero_add, or_false, false_or, or_true, true_or, not_true_eq_false, not_false_eq_true, Classical.not_not, Nat.add_eq_zero_iff, and_false, false_and, Int.reduceEq, List.mem_cons, List.not_mem_nil, forall_eq_or_imp, forall_eq, false_implies, implies_true, forall_const, aargs_0, aargs_i, aargs_r, aargs_l, aargs_n, nfT_e, eq_self, and_self, Nat.le_refl, fu_s, fu_fu, iu_iu, iu_s, fu_am, fu_a0, fu_0a, iu_l, Nat.reduceBEq, Int.reduceBEq, T_objInit_e]
  refine ⟨hL, hn, hB, fun r hr a1 a2 => ⟨hL, hn, fun b => ?_, fun b => ?_⟩⟩
  · have hm := hB.1 r (by omega)
    refine ⟨hL, hn, fun _ => ⟨fun c => ?_, fun c => ?_⟩, fun c => absurd hm c⟩
    · refine h0 (fun i hi e => ?_)
      obtain ⟨s, hs, es⟩ := hB.2.2 i hi
      have q1 := a1 s
      have q2 := a2 s
      rw [es] at q1 q2
      have q3 : s = r ∨ r < s := by omega
      rcases q3 with q3 | q3
      · subst q3; rw [es] at c; exact c e
      · have := hB.2.1 r s (by omega)
        have q4 := a2 r (by omega)
        rw [es] at this
        omega
    · exact h1 _ ⟨hm, c⟩
  · have hh := h0 (fun i hi e => by
      obtain ⟨s, hs, es⟩ := hB.2.2 i hi
      have q1 := a1 s (by omega)
      rw [es] at q1
      omega)
    refine ⟨hL, hn, ?_⟩
    repeat' (first | exact hh | intro _ | apply And.intro)
theorem co_X7_276 : CallOK RX7 (.invokevirtual 69) (2, 2, 0, 0, T_Things_find) := call_V S_Things_find (by decide) (ci := 7) rfl (by decide +kernel) (by decide +kernel) (by decide +kernel) (by decide +kernel) (by decide +kernel) (by decide +kernel) T_Things_find_r
def TF_Things_admits (o : Nat) (x : Int) (sz sl : Nat) (lay : Nat → Nat × Int) (ρ : Nat → Int → Nat) (σ : Nat → Int → Int) (τ : Nat → Int → Int64) (k : Option AV → Mm → Prop) : Prop := LThings lay ρ o ∧ (0 ≤ σ o 12 ∧ σ o 12 ≤ 600) ∧ ThB σ o ∧ (1 ≤ x ∧ σ o 12 < 600 ∧ (∀ i, 0 ≤ i ∧ i < σ o 12 → ¬ σ (o + 1) i = x) → k (some (vI (1))) (sz, sl, lay, ρ, σ, τ)) ∧ (¬ (1 ≤ x ∧ σ o 12 < 600 ∧ (∀ i, 0 ≤ i ∧ i < σ o 12 → ¬ σ (o + 1) i = x)) → k (some (vI (0))) (sz, sl, lay, ρ, σ, τ))
def T_Things_admits : Tr := mkT 7 fun o as M k => pI as fun x as => as = [] ∧ TF_Things_admits o x M.1 M.2.1 M.2.2.1 M.2.2.2.1 M.2.2.2.2.1 M.2.2.2.2.2 k
theorem T_Things_admits_e {o : Nat} {x : Int} {sz sl : Nat} {lay : Nat → Nat × Int} {ρ : Nat → Int → Nat} {σ : Nat → Int → Int} {τ : Nat → Int → Int64} {k : Option AV → Mm → Prop} : T_Things_admits [vR o, vI x] (sz, sl, lay, ρ, σ, τ) k = (lay o = (17, 0) ∧ TF_Things_admits o x sz sl lay ρ σ τ k) := by simp [T_Things_admits, mkT_e, pI_e, pR_e, pL_e]
theorem T_Things_admits_r (as : List AV) (M : Mm) (k : Option AV → Mm → Prop) (h : T_Things_admits as M k) : ∃ b As, as = vR b :: As ∧ M.2.2.1 b = (10 + 7, 0) := by
  obtain ⟨b, As, h1, h2, -⟩ := mkT_r h
  exact ⟨b, As, h1, h2⟩
def tb_Things_admits : List (Nat × Option (List Nat) × Instr × List Nat) := [(0, none, .iload_n 1, []), (1, none, .iconst 1, []), (2, none, .if_icmp .lt 26, [28]), (5, none, .aload_n 0, []), (6, none, .getfield 49, []), (9, none, .sipush 600, []), (12, none, .if_icmp .ge 16, [28]), (15, none, .aload_n 0, []), (16, none, .iload_n 1, []), (17, none, .invokevirtual 69, []), (20, none, .iconst (-1), []), (21, none, .if_icmp .ne 7, [28]), (24, none, .iconst 1, []), (25, none, .goto 4, [29]), (28, none, .iconst 0, []), (29, none, .ireturn, [])]
def P_Things_admits : Nat → Option (List Nat) × Instr × List Nat := plk tb_Things_admits
theorem r_Things_admits_0 : P_Things_admits 0 = (none, .iload_n 1, []) := by decide +kernel
theorem r_Things_admits_1 : P_Things_admits 1 = (none, .iconst 1, []) := by decide +kernel
theorem r_Things_admits_2 : P_Things_admits 2 = (none, .if_icmp .lt 26, [28]) := by decide +kernel
theorem r_Things_admits_5 : P_Things_admits 5 = (none, .aload_n 0, []) := by decide +kernel
theorem r_Things_admits_6 : P_Things_admits 6 = (none, .getfield 49, []) := by decide +kernel
theorem r_Things_admits_9 : P_Things_admits 9 = (none, .sipush 600, []) := by decide +kernel
theorem r_Things_admits_12 : P_Things_admits 12 = (none, .if_icmp .ge 16, [28]) := by decide +kernel
theorem r_Things_admits_15 : P_Things_admits 15 = (none, .aload_n 0, []) := by decide +kernel
theorem r_Things_admits_16 : P_Things_admits 16 = (none, .iload_n 1, []) := by decide +kernel
theorem r_Things_admits_17 : P_Things_admits 17 = (none, .invokevirtual 69, []) := by decide +kernel
theorem r_Things_admits_20 : P_Things_admits 20 = (none, .iconst (-1), []) := by decide +kernel
theorem r_Things_admits_21 : P_Things_admits 21 = (none, .if_icmp .ne 7, [28]) := by decide +kernel
theorem r_Things_admits_24 : P_Things_admits 24 = (none, .iconst 1, []) := by decide +kernel
theorem r_Things_admits_25 : P_Things_admits 25 = (none, .goto 4, [29]) := by decide +kernel
theorem r_Things_admits_28 : P_Things_admits 28 = (none, .iconst 0, []) := by decide +kernel
theorem r_Things_admits_29 : P_Things_admits 29 = (none, .ireturn, []) := by decide +kernel
def E_Things_admits : List (Nat × Ent) := [(276, (2, 2, 0, 0, T_Things_find))]
def X_Things_admits : Cx := (llk (0, 0, 9) ftX7, llk 99 ntX7, llk none kcX7, llk none klX7, llk dEnt E_Things_admits, 3, 1, false)
theorem xok_Things_admits : Xok RX7 X_Things_admits := xok_of ftX7_ok ntX7_ok kcX7_ok klX7_ok (E := E_Things_admits) (List.forall_mem_cons.mpr ⟨co_X7_276, fun _ h => absurd h List.not_mem_nil⟩)
theorem xf_Things_admits_49 : xfl X_Things_admits 49 = (7, 12, 0) := by decide +kernel
theorem xe_Things_admits_276 : xE X_Things_admits (4 * 69 + 0) = (2, 2, 0, 0, T_Things_find) := rfl
theorem xd_Things_admits : xd X_Things_admits = 3 := rfl
theorem xrb_Things_admits : xrb X_Things_admits = 1 := rfl
theorem xin_Things_admits : xin X_Things_admits = false := rfl
set_option maxHeartbeats 4000000 in
set_option maxRecDepth 100000 in
theorem S_Things_admits : Snd yX7_admits cX7_admits 2 (some .boolean) T_Things_admits 3 0 0 := by
  refine snd_of (X := X_Things_admits) (P := P_Things_admits) (tb := tb_Things_admits) (own := RX7) (by decide) rfl rfl (by decide +kernel) xok_Things_admits rfl rk1 (fun h => by first | rfl | cases h) ?_
  intro as M k has hM hT0
  obtain ⟨sz, sl, lay, ρ, σ, τ⟩ := M
  obtain ⟨o, as1, e, hlo, hT1⟩ := mkT_r hT0
  clear hT0
  subst e
  obtain ⟨x, as2, e, hT2⟩ := pI_x hT1
  clear hT1
  subst e
  obtain ⟨e, hT⟩ := hT2
  subst e
  replace hlo : lay o = (17, 0) := hlo
  have r_x : -2147483648 ≤ x ∧ x ≤ 2147483647 := has (vI x) (by simp)
  clear has
  replace hM : ∀ a i, -2147483648 ≤ σ a i ∧ σ a i ≤ 2147483647 := hM
  replace hT : TF_Things_admits o x sz sl lay ρ σ τ k := hT
  unfold TF_Things_admits at hT
  obtain ⟨hL, hn, hB, h1, h0⟩ := hT
  obtain ⟨lh, lp0, lp1, lp2, lp3, lp4, lp5, lp6, lp7, lp8, lp9, lp10, lp11, lq0, lq1, lq2, lq3, lq4, lq5, lq6, lq7, lq8, lq9, lq10, lq11⟩ := (show LThings lay ρ _ from hL)
  refine ⟨Nat.le_of_ble_eq_true rfl, fun _ _ _ => False, fun _ _ _ => 0, 24, ?_, fun _ _ _ _ _ _ h => h.elim⟩
  unfold wps
  simp only [si_iload_n0, si_iload_n1, si_iload_n2, si_iload_n3, si_iload, si_lload_n0, si_lload_n1, si_lload_n2, si_lload_n3, si_lload, si_aload_n0, si_aload_n1, si_aload_n2, si_aload_n3, si_aload, si_istore_n0, si_istore_n1, si_istore_n2, si_istore_n3, si_istore, si_astore_n0, si_astore_n1, si_astore_n2, si_astore_n3, si_astore, si_lstore_n0, si_lstore_n1, si_lstore_n2, si_lstore_n3, si_lstore, si_iconst, si_bipush, si_sipush, si_ldc, si_ldc2_w, si_lconst0, si_lconst1, si_aconst_null, si_iinc, si_dup, si_dup2, si_iadd, si_isub, si_imul, si_idiv, si_irem, si_iand, si_ior, si_ishl, si_ishr, si_ladd, si_lmul, si_lor, si_lxor, si_lshl, si_lushr, si_lcmp, si_i2b, si_i2l, si_l2i, si_icmp_eq, si_icmp_ne, si_icmp_lt, si_icmp_ge, si_icmp_gt, si_icmp_le, si_if_eq, si_if_ne, si_if_lt, si_if_ge, si_if_gt, si_if_le, si_ifnull, si_ifnonnull, si_goto, si_tableswitch, si_lookupswitch, si_getfield, si_putfield, si_getstatic, si_iaload, si_baload, si_laload, si_aaload, si_iastore, si_bastore, si_lastore, si_aastore, si_arraylength, si_new, si_newarray, si_anewarray, si_invokevirtual, si_invokespecial, si_invokestatic, si_ireturn, si_lreturn, si_areturn, si_return_, pI_e, pL_e, pR_e, pA_r, pA_n, pN_n, pN_r, oI_e, oL_e, oA_r, oA_n, lget_e, lrm1_0, lrm2_0, lrm1_i, lrm1_r, lrm1_n, lrm1_l, lrm2_i, lrm2_r, lrm2_n, lrm2_l, popN_0, popN_s, acat_i, acat_l, acat_r, acat_n, stw_0, stw_s, psh_s, psh_n, wgf_r, wgf_i, wgf_b, wgf_n, wgf_m, wpf_i, wpf_r, wpf_b, wnew_e, callE_e, rbk_0, rbk_1, tsw_0, tsw_s, lsw_0, lsw_s, wp_s, wq_t, wq_f, oV_e, pick_0, pick_s, oZ_e, oY_e, r_Things_admits_0, r_Things_admits_1, r_Things_admits_2, r_Things_admits_5, r_Things_admits_6, r_Things_admits_9, r_Things_admits_12, r_Things_admits_15, r_Things_admits_16, r_Things_admits_17, r_Things_admits_20, r_Things_admits_21, r_Things_admits_24, r_Things_admits_25, r_Things_admits_28, r_Things_admits_29, xf_Things_admits_49, xe_Things_admits_276, xd_Things_admits, xrb_Things_admits, xin_Things_admits, T_Things_find_e, TF_Things_find, lh, lp0, lp1, lp2, lp3, lp4, lp5, lp6, lp7, lp8, lp9, lp10, lp11, lq0, lq1, lq2, lq3, lq4, lq5, lq6, lq7, lq8, lq9, lq10, lq11, Nat.reduceAdd, Nat.reduceMul, Nat.reduceEqDiff, reduceIte, Int.reduceNeg, Int.reduceLE, Int.reduceLT, Int.reduceAdd, Int.reduceSub, Int.reduceToNat, true_and, and_true, inR_e, Nat.reduceLT, Nat.reduceLeDiff, reduceCtorEq, Nat.add_zero, Nat.zero_add, or_false, false_or, or_true, true_or, not_true_eq_false, not_false_eq_true, Classical.not_not, Nat.add_eq_zero_iff, and_false, false_and, Int.reduceEq, List.mem_cons, List.not_mem_nil, forall_eq_or_imp, forall_eq, false_implies, implies_true, forall_const, aargs_0, aargs_i, aargs_r, aargs_l, aargs_n, nfT_e, eq_self, and_self, Nat.le_refl, fu_s, fu_fu, iu_iu, iu_s, fu_am, fu_a0, fu_0a, iu_l, Nat.reduceBEq, Int.reduceBEq, T_objInit_e]
  refine ⟨fun a => h0 (fun z => by omega), fun a => ⟨fun b => h0 (fun z => by omega), fun b => ?_⟩⟩
  refine ⟨hL, hn, hB, fun i hi => ?_, fun hno => ?_⟩
  · refine ⟨fun c => h0 (fun z => z.2.2 i hi.1 hi.2), fun c => absurd c (by omega)⟩
  · exact h1 ⟨by omega, by omega, hno⟩
def TF_Things_allSizes (o : Nat) (sz sl : Nat) (lay : Nat → Nat × Int) (ρ : Nat → Int → Nat) (σ : Nat → Int → Int) (τ : Nat → Int → Int64) (k : Option AV → Mm → Prop) : Prop := LThings lay ρ o ∧ (0 ≤ σ o 12 ∧ σ o 12 ≤ 600) ∧ (∀ i, 0 ≤ i ∧ i < σ o 12 → 0 ≤ σ (o + 5) i ∧ σ (o + 5) i ≤ 100000) ∧ k (some (vI (sumZ (σ (o + 5)) (σ o 12).toNat))) (sz, sl, lay, ρ, σ, τ)
def T_Things_allSizes : Tr := mkT 7 fun o as M k => as = [] ∧ TF_Things_allSizes o M.1 M.2.1 M.2.2.1 M.2.2.2.1 M.2.2.2.2.1 M.2.2.2.2.2 k
theorem T_Things_allSizes_e {o : Nat} {sz sl : Nat} {lay : Nat → Nat × Int} {ρ : Nat → Int → Nat} {σ : Nat → Int → Int} {τ : Nat → Int → Int64} {k : Option AV → Mm → Prop} : T_Things_allSizes [vR o] (sz, sl, lay, ρ, σ, τ) k = (lay o = (17, 0) ∧ TF_Things_allSizes o sz sl lay ρ σ τ k) := by simp [T_Things_allSizes, mkT_e, pI_e, pR_e, pL_e]
theorem T_Things_allSizes_r (as : List AV) (M : Mm) (k : Option AV → Mm → Prop) (h : T_Things_allSizes as M k) : ∃ b As, as = vR b :: As ∧ M.2.2.1 b = (10 + 7, 0) := by
  obtain ⟨b, As, h1, h2, -⟩ := mkT_r h
  exact ⟨b, As, h1, h2⟩
def tb_Things_allSizes : List (Nat × Option (List Nat) × Instr × List Nat) := [(0, none, .iconst 0, []), (1, none, .istore_n 1, []), (2, none, .iconst 0, []), (3, none, .istore_n 2, []), (4, some [0, 1, 2], .iload_n 2, []), (5, none, .aload_n 0, []), (6, none, .getfield 49, []), (9, none, .if_icmp .ge 18, [27]), (12, none, .iload_n 1, []), (13, none, .aload_n 0, []), (14, none, .getfield 24, []), (17, none, .iload_n 2, []), (18, none, .iaload, []), (19, none, .iadd, []), (20, none, .istore_n 1, []), (21, none, .iinc 2 1, []), (24, none, .goto (-20), [4]), (27, none, .iload_n 1, []), (28, none, .ireturn, [])]
def P_Things_allSizes : Nat → Option (List Nat) × Instr × List Nat := plk tb_Things_allSizes
theorem r_Things_allSizes_0 : P_Things_allSizes 0 = (none, .iconst 0, []) := by decide +kernel
theorem r_Things_allSizes_1 : P_Things_allSizes 1 = (none, .istore_n 1, []) := by decide +kernel
theorem r_Things_allSizes_2 : P_Things_allSizes 2 = (none, .iconst 0, []) := by decide +kernel
theorem r_Things_allSizes_3 : P_Things_allSizes 3 = (none, .istore_n 2, []) := by decide +kernel
theorem r_Things_allSizes_4 : P_Things_allSizes 4 = (some [0, 1, 2], .iload_n 2, []) := by decide +kernel
theorem r_Things_allSizes_5 : P_Things_allSizes 5 = (none, .aload_n 0, []) := by decide +kernel
theorem r_Things_allSizes_6 : P_Things_allSizes 6 = (none, .getfield 49, []) := by decide +kernel
theorem r_Things_allSizes_9 : P_Things_allSizes 9 = (none, .if_icmp .ge 18, [27]) := by decide +kernel
theorem r_Things_allSizes_12 : P_Things_allSizes 12 = (none, .iload_n 1, []) := by decide +kernel
theorem r_Things_allSizes_13 : P_Things_allSizes 13 = (none, .aload_n 0, []) := by decide +kernel
theorem r_Things_allSizes_14 : P_Things_allSizes 14 = (none, .getfield 24, []) := by decide +kernel
theorem r_Things_allSizes_17 : P_Things_allSizes 17 = (none, .iload_n 2, []) := by decide +kernel
theorem r_Things_allSizes_18 : P_Things_allSizes 18 = (none, .iaload, []) := by decide +kernel
theorem r_Things_allSizes_19 : P_Things_allSizes 19 = (none, .iadd, []) := by decide +kernel
theorem r_Things_allSizes_20 : P_Things_allSizes 20 = (none, .istore_n 1, []) := by decide +kernel
theorem r_Things_allSizes_21 : P_Things_allSizes 21 = (none, .iinc 2 1, []) := by decide +kernel
theorem r_Things_allSizes_24 : P_Things_allSizes 24 = (none, .goto (-20), [4]) := by decide +kernel
theorem r_Things_allSizes_27 : P_Things_allSizes 27 = (none, .iload_n 1, []) := by decide +kernel
theorem r_Things_allSizes_28 : P_Things_allSizes 28 = (none, .ireturn, []) := by decide +kernel
def E_Things_allSizes : List (Nat × Ent) := []
def X_Things_allSizes : Cx := (llk (0, 0, 9) ftX7, llk 99 ntX7, llk none kcX7, llk none klX7, llk dEnt E_Things_allSizes, 0, 0, false)
theorem xok_Things_allSizes : Xok RX7 X_Things_allSizes := xok_of ftX7_ok ntX7_ok kcX7_ok klX7_ok (E := E_Things_allSizes) (fun _ h => absurd h List.not_mem_nil)
theorem xf_Things_allSizes_24 : xfl X_Things_allSizes 24 = (7, 4, 1) := by decide +kernel
theorem xf_Things_allSizes_49 : xfl X_Things_allSizes 49 = (7, 12, 0) := by decide +kernel
theorem xd_Things_allSizes : xd X_Things_allSizes = 0 := rfl
theorem xrb_Things_allSizes : xrb X_Things_allSizes = 0 := rfl
theorem xin_Things_allSizes : xin X_Things_allSizes = false := rfl
set_option maxHeartbeats 4000000 in
set_option maxRecDepth 100000 in
theorem S_Things_allSizes : Snd yX7_allSizes cX7_allSizes 3 (some .int) T_Things_allSizes 0 0 0 := by
  refine snd_of (X := X_Things_allSizes) (P := P_Things_allSizes) (tb := tb_Things_allSizes) (own := RX7) (by decide) rfl rfl (by decide +kernel) xok_Things_allSizes rfl rk0 (fun h => by first | rfl | cases h) ?_
  intro as M k has hM hT0
  obtain ⟨sz, sl, lay, ρ, σ, τ⟩ := M
  obtain ⟨o, as1, e, hlo, hT1⟩ := mkT_r hT0
  clear hT0
  subst e
  obtain ⟨e, hT⟩ := hT1
  subst e
  replace hlo : lay o = (17, 0) := hlo
  clear has
  replace hM : ∀ a i, -2147483648 ≤ σ a i ∧ σ a i ≤ 2147483647 := hM
  replace hT : TF_Things_allSizes o sz sl lay ρ σ τ k := hT
  unfold TF_Things_allSizes at hT
  obtain ⟨hL, hn, hs, hT⟩ := hT
  obtain ⟨lh, lp0, lp1, lp2, lp3, lp4, lp5, lp6, lp7, lp8, lp9, lp10, lp11, lq0, lq1, lq2, lq3, lq4, lq5, lq6, lq7, lq8, lq9, lq10, lq11⟩ := (show LThings lay ρ _ from hL)
  obtain ⟨J, hJd⟩ : ∃ J : Nat → List AV → Mm → Prop, J = (fun c vs M1 => c = 4 ∧ ∃ n : Nat, n ≤ σ o 12 ∧ vs = [vR o, vI (sumZ (σ (o + 5)) n), vI n] ∧ M1 = (sz, sl, lay, ρ, σ, τ)) := ⟨_, rfl⟩
  obtain ⟨μ, hμ⟩ : ∃ μ : Nat → List AV → Mm → Nat, μ = (fun _ vs _ => (σ o 12 - gI (vs.getD 2 vN)).toNat) := ⟨_, rfl⟩
  refine ⟨Nat.le_of_ble_eq_true rfl, J, μ, 27, ?_, ?_⟩
  · unfold wps
    simp only [si_iload_n0, si_iload_n1, si_iload_n2, si_iload_n3, si_iload, si_lload_n0, si_lload_n1, si_lload_n2, si_lload_n3, si_lload, si_aload_n0, si_aload_n1, si_aload_n2, si_aload_n3, si_aload, si_istore_n0, si_istore_n1, si_istore_n2, si_istore_n3, si_istore, si_astore_n0, si_astore_n1, si_astore_n2, si_astore_n3, si_astore, si_lstore_n0, si_lstore_n1, si_lstore_n2, si_lstore_n3, si_lstore, si_iconst, si_bipush, si_sipush, si_ldc, si_ldc2_w, si_lconst0, si_lconst1, si_aconst_null, si_iinc, si_dup, si_dup2, si_iadd, si_isub, si_imul, si_idiv, si_irem, si_iand, si_ior, si_ishl, si_ishr, si_ladd, si_lmul, si_lor, si_lxor, si_lshl, si_lushr, si_lcmp, si_i2b, si_i2l, si_l2i, si_icmp_eq, si_icmp_ne, si_icmp_lt, si_icmp_ge, si_icmp_gt, si_icmp_le, si_if_eq, si_if_ne, si_if_lt, si_if_ge, si_if_gt, si_if_le, si_ifnull, si_ifnonnull, si_goto, si_tableswitch, si_lookupswitch, si_getfield, si_putfield, si_getstatic, si_iaload, si_baload, si_laload, si_aaload, si_iastore, si_bastore, si_lastore, si_aastore, si_arraylength, si_new, si_newarray, si_anewarray, si_invokevirtual, si_invokespecial, si_invokestatic, si_ireturn, si_lreturn, si_areturn, si_return_, pI_e, pL_e, pR_e, pA_r, pA_n, pN_n, pN_r, oI_e, oL_e, oA_r, oA_n, lget_e, lrm1_0, lrm2_0, lrm1_i, lrm1_r, lrm1_n, lrm1_l, lrm2_i, lrm2_r, lrm2_n, lrm2_l, popN_0, popN_s, acat_i, acat_l, acat_r, acat_n, stw_0, stw_s, psh_s, psh_n, wgf_r, wgf_i, wgf_b, wgf_n, wgf_m, wpf_i, wpf_r, wpf_b, wnew_e, callE_e, rbk_0, rbk_1, tsw_0, tsw_s, lsw_0, lsw_s, wp_s, wq_t, wq_f, oV_e, pick_0, pick_s, oZ_e, oY_e, r_Things_allSizes_0, r_Things_allSizes_1, r_Things_allSizes_2, r_Things_allSizes_3, r_Things_allSizes_4, r_Things_allSizes_5, r_Things_allSizes_6, r_Things_allSizes_9, r_Things_allSizes_12, r_Things_allSizes_13, r_Things_allSizes_14, r_Things_allSizes_17, r_Things_allSizes_18, r_Things_allSizes_19, r_Things_allSizes_20, r_Things_allSizes_21, r_Things_allSizes_24, r_Things_allSizes_27, r_Things_allSizes_28, xf_Things_allSizes_24, xf_Things_allSizes_49, xd_Things_allSizes, xrb_Things_allSizes, xin_Things_allSizes, lh, lp0, lp1, lp2, lp3, lp4, lp5, lp6, lp7, lp8, lp9, lp10, lp11, lq0, lq1, lq2, lq3, lq4, lq5, lq6, lq7, lq8, lq9, lq10, lq11, Nat.reduceAdd, Nat.reduceMul, Nat.reduceEqDiff, reduceIte, Int.reduceNeg, Int.reduceLE, Int.reduceLT, Int.reduceAdd, Int.reduceSub, Int.reduceToNat, true_and, and_true, inR_e, Nat.reduceLT, Nat.reduceLeDiff, reduceCtorEq, Nat.add_zero, Nat.zero_add, or_false, false_or, or_true, true_or, not_true_eq_false, not_false_eq_true, Classical.not_not, Nat.add_eq_zero_iff, and_false, false_and, Int.reduceEq, List.mem_cons, List.not_mem_nil, forall_eq_or_imp, forall_eq, false_implies, implies_true, forall_const, aargs_0, aargs_i, aargs_r, aargs_l, aargs_n, nfT_e, eq_self, and_self, Nat.le_refl, fu_s, fu_fu, iu_iu, iu_s, fu_am, fu_a0, fu_0a, iu_l, Nat.reduceBEq, Int.reduceBEq, T_objInit_e]
    rw [hJd]
    exact ⟨rfl, 0, by omega, rfl, rfl⟩
  · intro cp vs M1 hvs hM1 hlen hJ
    rw [hJd] at hJ
    obtain ⟨rfl, n, h1, rfl, rfl⟩ := hJ
    have hc := sumZ_R2 (f := σ (o + 5)) (c := 100000) n (fun i hi => hs i (by omega))
    unfold wps
    simp only [Option.getD_some, List.zip_cons_cons, List.zip_nil_left, List.zip_nil_right, List.zip_nil_right, si_iload_n0, si_iload_n1, si_iload_n2, si_iload_n3, si_iload, si_lload_n0, si_lload_n1, si_lload_n2, si_lload_n3, si_lload, si_aload_n0, si_aload_n1, si_aload_n2, si_aload_n3, si_aload, si_istore_n0, si_istore_n1, si_istore_n2, si_istore_n3, si_istore, si_astore_n0, si_astore_n1, si_astore_n2, si_astore_n3, si_astore, si_lstore_n0, si_lstore_n1, si_lstore_n2, si_lstore_n3, si_lstore, si_iconst, si_bipush, si_sipush, si_ldc, si_ldc2_w, si_lconst0, si_lconst1, si_aconst_null, si_iinc, si_dup, si_dup2, si_iadd, si_isub, si_imul, si_idiv, si_irem, si_iand, si_ior, si_ishl, si_ishr, si_ladd, si_lmul, si_lor, si_lxor, si_lshl, si_lushr, si_lcmp, si_i2b, si_i2l, si_l2i, si_icmp_eq, si_icmp_ne, si_icmp_lt, si_icmp_ge, si_icmp_gt, si_icmp_le, si_if_eq, si_if_ne, si_if_lt, si_if_ge, si_if_gt, si_if_le, si_ifnull, si_ifnonnull, si_goto, si_tableswitch, si_lookupswitch, si_getfield, si_putfield, si_getstatic, si_iaload, si_baload, si_laload, si_aaload, si_iastore, si_bastore, si_lastore, si_aastore, si_arraylength, si_new, si_newarray, si_anewarray, si_invokevirtual, si_invokespecial, si_invokestatic, si_ireturn, si_lreturn, si_areturn, si_return_, pI_e, pL_e, pR_e, pA_r, pA_n, pN_n, pN_r, oI_e, oL_e, oA_r, oA_n, lget_e, lrm1_0, lrm2_0, lrm1_i, lrm1_r, lrm1_n, lrm1_l, lrm2_i, lrm2_r, lrm2_n, lrm2_l, popN_0, popN_s, acat_i, acat_l, acat_r, acat_n, stw_0, stw_s, psh_s, psh_n, wgf_r, wgf_i, wgf_b, wgf_n, wgf_m, wpf_i, wpf_r, wpf_b, wnew_e, callE_e, rbk_0, rbk_1, tsw_0, tsw_s, lsw_0, lsw_s, wp_s, wq_t, wq_f, oV_e, pick_0, pick_s, oZ_e, oY_e, r_Things_allSizes_0, r_Things_allSizes_1, r_Things_allSizes_2, r_Things_allSizes_3, r_Things_allSizes_4, r_Things_allSizes_5, r_Things_allSizes_6, r_Things_allSizes_9, r_Things_allSizes_12, r_Things_allSizes_13, r_Things_allSizes_14, r_Things_allSizes_17, r_Things_allSizes_18, r_Things_allSizes_19, r_Things_allSizes_20, r_Things_allSizes_21, r_Things_allSizes_24, r_Things_allSizes_27, r_Things_allSizes_28, xf_Things_allSizes_24, xf_Things_allSizes_49, xd_Things_allSizes, xrb_Things_allSizes, xin_Things_allSizes, lh, lp0, lp1, lp2, lp3, lp4, lp5, lp6, lp7, lp8, lp9, lp10, lp11, lq0, lq1, lq2, lq3, lq4, lq5, lq6, lq7, lq8, lq9, lq10, lq11, Nat.reduceAdd, Nat.reduceMul, Nat.reduceEqDiff, reduceIte, Int.reduceNeg, Int.reduceLE, Int.reduceLT, Int.reduceAdd, Int.reduceSub, Int.reduceToNat, true_and, and_true, inR_e, Nat.reduceLT, Nat.reduceLeDiff, reduceCtorEq, Nat.add_zero, Nat.zero_add, or_false, false_or, or_true, true_or, not_true_eq_false, not_false_eq_true, Classical.not_not, Nat.add_eq_zero_iff, and_false, false_and, Int.reduceEq, List.mem_cons, List.not_mem_nil, forall_eq_or_imp, forall_eq, false_implies, implies_true, forall_const, aargs_0, aargs_i, aargs_r, aargs_l, aargs_n, nfT_e, eq_self, and_self, Nat.le_refl, fu_s, fu_fu, iu_iu, iu_s, fu_am, fu_a0, fu_0a, iu_l, Nat.reduceBEq, Int.reduceBEq, T_objInit_e]
    refine ⟨fun h => ?_, fun h => ?_⟩
    · rw [show (σ o 12).toNat = n by omega] at hT
      exact hT
    · have hs1 := hs n (by omega)
      refine ⟨by omega, by omega, by omega, by omega, ?_, (by rw [hμ]; simp only [gI_e, List.getD_cons_succ, List.getD_cons_zero]; omega)⟩
      rw [hJd]
      exact ⟨rfl, n + 1, by omega, rfl, rfl⟩
def TF_Things_countOfKind (o : Nat) (x : Int) (sz sl : Nat) (lay : Nat → Nat × Int) (ρ : Nat → Int → Nat) (σ : Nat → Int → Int) (τ : Nat → Int → Int64) (k : Option AV → Mm → Prop) : Prop := LThings lay ρ o ∧ (0 ≤ σ o 12 ∧ σ o 12 ≤ 600) ∧ k (some (vI (cntZ (fun i => decide (σ (o + 2) i = 0 ∧ σ (o + 3) i = x)) (σ o 12).toNat))) (sz, sl, lay, ρ, σ, τ)
def T_Things_countOfKind : Tr := mkT 7 fun o as M k => pI as fun x as => as = [] ∧ TF_Things_countOfKind o x M.1 M.2.1 M.2.2.1 M.2.2.2.1 M.2.2.2.2.1 M.2.2.2.2.2 k
theorem T_Things_countOfKind_e {o : Nat} {x : Int} {sz sl : Nat} {lay : Nat → Nat × Int} {ρ : Nat → Int → Nat} {σ : Nat → Int → Int} {τ : Nat → Int → Int64} {k : Option AV → Mm → Prop} : T_Things_countOfKind [vR o, vI x] (sz, sl, lay, ρ, σ, τ) k = (lay o = (17, 0) ∧ TF_Things_countOfKind o x sz sl lay ρ σ τ k) := by simp [T_Things_countOfKind, mkT_e, pI_e, pR_e, pL_e]
theorem T_Things_countOfKind_r (as : List AV) (M : Mm) (k : Option AV → Mm → Prop) (h : T_Things_countOfKind as M k) : ∃ b As, as = vR b :: As ∧ M.2.2.1 b = (10 + 7, 0) := by
  obtain ⟨b, As, h1, h2, -⟩ := mkT_r h
  exact ⟨b, As, h1, h2⟩
def tb_Things_countOfKind : List (Nat × Option (List Nat) × Instr × List Nat) := [(0, none, .iconst 0, []), (1, none, .istore_n 2, []), (2, none, .iconst 0, []), (3, none, .istore_n 3, []), (4, some [0, 1, 2, 3], .iload_n 3, []), (5, none, .aload_n 0, []), (6, none, .getfield 49, []), (9, none, .if_icmp .ge 31, [40]), (12, none, .aload_n 0, []), (13, none, .getfield 15, []), (16, none, .iload_n 3, []), (17, none, .iaload, []), (18, none, .ifCond .ne 16, [34]), (21, none, .aload_n 0, []), (22, none, .getfield 18, []), (25, none, .iload_n 3, []), (26, none, .iaload, []), (27, none, .iload_n 1, []), (28, none, .if_icmp .ne 6, [34]), (31, none, .iinc 2 1, []), (34, none, .iinc 3 1, []), (37, none, .goto (-33), [4]), (40, none, .iload_n 2, []), (41, none, .ireturn, [])]
def P_Things_countOfKind : Nat → Option (List Nat) × Instr × List Nat := plk tb_Things_countOfKind
theorem r_Things_countOfKind_0 : P_Things_countOfKind 0 = (none, .iconst 0, []) := by decide +kernel
theorem r_Things_countOfKind_1 : P_Things_countOfKind 1 = (none, .istore_n 2, []) := by decide +kernel
theorem r_Things_countOfKind_2 : P_Things_countOfKind 2 = (none, .iconst 0, []) := by decide +kernel
theorem r_Things_countOfKind_3 : P_Things_countOfKind 3 = (none, .istore_n 3, []) := by decide +kernel
theorem r_Things_countOfKind_4 : P_Things_countOfKind 4 = (some [0, 1, 2, 3], .iload_n 3, []) := by decide +kernel
theorem r_Things_countOfKind_5 : P_Things_countOfKind 5 = (none, .aload_n 0, []) := by decide +kernel
theorem r_Things_countOfKind_6 : P_Things_countOfKind 6 = (none, .getfield 49, []) := by decide +kernel
theorem r_Things_countOfKind_9 : P_Things_countOfKind 9 = (none, .if_icmp .ge 31, [40]) := by decide +kernel
theorem r_Things_countOfKind_12 : P_Things_countOfKind 12 = (none, .aload_n 0, []) := by decide +kernel
theorem r_Things_countOfKind_13 : P_Things_countOfKind 13 = (none, .getfield 15, []) := by decide +kernel
theorem r_Things_countOfKind_16 : P_Things_countOfKind 16 = (none, .iload_n 3, []) := by decide +kernel
theorem r_Things_countOfKind_17 : P_Things_countOfKind 17 = (none, .iaload, []) := by decide +kernel
theorem r_Things_countOfKind_18 : P_Things_countOfKind 18 = (none, .ifCond .ne 16, [34]) := by decide +kernel
theorem r_Things_countOfKind_21 : P_Things_countOfKind 21 = (none, .aload_n 0, []) := by decide +kernel
theorem r_Things_countOfKind_22 : P_Things_countOfKind 22 = (none, .getfield 18, []) := by decide +kernel
theorem r_Things_countOfKind_25 : P_Things_countOfKind 25 = (none, .iload_n 3, []) := by decide +kernel
theorem r_Things_countOfKind_26 : P_Things_countOfKind 26 = (none, .iaload, []) := by decide +kernel
theorem r_Things_countOfKind_27 : P_Things_countOfKind 27 = (none, .iload_n 1, []) := by decide +kernel
theorem r_Things_countOfKind_28 : P_Things_countOfKind 28 = (none, .if_icmp .ne 6, [34]) := by decide +kernel
theorem r_Things_countOfKind_31 : P_Things_countOfKind 31 = (none, .iinc 2 1, []) := by decide +kernel
theorem r_Things_countOfKind_34 : P_Things_countOfKind 34 = (none, .iinc 3 1, []) := by decide +kernel
theorem r_Things_countOfKind_37 : P_Things_countOfKind 37 = (none, .goto (-33), [4]) := by decide +kernel
theorem r_Things_countOfKind_40 : P_Things_countOfKind 40 = (none, .iload_n 2, []) := by decide +kernel
theorem r_Things_countOfKind_41 : P_Things_countOfKind 41 = (none, .ireturn, []) := by decide +kernel
def E_Things_countOfKind : List (Nat × Ent) := []
def X_Things_countOfKind : Cx := (llk (0, 0, 9) ftX7, llk 99 ntX7, llk none kcX7, llk none klX7, llk dEnt E_Things_countOfKind, 0, 0, false)
theorem xok_Things_countOfKind : Xok RX7 X_Things_countOfKind := xok_of ftX7_ok ntX7_ok kcX7_ok klX7_ok (E := E_Things_countOfKind) (fun _ h => absurd h List.not_mem_nil)
theorem xf_Things_countOfKind_15 : xfl X_Things_countOfKind 15 = (7, 1, 1) := by decide +kernel
theorem xf_Things_countOfKind_18 : xfl X_Things_countOfKind 18 = (7, 2, 1) := by decide +kernel
theorem xf_Things_countOfKind_49 : xfl X_Things_countOfKind 49 = (7, 12, 0) := by decide +kernel
theorem xd_Things_countOfKind : xd X_Things_countOfKind = 0 := rfl
theorem xrb_Things_countOfKind : xrb X_Things_countOfKind = 0 := rfl
theorem xin_Things_countOfKind : xin X_Things_countOfKind = false := rfl
set_option maxHeartbeats 4000000 in
set_option maxRecDepth 100000 in
theorem S_Things_countOfKind : Snd yX7_countOfKind cX7_countOfKind 4 (some .int) T_Things_countOfKind 0 0 0 := by
  refine snd_of (X := X_Things_countOfKind) (P := P_Things_countOfKind) (tb := tb_Things_countOfKind) (own := RX7) (by decide) rfl rfl (by decide +kernel) xok_Things_countOfKind rfl rk0 (fun h => by first | rfl | cases h) ?_
  intro as M k has hM hT0
  obtain ⟨sz, sl, lay, ρ, σ, τ⟩ := M
  obtain ⟨o, as1, e, hlo, hT1⟩ := mkT_r hT0
  clear hT0
  subst e
  obtain ⟨x, as2, e, hT2⟩ := pI_x hT1
  clear hT1
  subst e
  obtain ⟨e, hT⟩ := hT2
  subst e
  replace hlo : lay o = (17, 0) := hlo
  have r_x : -2147483648 ≤ x ∧ x ≤ 2147483647 := has (vI x) (by simp)
  clear has
  replace hM : ∀ a i, -2147483648 ≤ σ a i ∧ σ a i ≤ 2147483647 := hM
  replace hT : TF_Things_countOfKind o x sz sl lay ρ σ τ k := hT
  unfold TF_Things_countOfKind at hT
  obtain ⟨hL, hn, hT⟩ := hT
  obtain ⟨lh, lp0, lp1, lp2, lp3, lp4, lp5, lp6, lp7, lp8, lp9, lp10, lp11, lq0, lq1, lq2, lq3, lq4, lq5, lq6, lq7, lq8, lq9, lq10, lq11⟩ := (show LThings lay ρ _ from hL)
  obtain ⟨J, hJd⟩ : ∃ J : Nat → List AV → Mm → Prop, J = (fun c vs M1 => c = 4 ∧ ∃ n : Nat, n ≤ σ o 12 ∧ vs = [vR o, vI x, vI (cntZ (fun i => decide (σ (o + 2) i = 0 ∧ σ (o + 3) i = x)) n), vI n] ∧ M1 = (sz, sl, lay, ρ, σ, τ)) := ⟨_, rfl⟩
  obtain ⟨μ, hμ⟩ : ∃ μ : Nat → List AV → Mm → Nat, μ = (fun _ vs _ => (σ o 12 - gI (vs.getD 3 vN)).toNat) := ⟨_, rfl⟩
  refine ⟨Nat.le_of_ble_eq_true rfl, J, μ, 32, ?_, ?_⟩
  · unfold wps
    simp only [si_iload_n0, si_iload_n1, si_iload_n2, si_iload_n3, si_iload, si_lload_n0, si_lload_n1, si_lload_n2, si_lload_n3, si_lload, si_aload_n0, si_aload_n1, si_aload_n2, si_aload_n3, si_aload, si_istore_n0, si_istore_n1, si_istore_n2, si_istore_n3, si_istore, si_astore_n0, si_astore_n1, si_astore_n2, si_astore_n3, si_astore, si_lstore_n0, si_lstore_n1, si_lstore_n2, si_lstore_n3, si_lstore, si_iconst, si_bipush, si_sipush, si_ldc, si_ldc2_w, si_lconst0, si_lconst1, si_aconst_null, si_iinc, si_dup, si_dup2, si_iadd, si_isub, si_imul, si_idiv, si_irem, si_iand, si_ior, si_ishl, si_ishr, si_ladd, si_lmul, si_lor, si_lxor, si_lshl, si_lushr, si_lcmp, si_i2b, si_i2l, si_l2i, si_icmp_eq, si_icmp_ne, si_icmp_lt, si_icmp_ge, si_icmp_gt, si_icmp_le, si_if_eq, si_if_ne, si_if_lt, si_if_ge, si_if_gt, si_if_le, si_ifnull, si_ifnonnull, si_goto, si_tableswitch, si_lookupswitch, si_getfield, si_putfield, si_getstatic, si_iaload, si_baload, si_laload, si_aaload, si_iastore, si_bastore, si_lastore, si_aastore, si_arraylength, si_new, si_newarray, si_anewarray, si_invokevirtual, si_invokespecial, si_invokestatic, si_ireturn, si_lreturn, si_areturn, si_return_, pI_e, pL_e, pR_e, pA_r, pA_n, pN_n, pN_r, oI_e, oL_e, oA_r, oA_n, lget_e, lrm1_0, lrm2_0, lrm1_i, lrm1_r, lrm1_n, lrm1_l, lrm2_i, lrm2_r, lrm2_n, lrm2_l, popN_0, popN_s, acat_i, acat_l, acat_r, acat_n, stw_0, stw_s, psh_s, psh_n, wgf_r, wgf_i, wgf_b, wgf_n, wgf_m, wpf_i, wpf_r, wpf_b, wnew_e, callE_e, rbk_0, rbk_1, tsw_0, tsw_s, lsw_0, lsw_s, wp_s, wq_t, wq_f, oV_e, pick_0, pick_s, oZ_e, oY_e, r_Things_countOfKind_0, r_Things_countOfKind_1, r_Things_countOfKind_2, r_Things_countOfKind_3, r_Things_countOfKind_4, r_Things_countOfKind_5, r_Things_countOfKind_6, r_Things_countOfKind_9, r_Things_countOfKind_12, r_Things_countOfKind_13, r_Things_countOfKind_16, r_Things_countOfKind_17, r_Things_countOfKind_18, r_Things_countOfKind_21, r_Things_countOfKind_22, r_Things_countOfKind_25, r_Things_countOfKind_26, r_Things_countOfKind_27, r_Things_countOfKind_28, r_Things_countOfKind_31, r_Things_countOfKind_34, r_Things_countOfKind_37, r_Things_countOfKind_40, r_Things_countOfKind_41, xf_Things_countOfKind_15, xf_Things_countOfKind_18, xf_Things_countOfKind_49, xd_Things_countOfKind, xrb_Things_countOfKind, xin_Things_countOfKind, lh, lp0, lp1, lp2, lp3, lp4, lp5, lp6, lp7, lp8, lp9, lp10, lp11, lq0, lq1, lq2, lq3, lq4, lq5, lq6, lq7, lq8, lq9, lq10, lq11, Nat.reduceAdd, Nat.reduceMul, Nat.reduceEqDiff, reduceIte, Int.reduceNeg, Int.reduceLE, Int.reduceLT, Int.reduceAdd, Int.reduceSub, Int.reduceToNat, true_and, and_true, inR_e, Nat.reduceLT, Nat.reduceLeDiff, reduceCtorEq, Nat.add_zero, Nat.zero_add, or_false, false_or, or_true, true_or, not_true_eq_false, not_false_eq_true, Classical.not_not, Nat.add_eq_zero_iff, and_false, false_and, Int.reduceEq, List.mem_cons, List.not_mem_nil, forall_eq_or_imp, forall_eq, false_implies, implies_true, forall_const, aargs_0, aargs_i, aargs_r, aargs_l, aargs_n, nfT_e, eq_self, and_self, Nat.le_refl, fu_s, fu_fu, iu_iu, iu_s, fu_am, fu_a0, fu_0a, iu_l, Nat.reduceBEq, Int.reduceBEq, T_objInit_e]
    rw [hJd]
    exact ⟨rfl, 0, by omega, rfl, rfl⟩
  · intro cp vs M1 hvs hM1 hlen hJ
    rw [hJd] at hJ
    obtain ⟨rfl, n, h1, rfl, rfl⟩ := hJ
    have hc := cntZ_R (fun i => decide (σ (o + 2) i = 0 ∧ σ (o + 3) i = x)) n
    have e0 : ¬ (σ (o + 2) n = 0 ∧ σ (o + 3) n = x) → cntZ (fun i => decide (σ (o + 2) i = 0 ∧ σ (o + 3) i = x)) (n + 1) = cntZ (fun i => decide (σ (o + 2) i = 0 ∧ σ (o + 3) i = x)) n := by
      intro g
      show _ + (if _ then _ else _) = _
      rw [if_neg (by simpa using g)]
      omega
    have e1 : (σ (o + 2) n = 0 ∧ σ (o + 3) n = x) → cntZ (fun i => decide (σ (o + 2) i = 0 ∧ σ (o + 3) i = x)) (n + 1) = cntZ (fun i => decide (σ (o + 2) i = 0 ∧ σ (o + 3) i = x)) n + 1 := by
      intro g
      show _ + (if _ then _ else _) = _
      rw [if_pos (by simpa using g)]
    unfold wps
    simp only [Option.getD_some, List.zip_cons_cons, List.zip_nil_left, List.zip_nil_right, List.zip_nil_right, si_iload_n0, si_iload_n1, si_iload_n2, si_iload_n3, si_iload, si_lload_n0, si_lload_n1, si_lload_n2, si_lload_n3, si_lload, si_aload_n0, si_aload_n1, si_aload_n2, si_aload_n3, si_aload, si_istore_n0, si_istore_n1, si_istore_n2, si_istore_n3, si_istore, si_astore_n0, si_astore_n1, si_astore_n2, si_astore_n3, si_astore, si_lstore_n0, si_lstore_n1, si_lstore_n2, si_lstore_n3, si_lstore, si_iconst, si_bipush, si_sipush, si_ldc, si_ldc2_w, si_lconst0, si_lconst1, si_aconst_null, si_iinc, si_dup, si_dup2, si_iadd, si_isub, si_imul, si_idiv, si_irem, si_iand, si_ior, si_ishl, si_ishr, si_ladd, si_lmul, si_lor, si_lxor, si_lshl, si_lushr, si_lcmp, si_i2b, si_i2l, si_l2i, si_icmp_eq, si_icmp_ne, si_icmp_lt, si_icmp_ge, si_icmp_gt, si_icmp_le, si_if_eq, si_if_ne, si_if_lt, si_if_ge, si_if_gt, si_if_le, si_ifnull, si_ifnonnull, si_goto, si_tableswitch, si_lookupswitch, si_getfield, si_putfield, si_getstatic, si_iaload, si_baload, si_laload, si_aaload, si_iastore, si_bastore, si_lastore, si_aastore, si_arraylength, si_new, si_newarray, si_anewarray, si_invokevirtual, si_invokespecial, si_invokestatic, si_ireturn, si_lreturn, si_areturn, si_return_, pI_e, pL_e, pR_e, pA_r, pA_n, pN_n, pN_r, oI_e, oL_e, oA_r, oA_n, lget_e, lrm1_0, lrm2_0, lrm1_i, lrm1_r, lrm1_n, lrm1_l, lrm2_i, lrm2_r, lrm2_n, lrm2_l, popN_0, popN_s, acat_i, acat_l, acat_r, acat_n, stw_0, stw_s, psh_s, psh_n, wgf_r, wgf_i, wgf_b, wgf_n, wgf_m, wpf_i, wpf_r, wpf_b, wnew_e, callE_e, rbk_0, rbk_1, tsw_0, tsw_s, lsw_0, lsw_s, wp_s, wq_t, wq_f, oV_e, pick_0, pick_s, oZ_e, oY_e, r_Things_countOfKind_0, r_Things_countOfKind_1, r_Things_countOfKind_2, r_Things_countOfKind_3, r_Things_countOfKind_4, r_Things_countOfKind_5, r_Things_countOfKind_6, r_Things_countOfKind_9, r_Things_countOfKind_12, r_Things_countOfKind_13, r_Things_countOfKind_16, r_Things_countOfKind_17, r_Things_countOfKind_18, r_Things_countOfKind_21, r_Things_countOfKind_22, r_Things_countOfKind_25, r_Things_countOfKind_26, r_Things_countOfKind_27, r_Things_countOfKind_28, r_Things_countOfKind_31, r_Things_countOfKind_34, r_Things_countOfKind_37, r_Things_countOfKind_40, r_Things_countOfKind_41, xf_Things_countOfKind_15, xf_Things_countOfKind_18, xf_Things_countOfKind_49, xd_Things_countOfKind, xrb_Things_countOfKind, xin_Things_countOfKind, lh, lp0, lp1, lp2, lp3, lp4, lp5, lp6, lp7, lp8, lp9, lp10, lp11, lq0, lq1, lq2, lq3, lq4, lq5, lq6, lq7, lq8, lq9, lq10, lq11, Nat.reduceAdd, Nat.reduceMul, Nat.reduceEqDiff, reduceIte, Int.reduceNeg, Int.reduceLE, Int.reduceLT, Int.reduceAdd, Int.reduceSub, Int.reduceToNat, true_and, and_true, inR_e, Nat.reduceLT, Nat.reduceLeDiff, reduceCtorEq, Nat.add_zero, Nat.zero_add, or_false, false_or, or_true, true_or, not_true_eq_false, not_false_eq_true, Classical.not_not, Nat.add_eq_zero_iff, and_false, false_and, Int.reduceEq, List.mem_cons, List.not_mem_nil, forall_eq_or_imp, forall_eq, false_implies, implies_true, forall_const, aargs_0, aargs_i, aargs_r, aargs_l, aargs_n, nfT_e, eq_self, and_self, Nat.le_refl, fu_s, fu_fu, iu_iu, iu_s, fu_am, fu_a0, fu_0a, iu_l, Nat.reduceBEq, Int.reduceBEq, T_objInit_e]
    refine ⟨fun h => ?_, fun h => ⟨by omega, by omega, fun g => ?_, fun g => ⟨by omega, by omega, fun g2 => ?_, fun g2 => ?_⟩⟩⟩
    · rw [show (σ o 12).toNat = n by omega] at hT
      exact hT
    · refine ⟨by omega, ?_, (by rw [hμ]; simp only [gI_e, List.getD_cons_succ, List.getD_cons_zero]; omega)⟩
      rw [hJd]
      exact ⟨rfl, n + 1, by omega, by rw [e0 (fun z => g z.1)]; rfl, rfl⟩
    · refine ⟨by omega, ?_, (by rw [hμ]; simp only [gI_e, List.getD_cons_succ, List.getD_cons_zero]; omega)⟩
      rw [hJd]
      exact ⟨rfl, n + 1, by omega, by rw [e0 (fun z => g2 z.2)]; rfl, rfl⟩
    · refine ⟨by omega, by omega, ?_, (by rw [hμ]; simp only [gI_e, List.getD_cons_succ, List.getD_cons_zero]; omega)⟩
      rw [hJd]
      exact ⟨rfl, n + 1, by omega, by rw [e1 ⟨g, g2⟩]; rfl, rfl⟩

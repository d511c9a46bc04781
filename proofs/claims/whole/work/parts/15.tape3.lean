theorem wd_1le {s : Int} (h : 0 ≤ s ∧ s < 6) : 1 ≤ wd s := by
  unfold wd
  repeat' split
  all_goals omega
def TF_Tape_closesAt (o : Nat) (p : Int) (sz sl : Nat) (lay : Nat → Nat × Int) (ρ : Nat → Int → Nat) (σ : Nat → Int → Int) (τ : Nat → Int → Int64) (k : Option AV → Mm → Prop) : Prop := LTape lay ρ o ∧ (0 ≤ σ o 1 ∧ σ o 1 ≤ 8000) ∧ (p = σ o 1 ∨ (0 ≤ p ∧ p < σ o 1 ∧ σ (o + 1) p % 256 = 10) → k (some (vI (1))) (sz, sl, lay, ρ, σ, τ)) ∧ (¬ (p = σ o 1 ∨ (0 ≤ p ∧ p < σ o 1 ∧ σ (o + 1) p % 256 = 10)) → k (some (vI (0))) (sz, sl, lay, ρ, σ, τ))
def T_Tape_closesAt : Tr := mkT 6 fun o as M k => pI as fun p as => as = [] ∧ TF_Tape_closesAt o p M.1 M.2.1 M.2.2.1 M.2.2.2.1 M.2.2.2.2.1 M.2.2.2.2.2 k
theorem T_Tape_closesAt_e {o : Nat} {p : Int} {sz sl : Nat} {lay : Nat → Nat × Int} {ρ : Nat → Int → Nat} {σ : Nat → Int → Int} {τ : Nat → Int → Int64} {k : Option AV → Mm → Prop} : T_Tape_closesAt [vR o, vI p] (sz, sl, lay, ρ, σ, τ) k = (lay o = (16, 0) ∧ TF_Tape_closesAt o p sz sl lay ρ σ τ k) := by simp [T_Tape_closesAt, mkT_e, pI_e, pR_e, pL_e]
theorem T_Tape_closesAt_r (as : List AV) (M : Mm) (k : Option AV → Mm → Prop) (h : T_Tape_closesAt as M k) : ∃ b As, as = vR b :: As ∧ M.2.2.1 b = (10 + 6, 0) := by
  obtain ⟨b, As, h1, h2, -⟩ := mkT_r h
  exact ⟨b, As, h1, h2⟩
def tb_Tape_closesAt : List (Nat × Option (List Nat) × Instr × List Nat) := [(0, none, .iload_n 1, []), (1, none, .aload_n 0, []), (2, none, .getfield 15, []), (5, none, .if_icmp .eq 13, [18]), (8, none, .aload_n 0, []), (9, none, .iload_n 1, []), (10, none, .invokevirtual 19, []), (13, none, .bipush 10, []), (15, none, .if_icmp .ne 7, [22]), (18, none, .iconst 1, []), (19, none, .goto 4, [23]), (22, none, .iconst 0, []), (23, none, .ireturn, [])]
def P_Tape_closesAt : Nat → Option (List Nat) × Instr × List Nat := plk tb_Tape_closesAt
theorem r_Tape_closesAt_0 : P_Tape_closesAt 0 = (none, .iload_n 1, []) := by decide +kernel
theorem r_Tape_closesAt_1 : P_Tape_closesAt 1 = (none, .aload_n 0, []) := by decide +kernel
theorem r_Tape_closesAt_2 : P_Tape_closesAt 2 = (none, .getfield 15, []) := by decide +kernel
theorem r_Tape_closesAt_5 : P_Tape_closesAt 5 = (none, .if_icmp .eq 13, [18]) := by decide +kernel
theorem r_Tape_closesAt_8 : P_Tape_closesAt 8 = (none, .aload_n 0, []) := by decide +kernel
theorem r_Tape_closesAt_9 : P_Tape_closesAt 9 = (none, .iload_n 1, []) := by decide +kernel
theorem r_Tape_closesAt_10 : P_Tape_closesAt 10 = (none, .invokevirtual 19, []) := by decide +kernel
theorem r_Tape_closesAt_13 : P_Tape_closesAt 13 = (none, .bipush 10, []) := by decide +kernel
theorem r_Tape_closesAt_15 : P_Tape_closesAt 15 = (none, .if_icmp .ne 7, [22]) := by decide +kernel
theorem r_Tape_closesAt_18 : P_Tape_closesAt 18 = (none, .iconst 1, []) := by decide +kernel
theorem r_Tape_closesAt_19 : P_Tape_closesAt 19 = (none, .goto 4, [23]) := by decide +kernel
theorem r_Tape_closesAt_22 : P_Tape_closesAt 22 = (none, .iconst 0, []) := by decide +kernel
theorem r_Tape_closesAt_23 : P_Tape_closesAt 23 = (none, .ireturn, []) := by decide +kernel
def E_Tape_closesAt : List (Nat × Ent) := [(76, (2, 0, 0, 0, T_Tape_at))]
def X_Tape_closesAt : Cx := (llk (0, 0, 9) ftX6, llk 99 ntX6, llk none kcX6, llk none klX6, llk dEnt E_Tape_closesAt, 1, 1, false)
theorem xok_Tape_closesAt : Xok RX6 X_Tape_closesAt := xok_of ftX6_ok ntX6_ok kcX6_ok klX6_ok (E := E_Tape_closesAt) (List.forall_mem_cons.mpr ⟨co_X6_76, fun _ h => absurd h List.not_mem_nil⟩)
theorem xf_Tape_closesAt_15 : xfl X_Tape_closesAt 15 = (6, 1, 0) := by decide +kernel
theorem xe_Tape_closesAt_76 : xE X_Tape_closesAt (4 * 19 + 0) = (2, 0, 0, 0, T_Tape_at) := rfl
theorem xd_Tape_closesAt : xd X_Tape_closesAt = 1 := rfl
theorem xrb_Tape_closesAt : xrb X_Tape_closesAt = 1 := rfl
theorem xin_Tape_closesAt : xin X_Tape_closesAt = false := rfl
set_option maxHeartbeats 4000000 in
set_option maxRecDepth 100000 in
theorem S_Tape_closesAt : Snd yX6_closesAt cX6_closesAt 2 (some .boolean) T_Tape_closesAt 1 0 0 := by
  refine snd_of (X := X_Tape_closesAt) (P := P_Tape_closesAt) (tb := tb_Tape_closesAt) (own := RX6) (by decide) rfl rfl (by decide +kernel) xok_Tape_closesAt rfl rk1 (fun h => by first | rfl | cases h) ?_
  intro as M k has hM hT0
  obtain ⟨sz, sl, lay, ρ, σ, τ⟩ := M
  obtain ⟨o, as1, e, hlo, hT1⟩ := mkT_r hT0
  clear hT0
  subst e
  obtain ⟨p, as2, e, hT2⟩ := pI_x hT1
  clear hT1
  subst e
  obtain ⟨e, hT⟩ := hT2
  subst e
  replace hlo : lay o = (16, 0) := hlo
  have r_p : -2147483648 ≤ p ∧ p ≤ 2147483647 := has (vI p) (by simp)
  clear has
  replace hM : ∀ a i, -2147483648 ≤ σ a i ∧ σ a i ≤ 2147483647 := hM
  replace hT : TF_Tape_closesAt o p sz sl lay ρ σ τ k := hT
  unfold TF_Tape_closesAt at hT
  obtain ⟨hL, hn, h1, h0⟩ := hT
  obtain ⟨lh, lp0, lq0⟩ := (show LTape lay ρ _ from hL)
  refine ⟨Nat.le_of_ble_eq_true rfl, fun _ _ _ => False, fun _ _ _ => 0, 21, ?_, fun _ _ _ _ _ _ h => h.elim⟩
  unfold wps
  simp only [si_iload_n0, si_iload_n1, si_iload_n2, si_iload_n3, si_iload, si_lload_n0, si_lload_n1, si_lload_n2, si_lload_n3, si_lload, si_aload_n0, si_aload_n1, si_aload_n2, si_aload_n3, si_aload, si_istore_n0, si_istore_n1, si_istore_n2, si_istore_n3, si_istore, si_astore_n0, si_astore_n1, si_astore_n2, si_astore_n3, si_astore, si_lstore_n0, si_lstore_n1, si_lstore_n2, si_lstore_n3, si_lstore, si_iconst, si_bipush, si_sipush, si_ldc, si_ldc2_w, si_lconst0, si_lconst1, si_aconst_null, si_iinc, si_dup, si_dup2, si_iadd, si_isub, si_imul, si_idiv, si_irem, si_iand, si_ior, si_ishl, si_ishr, si_ladd, si_lmul, si_lor, si_lxor, si_lshl, si_lushr, si_lcmp, si_i2b, si_i2l, si_l2i, si_icmp_eq, si_icmp_ne, si_icmp_lt, si_icmp_ge, si_icmp_gt, si_icmp_le, si_if_eq, si_if_ne, si_if_lt, si_if_ge, si_if_gt, si_if_le, si_ifnull, si_ifnonnull, si_goto, si_tableswitch, si_lookupswitch, si_getfield, si_putfield, si_getstatic, si_iaload, si_baload, si_laload, si_aaload, si_iastore, si_bastore, si_lastore, si_aastore, si_arraylength, si_new, si_newarray, si_anewarray, si_invokevirtual, si_invokespecial, si_invokestatic, si_ireturn, si_lreturn, si_areturn, si_return_, pI_e, pL_e, pR_e, pA_r, pA_n, pN_n, pN_r, oI_e, oL_e, oA_r, oA_n, lget_e, lrm1_0, lrm2_0, lrm1_i, lrm1_r, lrm1_n, lrm1_l, lrm2_i, lrm2_r, lrm2_n, lrm2_l, popN_0, popN_s, acat_i, acat_l, acat_r, acat_n, stw_0, stw_s, psh_s, psh_n, wgf_r, wgf_i, wgf_b, wgf_n, wgf_m, wpf_i, wpf_r, wpf_b, wnew_e, callE_e, rbk_0, rbk_1, tsw_0, tsw_s, lsw_0, lsw_s, wp_s, wq_t, wq_f, oV_e, pick_0, pick_s, oZ_e, oY_e, r_Tape_closesAt_0, r_Tape_closesAt_1, r_Tape_closesAt_2, r_Tape_closesAt_5, r_Tape_closesAt_8, r_Tape_closesAt_9, r_Tape_closesAt_10, r_Tape_closesAt_13, r_Tape_closesAt_15, r_Tape_closesAt_18, r_Tape_closesAt_19, r_Tape_closesAt_22, r_Tape_closesAt_23, xf_Tape_closesAt_15, xe_Tape_closesAt_76, xd_Tape_closesAt, xrb_Tape_closesAt, xin_Tape_closesAt, T_Tape_at_e, TF_Tape_at, lh, lp0, lq0, Nat.reduceAdd, Nat.reduceMul, Nat.reduceEqDiff, reduceIte, Int.reduceNeg, Int.reduceLE, Int.reduceLT, Int.reduceAdd, Int.reduceSub, Int.reduceToNat, true_and, and_true, inR_e, Nat.reduceLT, Nat.reduceLeDiff, reduceCtorEq, Nat.add_zero, Nat.zero_add, or_false, false_or, or_true, true_or, not_true_eq_false, not_false_eq_true, Classical.not_not, Nat.add_eq_zero_iff, and_false, false_and, Int.reduceEq, List.mem_cons, List.not_mem_nil, forall_eq_or_imp, forall_eq, false_implies, implies_true, forall_const, aargs_0, aargs_i, aargs_r, aargs_l, aargs_n, nfT_e, eq_self, and_self, Nat.le_refl, fu_s, fu_fu, iu_iu, iu_s, fu_am, fu_a0, fu_0a, iu_l, Nat.reduceBEq, Int.reduceBEq, T_objInit_e]
  repeat' (first | assumption | intro _ | apply And.intro)
  all_goals first | omega | assumption | (exact h1 (by omega)) | (exact h0 (by omega)) | (exact h1 ⟨by omega, by omega⟩) | (exact h0 ⟨by omega, by omega⟩) | (exact h1 ⟨by omega, by omega, by omega⟩) | (exact h0 ⟨by omega, by omega, by omega⟩) | (exact h1 (Or.inr ⟨by omega, by omega, by omega⟩))
def TF_Tape_tornFrom (o : Nat) (p : Int) (sz sl : Nat) (lay : Nat → Nat × Int) (ρ : Nat → Int → Nat) (σ : Nat → Int → Int) (τ : Nat → Int → Int64) (k : Option AV → Mm → Prop) : Prop := LTape lay ρ o ∧ (0 ≤ σ o 1 ∧ σ o 1 ≤ 8000) ∧ (0 ≤ p ∧ p < σ o 1) ∧ k (some (vI (nxm (fun i => σ (o + 1) i % 256) (σ o 1) (p + 1) - p))) (sz, sl, lay, ρ, σ, τ)
def T_Tape_tornFrom : Tr := mkT 6 fun o as M k => pI as fun p as => as = [] ∧ TF_Tape_tornFrom o p M.1 M.2.1 M.2.2.1 M.2.2.2.1 M.2.2.2.2.1 M.2.2.2.2.2 k
theorem T_Tape_tornFrom_e {o : Nat} {p : Int} {sz sl : Nat} {lay : Nat → Nat × Int} {ρ : Nat → Int → Nat} {σ : Nat → Int → Int} {τ : Nat → Int → Int64} {k : Option AV → Mm → Prop} : T_Tape_tornFrom [vR o, vI p] (sz, sl, lay, ρ, σ, τ) k = (lay o = (16, 0) ∧ TF_Tape_tornFrom o p sz sl lay ρ σ τ k) := by simp [T_Tape_tornFrom, mkT_e, pI_e, pR_e, pL_e]
theorem T_Tape_tornFrom_r (as : List AV) (M : Mm) (k : Option AV → Mm → Prop) (h : T_Tape_tornFrom as M k) : ∃ b As, as = vR b :: As ∧ M.2.2.1 b = (10 + 6, 0) := by
  obtain ⟨b, As, h1, h2, -⟩ := mkT_r h
  exact ⟨b, As, h1, h2⟩
def tb_Tape_tornFrom : List (Nat × Option (List Nat) × Instr × List Nat) := [(0, none, .iload_n 1, []), (1, none, .iconst 1, []), (2, none, .iadd, []), (3, none, .istore_n 2, []), (4, some [0, 1, 2], .iload_n 2, []), (5, none, .aload_n 0, []), (6, none, .getfield 15, []), (9, none, .if_icmp .ge 19, [28]), (12, none, .aload_n 0, []), (13, none, .iload_n 2, []), (14, none, .invokevirtual 19, []), (17, none, .bipush 10, []), (19, none, .if_icmp .eq 9, [28]), (22, none, .iinc 2 1, []), (25, none, .goto (-21), [4]), (28, none, .iload_n 2, []), (29, none, .iload_n 1, []), (30, none, .isub, []), (31, none, .ireturn, [])]
def P_Tape_tornFrom : Nat → Option (List Nat) × Instr × List Nat := plk tb_Tape_tornFrom
theorem r_Tape_tornFrom_0 : P_Tape_tornFrom 0 = (none, .iload_n 1, []) := by decide +kernel
theorem r_Tape_tornFrom_1 : P_Tape_tornFrom 1 = (none, .iconst 1, []) := by decide +kernel
theorem r_Tape_tornFrom_2 : P_Tape_tornFrom 2 = (none, .iadd, []) := by decide +kernel
theorem r_Tape_tornFrom_3 : P_Tape_tornFrom 3 = (none, .istore_n 2, []) := by decide +kernel
theorem r_Tape_tornFrom_4 : P_Tape_tornFrom 4 = (some [0, 1, 2], .iload_n 2, []) := by decide +kernel
theorem r_Tape_tornFrom_5 : P_Tape_tornFrom 5 = (none, .aload_n 0, []) := by decide +kernel
theorem r_Tape_tornFrom_6 : P_Tape_tornFrom 6 = (none, .getfield 15, []) := by decide +kernel
theorem r_Tape_tornFrom_9 : P_Tape_tornFrom 9 = (none, .if_icmp .ge 19, [28]) := by decide +kernel
theorem r_Tape_tornFrom_12 : P_Tape_tornFrom 12 = (none, .aload_n 0, []) := by decide +kernel
theorem r_Tape_tornFrom_13 : P_Tape_tornFrom 13 = (none, .iload_n 2, []) := by decide +kernel
theorem r_Tape_tornFrom_14 : P_Tape_tornFrom 14 = (none, .invokevirtual 19, []) := by decide +kernel
theorem r_Tape_tornFrom_17 : P_Tape_tornFrom 17 = (none, .bipush 10, []) := by decide +kernel
theorem r_Tape_tornFrom_19 : P_Tape_tornFrom 19 = (none, .if_icmp .eq 9, [28]) := by decide +kernel
theorem r_Tape_tornFrom_22 : P_Tape_tornFrom 22 = (none, .iinc 2 1, []) := by decide +kernel
theorem r_Tape_tornFrom_25 : P_Tape_tornFrom 25 = (none, .goto (-21), [4]) := by decide +kernel
theorem r_Tape_tornFrom_28 : P_Tape_tornFrom 28 = (none, .iload_n 2, []) := by decide +kernel
theorem r_Tape_tornFrom_29 : P_Tape_tornFrom 29 = (none, .iload_n 1, []) := by decide +kernel
theorem r_Tape_tornFrom_30 : P_Tape_tornFrom 30 = (none, .isub, []) := by decide +kernel
theorem r_Tape_tornFrom_31 : P_Tape_tornFrom 31 = (none, .ireturn, []) := by decide +kernel
def E_Tape_tornFrom : List (Nat × Ent) := [(76, (2, 0, 0, 0, T_Tape_at))]
def X_Tape_tornFrom : Cx := (llk (0, 0, 9) ftX6, llk 99 ntX6, llk none kcX6, llk none klX6, llk dEnt E_Tape_tornFrom, 1, 0, false)
theorem xok_Tape_tornFrom : Xok RX6 X_Tape_tornFrom := xok_of ftX6_ok ntX6_ok kcX6_ok klX6_ok (E := E_Tape_tornFrom) (List.forall_mem_cons.mpr ⟨co_X6_76, fun _ h => absurd h List.not_mem_nil⟩)
theorem xf_Tape_tornFrom_15 : xfl X_Tape_tornFrom 15 = (6, 1, 0) := by decide +kernel
theorem xe_Tape_tornFrom_76 : xE X_Tape_tornFrom (4 * 19 + 0) = (2, 0, 0, 0, T_Tape_at) := rfl
theorem xd_Tape_tornFrom : xd X_Tape_tornFrom = 1 := rfl
theorem xrb_Tape_tornFrom : xrb X_Tape_tornFrom = 0 := rfl
theorem xin_Tape_tornFrom : xin X_Tape_tornFrom = false := rfl
set_option maxHeartbeats 4000000 in
set_option maxRecDepth 100000 in
theorem S_Tape_tornFrom : Snd yX6_tornFrom cX6_tornFrom 3 (some .int) T_Tape_tornFrom 1 0 0 := by
  refine snd_of (X := X_Tape_tornFrom) (P := P_Tape_tornFrom) (tb := tb_Tape_tornFrom) (own := RX6) (by decide) rfl rfl (by decide +kernel) xok_Tape_tornFrom rfl rk0 (fun h => by first | rfl | cases h) ?_
  intro as M k has hM hT0
  obtain ⟨sz, sl, lay, ρ, σ, τ⟩ := M
  obtain ⟨o, as1, e, hlo, hT1⟩ := mkT_r hT0
  clear hT0
  subst e
  obtain ⟨p, as2, e, hT2⟩ := pI_x hT1
  clear hT1
  subst e
  obtain ⟨e, hT⟩ := hT2
  subst e
  replace hlo : lay o = (16, 0) := hlo
  have r_p : -2147483648 ≤ p ∧ p ≤ 2147483647 := has (vI p) (by simp)
  clear has
  replace hM : ∀ a i, -2147483648 ≤ σ a i ∧ σ a i ≤ 2147483647 := hM
  replace hT : TF_Tape_tornFrom o p sz sl lay ρ σ τ k := hT
  unfold TF_Tape_tornFrom at hT
  obtain ⟨hL, hn, hp, hT⟩ := hT
  obtain ⟨lh, lp0, lq0⟩ := (show LTape lay ρ _ from hL)
  obtain ⟨J, hJd⟩ : ∃ J : Nat → List AV → Mm → Prop, J = (fun c vs M1 => c = 4 ∧ ∃ q : Int, p + 1 ≤ q ∧ q ≤ σ o 1 ∧ nxm (fun i => σ (o + 1) i % 256) (σ o 1) q = nxm (fun i => σ (o + 1) i % 256) (σ o 1) (p + 1) ∧ vs = [vR o, vI p, vI q] ∧ M1 = (sz, sl, lay, ρ, σ, τ)) := ⟨_, rfl⟩
  obtain ⟨μ, hμ⟩ : ∃ μ : Nat → List AV → Mm → Nat, μ = (fun _ vs _ => (σ o 1 - gI (vs.getD 2 vN)).toNat) := ⟨_, rfl⟩
  refine ⟨Nat.le_of_ble_eq_true rfl, J, μ, 27, ?_, ?_⟩
  · unfold wps
    simp only [si_iload_n0, si_iload_n1, si_iload_n2, si_iload_n3, si_iload, si_lload_n0, si_lload_n1, si_lload_n2, si_lload_n3, si_lload, si_aload_n0, si_aload_n1, si_aload_n2, si_aload_n3, si_aload, si_istore_n0, si_istore_n1, si_istore_n2, si_istore_n3, si_istore, si_astore_n0, si_astore_n1, si_astore_n2, si_astore_n3, si_astore, si_lstore_n0, si_lstore_n1, si_lstore_n2, si_lstore_n3, si_lstore, si_iconst, si_bipush, si_sipush, si_ldc, si_ldc2_w, si_lconst0, si_lconst1, si_aconst_null, si_iinc, si_dup, si_dup2, si_iadd, si_isub, si_imul, si_idiv, si_irem, si_iand, si_ior, si_ishl, si_ishr, si_ladd, si_lmul, si_lor, si_lxor, si_lshl, si_lushr, si_lcmp, si_i2b, si_i2l, si_l2i, si_icmp_eq, si_icmp_ne, si_icmp_lt, si_icmp_ge, si_icmp_gt, si_icmp_le, si_if_eq, si_if_ne, si_if_lt, si_if_ge, si_if_gt, si_if_le, si_ifnull, si_ifnonnull, si_goto, si_tableswitch, si_lookupswitch, si_getfield, si_putfield, si_getstatic, si_iaload, si_baload, si_laload, si_aaload, si_iastore, si_bastore, si_lastore, si_aastore, si_arraylength, si_new, si_newarray, si_anewarray, si_invokevirtual, si_invokespecial, si_invokestatic, si_ireturn, si_lreturn, si_areturn, si_return_, pI_e, pL_e, pR_e, pA_r, pA_n, pN_n, pN_r, oI_e, oL_e, oA_r, oA_n, lget_e, lrm1_0, lrm2_0, lrm1_i, lrm1_r, lrm1_n, lrm1_l, lrm2_i, lrm2_r, lrm2_n, lrm2_l, popN_0, popN_s, acat_i, acat_l, acat_r, acat_n, stw_0, stw_s, psh_s, psh_n, wgf_r, wgf_i, wgf_b, wgf_n, wgf_m, wpf_i, wpf_r, wpf_b, wnew_e, callE_e, rbk_0, rbk_1, tsw_0, tsw_s, lsw_0, lsw_s, wp_s, wq_t, wq_f, oV_e, pick_0, pick_s, oZ_e, oY_e, r_Tape_tornFrom_0, r_Tape_tornFrom_1, r_Tape_tornFrom_2, r_Tape_tornFrom_3, r_Tape_tornFrom_4, r_Tape_tornFrom_5, r_Tape_tornFrom_6, r_Tape_tornFrom_9, r_Tape_tornFrom_12, r_Tape_tornFrom_13, r_Tape_tornFrom_14, r_Tape_tornFrom_17, r_Tape_tornFrom_19, r_Tape_tornFrom_22, r_Tape_tornFrom_25, r_Tape_tornFrom_28, r_Tape_tornFrom_29, r_Tape_tornFrom_30, r_Tape_tornFrom_31, xf_Tape_tornFrom_15, xe_Tape_tornFrom_76, xd_Tape_tornFrom, xrb_Tape_tornFrom, xin_Tape_tornFrom, T_Tape_at_e, TF_Tape_at, lh, lp0, lq0, Nat.reduceAdd, Nat.reduceMul, Nat.reduceEqDiff, reduceIte, Int.reduceNeg, Int.reduceLE, Int.reduceLT, Int.reduceAdd, Int.reduceSub, Int.reduceToNat, true_and, and_true, inR_e, Nat.reduceLT, Nat.reduceLeDiff, reduceCtorEq, Nat.add_zero, Nat.zero_add, or_false, false_or, or_true, true_or, not_true_eq_false, not_false_eq_true, Classical.not_not, Nat.add_eq_zero_iff, and_false, false_and, Int.reduceEq, List.mem_cons, List.not_mem_nil, forall_eq_or_imp, forall_eq, false_implies, implies_true, forall_const, aargs_0, aargs_i, aargs_r, aargs_l, aargs_n, nfT_e, eq_self, and_self, Nat.le_refl, fu_s, fu_fu, iu_iu, iu_s, fu_am, fu_a0, fu_0a, iu_l, Nat.reduceBEq, Int.reduceBEq, T_objInit_e]
    refine ⟨⟨by omega, by omega⟩, ?_⟩
    rw [hJd]
    exact ⟨rfl, p + 1, by omega, by omega, rfl, rfl, rfl⟩
  · intro cp vs M1 hvs hM1 hlen hJ
    rw [hJd] at hJ
    obtain ⟨rfl, q, h1, h2, h3, rfl, rfl⟩ := hJ
    unfold wps
    simp only [Option.getD_some, List.zip_cons_cons, List.zip_nil_left, List.zip_nil_right, List.zip_nil_right, si_iload_n0, si_iload_n1, si_iload_n2, si_iload_n3, si_iload, si_lload_n0, si_lload_n1, si_lload_n2, si_lload_n3, si_lload, si_aload_n0, si_aload_n1, si_aload_n2, si_aload_n3, si_aload, si_istore_n0, si_istore_n1, si_istore_n2, si_istore_n3, si_istore, si_astore_n0, si_astore_n1, si_astore_n2, si_astore_n3, si_astore, si_lstore_n0, si_lstore_n1, si_lstore_n2, si_lstore_n3, si_lstore, si_iconst, si_bipush, si_sipush, si_ldc, si_ldc2_w, si_lconst0, si_lconst1, si_aconst_null, si_iinc, si_dup, si_dup2, si_iadd, si_isub, si_imul, si_idiv, si_irem, si_iand, si_ior, si_ishl, si_ishr, si_ladd, si_lmul, si_lor, si_lxor, si_lshl, si_lushr, si_lcmp, si_i2b, si_i2l, si_l2i, si_icmp_eq, si_icmp_ne, si_icmp_lt, si_icmp_ge, si_icmp_gt, si_icmp_le, si_if_eq, si_if_ne, si_if_lt, si_if_ge, si_if_gt, si_if_le, si_ifnull, si_ifnonnull, si_goto, si_tableswitch, si_lookupswitch, si_getfield, si_putfield, si_getstatic, si_iaload, si_baload, si_laload, si_aaload, si_iastore, si_bastore, si_lastore, si_aastore, si_arraylength, si_new, si_newarray, si_anewarray, si_invokevirtual, si_invokespecial, si_invokestatic, si_ireturn, si_lreturn, si_areturn, si_return_, pI_e, pL_e, pR_e, pA_r, pA_n, pN_n, pN_r, oI_e, oL_e, oA_r, oA_n, lget_e, lrm1_0, lrm2_0, lrm1_i, lrm1_r, lrm1_n, lrm1_l, lrm2_i, lrm2_r, lrm2_n, lrm2_l, popN_0, popN_s, acat_i, acat_l, acat_r, acat_n, stw_0, stw_s, psh_s, psh_n, wgf_r, wgf_i, wgf_b, wgf_n, wgf_m, wpf_i, wpf_r, wpf_b, wnew_e, callE_e, rbk_0, rbk_1, tsw_0, tsw_s, lsw_0, lsw_s, wp_s, wq_t, wq_f, oV_e, pick_0, pick_s, oZ_e, oY_e, r_Tape_tornFrom_0, r_Tape_tornFrom_1, r_Tape_tornFrom_2, r_Tape_tornFrom_3, r_Tape_tornFrom_4, r_Tape_tornFrom_5, r_Tape_tornFrom_6, r_Tape_tornFrom_9, r_Tape_tornFrom_12, r_Tape_tornFrom_13, r_Tape_tornFrom_14, r_Tape_tornFrom_17, r_Tape_tornFrom_19, r_Tape_tornFrom_22, r_Tape_tornFrom_25, r_Tape_tornFrom_28, r_Tape_tornFrom_29, r_Tape_tornFrom_30, r_Tape_tornFrom_31, xf_Tape_tornFrom_15, xe_Tape_tornFrom_76, xd_Tape_tornFrom, xrb_Tape_tornFrom, xin_Tape_tornFrom, T_Tape_at_e, TF_Tape_at, lh, lp0, lq0, Nat.reduceAdd, Nat.reduceMul, Nat.reduceEqDiff, reduceIte, Int.reduceNeg, Int.reduceLE, Int.reduceLT, Int.reduceAdd, Int.reduceSub, Int.reduceToNat, true_and, and_true, inR_e, Nat.reduceLT, Nat.reduceLeDiff, reduceCtorEq, Nat.add_zero, Nat.zero_add, or_false, false_or, or_true, true_or, not_true_eq_false, not_false_eq_true, Classical.not_not, Nat.add_eq_zero_iff, and_false, false_and, Int.reduceEq, List.mem_cons, List.not_mem_nil, forall_eq_or_imp, forall_eq, false_implies, implies_true, forall_const, aargs_0, aargs_i, aargs_r, aargs_l, aargs_n, nfT_e, eq_self, and_self, Nat.le_refl, fu_s, fu_fu, iu_iu, iu_s, fu_am, fu_a0, fu_0a, iu_l, Nat.reduceBEq, Int.reduceBEq, T_objInit_e]
    refine ⟨fun h => ?_, fun h => ?_⟩
    · rw [nxm_out (Or.inl (by omega))] at h3
      rw [← h3] at hT
      exact ⟨by omega, hT⟩
    · refine ⟨hL, hn, fun a => ⟨fun h5 => ?_, fun h5 => ?_⟩, fun a => absurd a (by omega)⟩
      · rw [nxm_out (b := fun i => σ (o + 1) i % 256) (Or.inr h5)] at h3
        rw [← h3] at hT
        exact ⟨by omega, hT⟩
      · refine ⟨by omega, ?_, (by rw [hμ]; simp only [gI_e, List.getD_cons_succ, List.getD_cons_zero]; omega)⟩
        rw [hJd]
        exact ⟨rfl, q + 1, by omega, by omega, by rw [← h3]; exact (nxm_in (b := fun i => σ (o + 1) i % 256) (by omega) h5).symm, rfl, rfl⟩
theorem co_X6_106 : CallOK RX6 (.invokestatic 26) (1, 0, 0, 0, T_PR_widthOf) := call_S S_PR_widthOf (by decide) (by decide +kernel) (Or.inr (by decide +kernel)) (by decide +kernel) (by decide +kernel) (by decide +kernel)
theorem co_X6_92 : CallOK RX6 (.invokevirtual 23) (2, 1, 0, 0, T_Tape_pairAt) := call_V S_Tape_pairAt (by decide) (ci := 6) rfl (by decide +kernel) (by decide +kernel) (by decide +kernel) (by decide +kernel) (by decide +kernel) (by decide +kernel) T_Tape_pairAt_r
def TF_Tape_valueAt (o : Nat) (p : Int) (s : Int) (sz sl : Nat) (lay : Nat → Nat × Int) (ρ : Nat → Int → Nat) (σ : Nat → Int → Int) (τ : Nat → Int → Int64) (k : Option AV → Mm → Prop) : Prop := LTape lay ρ o ∧ (0 ≤ σ o 1 ∧ σ o 1 ≤ 8000) ∧ Wd lay ρ σ ∧ 0 ≤ p ∧ (0 ≤ s ∧ s < 6) ∧ p + wd s ≤ σ o 1 ∧ (s = 5 → k (some (vL (Int64.ofInt (256 * (σ (o + 1) p % 256) + σ (o + 1) (p + 1) % 256)))) (sz, sl, lay, ρ, σ, τ)) ∧ (¬ s = 5 → k (some (vL (Int64.ofInt (beZ (fun i => σ (o + 1) i % 256) p (wd s).toNat (if 127 < σ (o + 1) p % 256 then -1 else 0))))) (sz, sl, lay, ρ, σ, τ))
def T_Tape_valueAt : Tr := mkT 6 fun o as M k => pI as fun p as => pI as fun s as => as = [] ∧ TF_Tape_valueAt o p s M.1 M.2.1 M.2.2.1 M.2.2.2.1 M.2.2.2.2.1 M.2.2.2.2.2 k
theorem T_Tape_valueAt_e {o : Nat} {p : Int} {s : Int} {sz sl : Nat} {lay : Nat → Nat × Int} {ρ : Nat → Int → Nat} {σ : Nat → Int → Int} {τ : Nat → Int → Int64} {k : Option AV → Mm → Prop} : T_Tape_valueAt [vR o, vI p, vI s] (sz, sl, lay, ρ, σ, τ) k = (lay o = (16, 0) ∧ TF_Tape_valueAt o p s sz sl lay ρ σ τ k) := by simp [T_Tape_valueAt, mkT_e, pI_e, pR_e, pL_e]
theorem T_Tape_valueAt_r (as : List AV) (M : Mm) (k : Option AV → Mm → Prop) (h : T_Tape_valueAt as M k) : ∃ b As, as = vR b :: As ∧ M.2.2.1 b = (10 + 6, 0) := by
  obtain ⟨b, As, h1, h2, -⟩ := mkT_r h
  exact ⟨b, As, h1, h2⟩
def tb_Tape_valueAt : List (Nat × Option (List Nat) × Instr × List Nat) := [(0, none, .iload_n 2, []), (1, none, .iconst 5, []), (2, none, .if_icmp .ne 10, [12]), (5, none, .aload_n 0, []), (6, none, .iload_n 1, []), (7, none, .invokevirtual 23, []), (10, none, .i2l, []), (11, none, .lreturn, []), (12, none, .iload_n 2, []), (13, none, .invokestatic 26, []), (16, none, .istore_n 3, []), (17, none, .aload_n 0, []), (18, none, .iload_n 1, []), (19, none, .invokevirtual 19, []), (22, none, .bipush 127, []), (24, none, .if_icmp .le 9, [33]), (27, none, .ldc2_w 29, []), (30, none, .goto 4, [34]), (33, none, .lconst 0, []), (34, none, .lstore 4, []), (36, none, .iconst 0, []), (37, none, .istore 6, []), (39, some [0, 1, 2, 3, 4, 6], .iload 6, []), (41, none, .iload_n 3, []), (42, none, .if_icmp .ge 30, [72]), (45, none, .lload 4, []), (47, none, .bipush 8, []), (49, none, .lshl, []), (50, none, .aload_n 0, []), (51, none, .iload_n 1, []), (52, none, .iload 6, []), (54, none, .iadd, []), (55, none, .invokevirtual 19, []), (58, none, .sipush 255, []), (61, none, .iand, []), (62, none, .i2l, []), (63, none, .lor, []), (64, none, .lstore 4, []), (66, none, .iinc 6 1, []), (69, none, .goto (-30), [39]), (72, none, .lload 4, []), (74, none, .lreturn, [])]
def P_Tape_valueAt : Nat → Option (List Nat) × Instr × List Nat := plk tb_Tape_valueAt
theorem r_Tape_valueAt_0 : P_Tape_valueAt 0 = (none, .iload_n 2, []) := by decide +kernel
theorem r_Tape_valueAt_1 : P_Tape_valueAt 1 = (none, .iconst 5, []) := by decide +kernel
theorem r_Tape_valueAt_2 : P_Tape_valueAt 2 = (none, .if_icmp .ne 10, [12]) := by decide +kernel
theorem r_Tape_valueAt_5 : P_Tape_valueAt 5 = (none, .aload_n 0, []) := by decide +kernel
theorem r_Tape_valueAt_6 : P_Tape_valueAt 6 = (none, .iload_n 1, []) := by decide +kernel
theorem r_Tape_valueAt_7 : P_Tape_valueAt 7 = (none, .invokevirtual 23, []) := by decide +kernel
theorem r_Tape_valueAt_10 : P_Tape_valueAt 10 = (none, .i2l, []) := by decide +kernel
theorem r_Tape_valueAt_11 : P_Tape_valueAt 11 = (none, .lreturn, []) := by decide +kernel
theorem r_Tape_valueAt_12 : P_Tape_valueAt 12 = (none, .iload_n 2, []) := by decide +kernel
theorem r_Tape_valueAt_13 : P_Tape_valueAt 13 = (none, .invokestatic 26, []) := by decide +kernel
theorem r_Tape_valueAt_16 : P_Tape_valueAt 16 = (none, .istore_n 3, []) := by decide +kernel
theorem r_Tape_valueAt_17 : P_Tape_valueAt 17 = (none, .aload_n 0, []) := by decide +kernel
theorem r_Tape_valueAt_18 : P_Tape_valueAt 18 = (none, .iload_n 1, []) := by decide +kernel
theorem r_Tape_valueAt_19 : P_Tape_valueAt 19 = (none, .invokevirtual 19, []) := by decide +kernel
theorem r_Tape_valueAt_22 : P_Tape_valueAt 22 = (none, .bipush 127, []) := by decide +kernel
theorem r_Tape_valueAt_24 : P_Tape_valueAt 24 = (none, .if_icmp .le 9, [33]) := by decide +kernel
theorem r_Tape_valueAt_27 : P_Tape_valueAt 27 = (none, .ldc2_w 29, []) := by decide +kernel
theorem r_Tape_valueAt_30 : P_Tape_valueAt 30 = (none, .goto 4, [34]) := by decide +kernel
theorem r_Tape_valueAt_33 : P_Tape_valueAt 33 = (none, .lconst 0, []) := by decide +kernel
theorem r_Tape_valueAt_34 : P_Tape_valueAt 34 = (none, .lstore 4, []) := by decide +kernel
theorem r_Tape_valueAt_36 : P_Tape_valueAt 36 = (none, .iconst 0, []) := by decide +kernel
theorem r_Tape_valueAt_37 : P_Tape_valueAt 37 = (none, .istore 6, []) := by decide +kernel
theorem r_Tape_valueAt_39 : P_Tape_valueAt 39 = (some [0, 1, 2, 3, 4, 6], .iload 6, []) := by decide +kernel
theorem r_Tape_valueAt_41 : P_Tape_valueAt 41 = (none, .iload_n 3, []) := by decide +kernel
theorem r_Tape_valueAt_42 : P_Tape_valueAt 42 = (none, .if_icmp .ge 30, [72]) := by decide +kernel
theorem r_Tape_valueAt_45 : P_Tape_valueAt 45 = (none, .lload 4, []) := by decide +kernel
theorem r_Tape_valueAt_47 : P_Tape_valueAt 47 = (none, .bipush 8, []) := by decide +kernel
theorem r_Tape_valueAt_49 : P_Tape_valueAt 49 = (none, .lshl, []) := by decide +kernel
theorem r_Tape_valueAt_50 : P_Tape_valueAt 50 = (none, .aload_n 0, []) := by decide +kernel
theorem r_Tape_valueAt_51 : P_Tape_valueAt 51 = (none, .iload_n 1, []) := by decide +kernel
theorem r_Tape_valueAt_52 : P_Tape_valueAt 52 = (none, .iload 6, []) := by decide +kernel
theorem r_Tape_valueAt_54 : P_Tape_valueAt 54 = (none, .iadd, []) := by decide +kernel
theorem r_Tape_valueAt_55 : P_Tape_valueAt 55 = (none, .invokevirtual 19, []) := by decide +kernel
theorem r_Tape_valueAt_58 : P_Tape_valueAt 58 = (none, .sipush 255, []) := by decide +kernel
theorem r_Tape_valueAt_61 : P_Tape_valueAt 61 = (none, .iand, []) := by decide +kernel
theorem r_Tape_valueAt_62 : P_Tape_valueAt 62 = (none, .i2l, []) := by decide +kernel
theorem r_Tape_valueAt_63 : P_Tape_valueAt 63 = (none, .lor, []) := by decide +kernel
theorem r_Tape_valueAt_64 : P_Tape_valueAt 64 = (none, .lstore 4, []) := by decide +kernel
theorem r_Tape_valueAt_66 : P_Tape_valueAt 66 = (none, .iinc 6 1, []) := by decide +kernel
theorem r_Tape_valueAt_69 : P_Tape_valueAt 69 = (none, .goto (-30), [39]) := by decide +kernel
theorem r_Tape_valueAt_72 : P_Tape_valueAt 72 = (none, .lload 4, []) := by decide +kernel
theorem r_Tape_valueAt_74 : P_Tape_valueAt 74 = (none, .lreturn, []) := by decide +kernel
def E_Tape_valueAt : List (Nat × Ent) := [(106, (1, 0, 0, 0, T_PR_widthOf)), (76, (2, 0, 0, 0, T_Tape_at)), (92, (2, 1, 0, 0, T_Tape_pairAt))]
def X_Tape_valueAt : Cx := (llk (0, 0, 9) ftX6, llk 99 ntX6, llk none kcX6, llk none klX6, llk dEnt E_Tape_valueAt, 2, 2, false)
theorem xok_Tape_valueAt : Xok RX6 X_Tape_valueAt := xok_of ftX6_ok ntX6_ok kcX6_ok klX6_ok (E := E_Tape_valueAt) (List.forall_mem_cons.mpr ⟨co_X6_106, List.forall_mem_cons.mpr ⟨co_X6_76, List.forall_mem_cons.mpr ⟨co_X6_92, fun _ h => absurd h List.not_mem_nil⟩⟩⟩)
theorem xl_Tape_valueAt_29 : xkl X_Tape_valueAt 29 = some (-1) := by decide +kernel
theorem xe_Tape_valueAt_106 : xE X_Tape_valueAt (4 * 26 + 2) = (1, 0, 0, 0, T_PR_widthOf) := rfl
theorem xe_Tape_valueAt_76 : xE X_Tape_valueAt (4 * 19 + 0) = (2, 0, 0, 0, T_Tape_at) := rfl
theorem xe_Tape_valueAt_92 : xE X_Tape_valueAt (4 * 23 + 0) = (2, 1, 0, 0, T_Tape_pairAt) := rfl
theorem xd_Tape_valueAt : xd X_Tape_valueAt = 2 := rfl
theorem xrb_Tape_valueAt : xrb X_Tape_valueAt = 2 := rfl
theorem xin_Tape_valueAt : xin X_Tape_valueAt = false := rfl
set_option maxHeartbeats 4000000 in
set_option maxRecDepth 100000 in
theorem S_Tape_valueAt : Snd yX6_valueAt cX6_valueAt 7 (some .long) T_Tape_valueAt 2 0 0 := by
  refine snd_of (X := X_Tape_valueAt) (P := P_Tape_valueAt) (tb := tb_Tape_valueAt) (own := RX6) (by decide) rfl rfl (by decide +kernel) xok_Tape_valueAt rfl rk2 (fun h => by first | rfl | cases h) ?_
  intro as M k has hM hT0
  obtain ⟨sz, sl, lay, ρ, σ, τ⟩ := M
  obtain ⟨o, as1, e, hlo, hT1⟩ := mkT_r hT0
  clear hT0
  subst e
  obtain ⟨p, as2, e, hT2⟩ := pI_x hT1
  clear hT1
  subst e
  obtain ⟨s, as3, e, hT3⟩ := pI_x hT2
  clear hT2
  subst e
  obtain ⟨e, hT⟩ := hT3
  subst e
  replace hlo : lay o = (16, 0) := hlo
  have r_p : -2147483648 ≤ p ∧ p ≤ 2147483647 := has (vI p) (by simp)
  have r_s : -2147483648 ≤ s ∧ s ≤ 2147483647 := has (vI s) (by simp)
  clear has
  replace hM : ∀ a i, -2147483648 ≤ σ a i ∧ σ a i ≤ 2147483647 := hM
  replace hT : TF_Tape_valueAt o p s sz sl lay ρ σ τ k := hT
  unfold TF_Tape_valueAt at hT
  obtain ⟨hL, hn, hW, hp, hs, hps, h5s, hns⟩ := hT
  obtain ⟨lh, lp0, lq0⟩ := (show LTape lay ρ _ from hL)
  obtain ⟨J, hJd⟩ : ∃ J : Nat → List AV → Mm → Prop, J = (fun c vs M1 => c = 39 ∧ ¬ s = 5 ∧ ∃ n : Nat, n ≤ (wd s).toNat ∧ vs = [vR o, vI p, vI s, vI (wd s), vL (Int64.ofInt (beZ (fun i => σ (o + 1) i % 256) p n (if 127 < σ (o + 1) p % 256 then -1 else 0))), vI n] ∧ M1 = (sz, sl, lay, ρ, σ, τ)) := ⟨_, rfl⟩
  obtain ⟨μ, hμ⟩ : ∃ μ : Nat → List AV → Mm → Nat, μ = (fun _ vs _ => (wd s - gI (vs.getD 5 vN)).toNat) := ⟨_, rfl⟩
  refine ⟨Nat.le_of_ble_eq_true rfl, J, μ, 50, ?_, ?_⟩
  · unfold wps
    simp only [si_iload_n0, si_iload_n1, si_iload_n2, si_iload_n3, si_iload, si_lload_n0, si_lload_n1, si_lload_n2, si_lload_n3, si_lload, si_aload_n0, si_aload_n1, si_aload_n2, si_aload_n3, si_aload, si_istore_n0, si_istore_n1, si_istore_n2, si_istore_n3, si_istore, si_astore_n0, si_astore_n1, si_astore_n2, si_astore_n3, si_astore, si_lstore_n0, si_lstore_n1, si_lstore_n2, si_lstore_n3, si_lstore, si_iconst, si_bipush, si_sipush, si_ldc, si_ldc2_w, si_lconst0, si_lconst1, si_aconst_null, si_iinc, si_dup, si_dup2, si_iadd, si_isub, si_imul, si_idiv, si_irem, si_iand, si_ior, si_ishl, si_ishr, si_ladd, si_lmul, si_lor, si_lxor, si_lshl, si_lushr, si_lcmp, si_i2b, si_i2l, si_l2i, si_icmp_eq, si_icmp_ne, si_icmp_lt, si_icmp_ge, si_icmp_gt, si_icmp_le, si_if_eq, si_if_ne, si_if_lt, si_if_ge, si_if_gt, si_if_le, si_ifnull, si_ifnonnull, si_goto, si_tableswitch, si_lookupswitch, si_getfield, si_putfield, si_getstatic, si_iaload, si_baload, si_laload, si_aaload, si_iastore, si_bastore, si_lastore, si_aastore, si_arraylength, si_new, si_newarray, si_anewarray, si_invokevirtual, si_invokespecial, si_invokestatic, si_ireturn, si_lreturn, si_areturn, si_return_, pI_e, pL_e, pR_e, pA_r, pA_n, pN_n, pN_r, oI_e, oL_e, oA_r, oA_n, lget_e, lrm1_0, lrm2_0, lrm1_i, lrm1_r, lrm1_n, lrm1_l, lrm2_i, lrm2_r, lrm2_n, lrm2_l, popN_0, popN_s, acat_i, acat_l, acat_r, acat_n, stw_0, stw_s, psh_s, psh_n, wgf_r, wgf_i, wgf_b, wgf_n, wgf_m, wpf_i, wpf_r, wpf_b, wnew_e, callE_e, rbk_0, rbk_1, tsw_0, tsw_s, lsw_0, lsw_s, wp_s, wq_t, wq_f, oV_e, pick_0, pick_s, oZ_e, oY_e, r_Tape_valueAt_0, r_Tape_valueAt_1, r_Tape_valueAt_2, r_Tape_valueAt_5, r_Tape_valueAt_6, r_Tape_valueAt_7, r_Tape_valueAt_10, r_Tape_valueAt_11, r_Tape_valueAt_12, r_Tape_valueAt_13, r_Tape_valueAt_16, r_Tape_valueAt_17, r_Tape_valueAt_18, r_Tape_valueAt_19, r_Tape_valueAt_22, r_Tape_valueAt_24, r_Tape_valueAt_27, r_Tape_valueAt_30, r_Tape_valueAt_33, r_Tape_valueAt_34, r_Tape_valueAt_36, r_Tape_valueAt_37, r_Tape_valueAt_39, r_Tape_valueAt_41, r_Tape_valueAt_42, r_Tape_valueAt_45, r_Tape_valueAt_47, r_Tape_valueAt_49, r_Tape_valueAt_50, r_Tape_valueAt_51, r_Tape_valueAt_52, r_Tape_valueAt_54, r_Tape_valueAt_55, r_Tape_valueAt_58, r_Tape_valueAt_61, r_Tape_valueAt_62, r_Tape_valueAt_63, r_Tape_valueAt_64, r_Tape_valueAt_66, r_Tape_valueAt_69, r_Tape_valueAt_72, r_Tape_valueAt_74, xl_Tape_valueAt_29, xe_Tape_valueAt_106, xe_Tape_valueAt_76, xe_Tape_valueAt_92, xd_Tape_valueAt, xrb_Tape_valueAt, xin_Tape_valueAt, T_PR_widthOf_e, TF_PR_widthOf, T_Tape_at_e, TF_Tape_at, T_Tape_pairAt_e, TF_Tape_pairAt, lh, lp0, lq0, Nat.reduceAdd, Nat.reduceMul, Nat.reduceEqDiff, reduceIte, Int.reduceNeg, Int.reduceLE, Int.reduceLT, Int.reduceAdd, Int.reduceSub, Int.reduceToNat, true_and, and_true, inR_e, Nat.reduceLT, Nat.reduceLeDiff, reduceCtorEq, Nat.add_zero, Nat.zero_add, or_false, false_or, or_true, true_or, not_true_eq_false, not_false_eq_true, Classical.not_not, Nat.add_eq_zero_iff, and_false, false_and, Int.reduceEq, List.mem_cons, List.not_mem_nil, forall_eq_or_imp, forall_eq, false_implies, implies_true, forall_const, aargs_0, aargs_i, aargs_r, aargs_l, aargs_n, nfT_e, eq_self, and_self, Nat.le_refl, fu_s, fu_fu, iu_iu, iu_s, fu_am, fu_a0, fu_0a, iu_l, Nat.reduceBEq, Int.reduceBEq, T_objInit_e]
    have w1 := wd_1le hs
    refine ⟨fun h => ⟨hW, hL, hn, fun a => ⟨fun h5 => ?_, fun h5 => ?_⟩, fun a => absurd a (by omega)⟩, fun h => ⟨hL, hn, by omega, fun a => h5s (by omega), fun a => ?_⟩⟩
    · rw [hJd]
      exact ⟨rfl, h, 0, by omega, by rw [if_neg (by omega)]; rfl, rfl⟩
    · rw [hJd]
      exact ⟨rfl, h, 0, by omega, by rw [if_pos (by omega)]; rfl, rfl⟩
    · have h6 : s = 5 := by omega
      subst h6
      have := wd_5
      omega
  · intro cp vs M1 hvs hM1 hlen hJ
    rw [hJd] at hJ
    obtain ⟨rfl, h50, n, h1, rfl, rfl⟩ := hJ
    have hw := wd_R s
    unfold wps
    simp only [Option.getD_some, List.zip_cons_cons, List.zip_nil_left, List.zip_nil_right, List.zip_nil_right, si_iload_n0, si_iload_n1, si_iload_n2, si_iload_n3, si_iload, si_lload_n0, si_lload_n1, si_lload_n2, si_lload_n3, si_lload, si_aload_n0, si_aload_n1, si_aload_n2, si_aload_n3, si_aload, si_istore_n0, si_istore_n1, si_istore_n2, si_istore_n3, si_istore, si_astore_n0, si_astore_n1, si_astore_n2, si_astore_n3, si_astore, si_lstore_n0, si_lstore_n1, si_lstore_n2, si_lstore_n3, si_lstore, si_iconst, si_bipush, si_sipush, si_ldc, si_ldc2_w, si_lconst0, si_lconst1, si_aconst_null, si_iinc, si_dup, si_dup2, si_iadd, si_isub, si_imul, si_idiv, si_irem, si_iand, si_ior, si_ishl, si_ishr, si_ladd, si_lmul, si_lor, si_lxor, si_lshl, si_lushr, si_lcmp, si_i2b, si_i2l, si_l2i, si_icmp_eq, si_icmp_ne, si_icmp_lt, si_icmp_ge, si_icmp_gt, si_icmp_le, si_if_eq, si_if_ne, si_if_lt, si_if_ge, si_if_gt, si_if_le, si_ifnull, si_ifnonnull, si_goto, si_tableswitch, si_lookupswitch, si_getfield, si_putfield, si_getstatic, si_iaload, si_baload, si_laload, si_aaload, si_iastore, si_bastore, si_lastore, si_aastore, si_arraylength, si_new, si_newarray, si_anewarray, si_invokevirtual, si_invokespecial, si_invokestatic, si_ireturn, si_lreturn, si_areturn, si_return_, pI_e, pL_e, pR_e, pA_r, pA_n, pN_n, pN_r, oI_e, oL_e, oA_r, oA_n, lget_e, lrm1_0, lrm2_0, lrm1_i, lrm1_r, lrm1_n, lrm1_l, lrm2_i, lrm2_r, lrm2_n, lrm2_l, popN_0, popN_s, acat_i, acat_l, acat_r, acat_n, stw_0, stw_s, psh_s, psh_n, wgf_r, wgf_i, wgf_b, wgf_n, wgf_m, wpf_i, wpf_r, wpf_b, wnew_e, callE_e, rbk_0, rbk_1, tsw_0, tsw_s, lsw_0, lsw_s, wp_s, wq_t, wq_f, oV_e, pick_0, pick_s, oZ_e, oY_e, r_Tape_valueAt_0, r_Tape_valueAt_1, r_Tape_valueAt_2, r_Tape_valueAt_5, r_Tape_valueAt_6, r_Tape_valueAt_7, r_Tape_valueAt_10, r_Tape_valueAt_11, r_Tape_valueAt_12, r_Tape_valueAt_13, r_Tape_valueAt_16, r_Tape_valueAt_17, r_Tape_valueAt_18, r_Tape_valueAt_19, r_Tape_valueAt_22, r_Tape_valueAt_24, r_Tape_valueAt_27, r_Tape_valueAt_30, r_Tape_valueAt_33, r_Tape_valueAt_34, r_Tape_valueAt_36, r_Tape_valueAt_37, r_Tape_valueAt_39, r_Tape_valueAt_41, r_Tape_valueAt_42, r_Tape_valueAt_45, r_Tape_valueAt_47, r_Tape_valueAt_49, r_Tape_valueAt_50, r_Tape_valueAt_51, r_Tape_valueAt_52, r_Tape_valueAt_54, r_Tape_valueAt_55, r_Tape_valueAt_58, r_Tape_valueAt_61, r_Tape_valueAt_62, r_Tape_valueAt_63, r_Tape_valueAt_64, r_Tape_valueAt_66, r_Tape_valueAt_69, r_Tape_valueAt_72, r_Tape_valueAt_74, xl_Tape_valueAt_29, xe_Tape_valueAt_106, xe_Tape_valueAt_76, xe_Tape_valueAt_92, xd_Tape_valueAt, xrb_Tape_valueAt, xin_Tape_valueAt, T_PR_widthOf_e, TF_PR_widthOf, T_Tape_at_e, TF_Tape_at, T_Tape_pairAt_e, TF_Tape_pairAt, lh, lp0, lq0, Nat.reduceAdd, Nat.reduceMul, Nat.reduceEqDiff, reduceIte, Int.reduceNeg, Int.reduceLE, Int.reduceLT, Int.reduceAdd, Int.reduceSub, Int.reduceToNat, true_and, and_true, inR_e, Nat.reduceLT, Nat.reduceLeDiff, reduceCtorEq, Nat.add_zero, Nat.zero_add, or_false, false_or, or_true, true_or, not_true_eq_false, not_false_eq_true, Classical.not_not, Nat.add_eq_zero_iff, and_false, false_and, Int.reduceEq, List.mem_cons, List.not_mem_nil, forall_eq_or_imp, forall_eq, false_implies, implies_true, forall_const, aargs_0, aargs_i, aargs_r, aargs_l, aargs_n, nfT_e, eq_self, and_self, Nat.le_refl, fu_s, fu_fu, iu_iu, iu_s, fu_am, fu_a0, fu_0a, iu_l, Nat.reduceBEq, Int.reduceBEq, T_objInit_e]
    refine ⟨fun h => ?_, fun h => ⟨by omega, hL, hn, fun a => ?_, fun a => absurd a (by omega)⟩⟩
    · have e : n = (wd s).toNat := by omega
      subst e
      exact hns h50
    · refine ⟨by omega, ?_, (by rw [hμ]; simp only [gI_e, List.getD_cons_succ, List.getD_cons_zero]; omega)⟩
      rw [hJd]
      refine ⟨rfl, h50, n + 1, by omega, ?_, rfl⟩
      rw [beZ_s, andZ_255, Int.emod_emod_of_dvd _ (show (256 : Int) ∣ 256 from ⟨1, rfl⟩), shl_or (by omega)]
      rfl

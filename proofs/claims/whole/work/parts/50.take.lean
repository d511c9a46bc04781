theorem co_X3_772 : CallOK RX3 (.invokevirtual 193) (3, 0, 0, 0, T_Roots_admits) := call_V S_Roots_admits (by decide) (ci := 4) rfl (by decide +kernel) (by decide +kernel) (by decide +kernel) (by decide +kernel) (by decide +kernel) (by decide +kernel) T_Roots_admits_r
theorem co_X3_776 : CallOK RX3 (.invokevirtual 194) (2, 0, 0, 0, T_Roots_add) := call_V S_Roots_add (by decide) (ci := 4) rfl (by decide +kernel) (by decide +kernel) (by decide +kernel) (by decide +kernel) (by decide +kernel) (by decide +kernel) T_Roots_add_r
def TF_Picture_takeRoot (o : Nat) (t : Nat) (p : Int) (sz sl : Nat) (lay : Nat → Nat × Int) (ρ : Nat → Int → Nat) (σ : Nat → Int → Int) (τ : Nat → Int → Int64) (k : Option AV → Mm → Prop) : Prop := LPic lay ρ o ∧ LTape lay ρ t ∧ (0 ≤ σ t 1 ∧ σ t 1 ≤ 8000) ∧ (t + 2 ≤ o) ∧ Wd lay ρ σ ∧ (ρ 0 0 < o) ∧ (0 ≤ p ∧ p < σ t 1) ∧ ∃ st : Nat → Int → Int, SW (tU σ t) (σ t 1) st ∧ CO σ τ o (tU σ t) st ∧ st 0 0 = p ∧ tU σ t p = 65 ∧ (¬ AccR (tU σ t) (σ t 1) (st 0 9) p → k (some (vI (0))) (sz, sl, lay, ρ, σ, τ)) ∧ (AccR (tU σ t) (σ t 1) (st 0 9) p → ∀ (σ2 : Nat → Int → Int) (τ2 : Nat → Int → Int64), PFr σ σ2 τ τ2 o → CO σ2 τ2 o (tU σ t) (tkR (tU σ t) st p) → k (some (vI (4))) (sz, sl, lay, ρ, σ2, τ2))
def T_Picture_takeRoot : Tr := mkT 3 fun o as M k => pR as fun t as => pI as fun p as => as = [] ∧ TF_Picture_takeRoot o t p M.1 M.2.1 M.2.2.1 M.2.2.2.1 M.2.2.2.2.1 M.2.2.2.2.2 k
theorem T_Picture_takeRoot_e {o : Nat} {t : Nat} {p : Int} {sz sl : Nat} {lay : Nat → Nat × Int} {ρ : Nat → Int → Nat} {σ : Nat → Int → Int} {τ : Nat → Int → Int64} {k : Option AV → Mm → Prop} : T_Picture_takeRoot [vR o, vR t, vI p] (sz, sl, lay, ρ, σ, τ) k = (lay o = (13, 0) ∧ TF_Picture_takeRoot o t p sz sl lay ρ σ τ k) := by simp [T_Picture_takeRoot, mkT_e, pI_e, pR_e, pL_e]
theorem T_Picture_takeRoot_r (as : List AV) (M : Mm) (k : Option AV → Mm → Prop) (h : T_Picture_takeRoot as M k) : ∃ b As, as = vR b :: As ∧ M.2.2.1 b = (10 + 3, 0) := by
  obtain ⟨b, As, h1, h2, -⟩ := mkT_r h
  exact ⟨b, As, h1, h2⟩
def tb_Picture_takeRoot : List (Nat × Option (List Nat) × Instr × List Nat) := [(0, none, .aload_n 1, []), (1, none, .iload_n 2, []), (2, none, .iconst 2, []), (3, none, .iadd, []), (4, none, .invokevirtual 159, []), (7, none, .istore_n 3, []), (8, none, .aload_n 0, []), (9, none, .getfield 28, []), (12, none, .aload_n 1, []), (13, none, .iload_n 2, []), (14, none, .iconst 1, []), (15, none, .iadd, []), (16, none, .invokevirtual 116, []), (19, none, .iload_n 3, []), (20, none, .invokevirtual 193, []), (23, none, .ifCond .eq 13, [36]), (26, none, .aload_n 1, []), (27, none, .iload_n 2, []), (28, none, .iconst 4, []), (29, none, .iadd, []), (30, none, .invokevirtual 146, []), (33, none, .ifCond .ne 5, [38]), (36, none, .iconst 0, []), (37, none, .ireturn, []), (38, none, .aload_n 0, []), (39, none, .getfield 28, []), (42, none, .iload_n 3, []), (43, none, .invokevirtual 194, []), (46, none, .iconst 4, []), (47, none, .ireturn, [])]
def P_Picture_takeRoot : Nat → Option (List Nat) × Instr × List Nat := plk tb_Picture_takeRoot
theorem r_Picture_takeRoot_0 : P_Picture_takeRoot 0 = (none, .aload_n 1, []) := by decide +kernel
theorem r_Picture_takeRoot_1 : P_Picture_takeRoot 1 = (none, .iload_n 2, []) := by decide +kernel
theorem r_Picture_takeRoot_2 : P_Picture_takeRoot 2 = (none, .iconst 2, []) := by decide +kernel
theorem r_Picture_takeRoot_3 : P_Picture_takeRoot 3 = (none, .iadd, []) := by decide +kernel
theorem r_Picture_takeRoot_4 : P_Picture_takeRoot 4 = (none, .invokevirtual 159, []) := by decide +kernel
theorem r_Picture_takeRoot_7 : P_Picture_takeRoot 7 = (none, .istore_n 3, []) := by decide +kernel
theorem r_Picture_takeRoot_8 : P_Picture_takeRoot 8 = (none, .aload_n 0, []) := by decide +kernel
theorem r_Picture_takeRoot_9 : P_Picture_takeRoot 9 = (none, .getfield 28, []) := by decide +kernel
theorem r_Picture_takeRoot_12 : P_Picture_takeRoot 12 = (none, .aload_n 1, []) := by decide +kernel
theorem r_Picture_takeRoot_13 : P_Picture_takeRoot 13 = (none, .iload_n 2, []) := by decide +kernel
theorem r_Picture_takeRoot_14 : P_Picture_takeRoot 14 = (none, .iconst 1, []) := by decide +kernel
theorem r_Picture_takeRoot_15 : P_Picture_takeRoot 15 = (none, .iadd, []) := by decide +kernel
theorem r_Picture_takeRoot_16 : P_Picture_takeRoot 16 = (none, .invokevirtual 116, []) := by decide +kernel
theorem r_Picture_takeRoot_19 : P_Picture_takeRoot 19 = (none, .iload_n 3, []) := by decide +kernel
theorem r_Picture_takeRoot_20 : P_Picture_takeRoot 20 = (none, .invokevirtual 193, []) := by decide +kernel
theorem r_Picture_takeRoot_23 : P_Picture_takeRoot 23 = (none, .ifCond .eq 13, [36]) := by decide +kernel
theorem r_Picture_takeRoot_26 : P_Picture_takeRoot 26 = (none, .aload_n 1, []) := by decide +kernel
theorem r_Picture_takeRoot_27 : P_Picture_takeRoot 27 = (none, .iload_n 2, []) := by decide +kernel
theorem r_Picture_takeRoot_28 : P_Picture_takeRoot 28 = (none, .iconst 4, []) := by decide +kernel
theorem r_Picture_takeRoot_29 : P_Picture_takeRoot 29 = (none, .iadd, []) := by decide +kernel
theorem r_Picture_takeRoot_30 : P_Picture_takeRoot 30 = (none, .invokevirtual 146, []) := by decide +kernel
theorem r_Picture_takeRoot_33 : P_Picture_takeRoot 33 = (none, .ifCond .ne 5, [38]) := by decide +kernel
theorem r_Picture_takeRoot_36 : P_Picture_takeRoot 36 = (none, .iconst 0, []) := by decide +kernel
theorem r_Picture_takeRoot_37 : P_Picture_takeRoot 37 = (none, .ireturn, []) := by decide +kernel
theorem r_Picture_takeRoot_38 : P_Picture_takeRoot 38 = (none, .aload_n 0, []) := by decide +kernel
theorem r_Picture_takeRoot_39 : P_Picture_takeRoot 39 = (none, .getfield 28, []) := by decide +kernel
theorem r_Picture_takeRoot_42 : P_Picture_takeRoot 42 = (none, .iload_n 3, []) := by decide +kernel
theorem r_Picture_takeRoot_43 : P_Picture_takeRoot 43 = (none, .invokevirtual 194, []) := by decide +kernel
theorem r_Picture_takeRoot_46 : P_Picture_takeRoot 46 = (none, .iconst 4, []) := by decide +kernel
theorem r_Picture_takeRoot_47 : P_Picture_takeRoot 47 = (none, .ireturn, []) := by decide +kernel
def E_Picture_takeRoot : List (Nat × Ent) := [(464, (2, 0, 0, 0, T_Tape_at)), (584, (2, 1, 0, 0, T_Tape_closesAt)), (636, (2, 1, 0, 0, T_Tape_pairAt)), (772, (3, 0, 0, 0, T_Roots_admits)), (776, (2, 0, 0, 0, T_Roots_add))]
def X_Picture_takeRoot : Cx := (llk (0, 0, 9) ftX3, llk 99 ntX3, llk none kcX3, llk none klX3, llk dEnt E_Picture_takeRoot, 2, 0, false)
theorem xok_Picture_takeRoot : Xok RX3 X_Picture_takeRoot := xok_of ftX3_ok ntX3_ok kcX3_ok klX3_ok (E := E_Picture_takeRoot) (List.forall_mem_cons.mpr ⟨co_X3_464, List.forall_mem_cons.mpr ⟨co_X3_584, List.forall_mem_cons.mpr ⟨co_X3_636, List.forall_mem_cons.mpr ⟨co_X3_772, List.forall_mem_cons.mpr ⟨co_X3_776, fun _ h => absurd h List.not_mem_nil⟩⟩⟩⟩⟩)
theorem xf_Picture_takeRoot_28 : xfl X_Picture_takeRoot 28 = (3, 2, 1) := by decide +kernel
theorem xe_Picture_takeRoot_464 : xE X_Picture_takeRoot (4 * 116 + 0) = (2, 0, 0, 0, T_Tape_at) := rfl
theorem xe_Picture_takeRoot_584 : xE X_Picture_takeRoot (4 * 146 + 0) = (2, 1, 0, 0, T_Tape_closesAt) := rfl
theorem xe_Picture_takeRoot_636 : xE X_Picture_takeRoot (4 * 159 + 0) = (2, 1, 0, 0, T_Tape_pairAt) := rfl
theorem xe_Picture_takeRoot_772 : xE X_Picture_takeRoot (4 * 193 + 0) = (3, 0, 0, 0, T_Roots_admits) := rfl
theorem xe_Picture_takeRoot_776 : xE X_Picture_takeRoot (4 * 194 + 0) = (2, 0, 0, 0, T_Roots_add) := rfl
theorem xd_Picture_takeRoot : xd X_Picture_takeRoot = 2 := rfl
theorem xrb_Picture_takeRoot : xrb X_Picture_takeRoot = 0 := rfl
theorem xin_Picture_takeRoot : xin X_Picture_takeRoot = false := rfl
set_option maxHeartbeats 4000000 in
set_option maxRecDepth 100000 in
theorem S_Picture_takeRoot : Snd yX3_takeRoot cX3_takeRoot 4 (some .int) T_Picture_takeRoot 2 0 0 := by
  refine snd_of (X := X_Picture_takeRoot) (P := P_Picture_takeRoot) (tb := tb_Picture_takeRoot) (own := RX3) (by decide) rfl rfl (by decide +kernel) xok_Picture_takeRoot rfl rk0 (fun h => by first | rfl | cases h) ?_
  intro as M k has hM hT0
  obtain ⟨sz, sl, lay, ρ, σ, τ⟩ := M
  obtain ⟨o, as1, e, hlo, hT1⟩ := mkT_r hT0
  clear hT0
  subst e
  obtain ⟨t, as2, e, hT2⟩ := pR_x hT1
  clear hT1
  subst e
  obtain ⟨p, as3, e, hT3⟩ := pI_x hT2
  clear hT2
  subst e
  obtain ⟨e, hT⟩ := hT3
  subst e
  replace hlo : lay o = (13, 0) := hlo
  have r_p : -2147483648 ≤ p ∧ p ≤ 2147483647 := has (vI p) (by simp)
  clear has
  replace hM : ∀ a i, -2147483648 ≤ σ a i ∧ σ a i ≤ 2147483647 := hM
  replace hT : TF_Picture_takeRoot o t p sz sl lay ρ σ τ k := hT
  unfold TF_Picture_takeRoot at hT
  obtain ⟨hPc, hTp, hl, hto2, hW, hw0, hp, st, hS, hCO, hq, hb, h0, h1⟩ := hT
  obtain ⟨hP, hKd, hTh, hRt, hHo, hWy, hSy, hLf, hTw⟩ := (show LPic lay ρ o from hPc)
  have hU : ∀ x, 0 ≤ tU σ t x ∧ tU σ t x < 256 := tU_R σ t
  obtain ⟨w0, w1, w2, w3, w4, w5, w6, w7, w8, w9, w10, w11, w12, w13, w14⟩ := (show SW (tU σ t) (σ t 1) st from hS)
  refine ⟨Nat.le_of_ble_eq_true rfl, fun _ _ _ => False, fun _ _ _ => 0, 38, ?_, fun _ _ _ _ _ _ h => h.elim⟩
  obtain ⟨ph, pp0, pp1, pp2, pp3, pp4, pp5, pp6, pp7, pq0, pq1, pq2, pq3, pq4, pq5, pq6, pq7⟩ := (show LPicture lay ρ _ from hP)
  obtain ⟨qh, qp0, qq0⟩ := (show LTape lay ρ _ from hTp)
  obtain ⟨rh, rp0, rp1, rq0, rq1⟩ := (show LRoots lay ρ _ from hRt)
  unfold wps
  simp only [si_iload_n0, si_iload_n1, si_iload_n2, si_iload_n3, si_iload, si_lload_n0, si_lload_n1, si_lload_n2, si_lload_n3, si_lload, si_aload_n0, si_aload_n1, si_aload_n2, si_aload_n3, si_aload, si_istore_n0, si_istore_n1, si_istore_n2, si_istore_n3, si_istore, si_astore_n0, si_astore_n1, si_astore_n2, si_astore_n3, si_astore, si_lstore_n0, si_lstore_n1, si_lstore_n2, si_lstore_n3, si_lstore, si_iconst, si_bipush, si_sipush, si_ldc, si_ldc2_w, si_lconst0, si_lconst1, si_aconst_null, si_iinc, si_dup, si_dup2, si_iadd, si_isub, si_imul, si_idiv, si_irem, si_iand, si_ior, si_ishl, si_ishr, si_ladd, si_lmul, si_lor, si_lxor, si_lshl, si_lushr, si_lcmp, si_i2b, si_i2l, si_l2i, si_icmp_eq, si_icmp_ne, si_icmp_lt, si_icmp_ge, si_icmp_gt, si_icmp_le, si_if_eq, si_if_ne, si_if_lt, si_if_ge, si_if_gt, si_if_le, si_ifnull, si_ifnonnull, si_goto, si_tableswitch, si_lookupswitch, si_getfield, si_putfield, si_getstatic, si_iaload, si_baload, si_laload, si_aaload, si_iastore, si_bastore, si_lastore, si_aastore, si_arraylength, si_new, si_newarray, si_anewarray, si_invokevirtual, si_invokespecial, si_invokestatic, si_ireturn, si_lreturn, si_areturn, si_return_, pI_e, pL_e, pR_e, pA_r, pA_n, pN_n, pN_r, oI_e, oL_e, oA_r, oA_n, lget_e, lrm1_0, lrm2_0, lrm1_i, lrm1_r, lrm1_n, lrm1_l, lrm2_i, lrm2_r, lrm2_n, lrm2_l, popN_0, popN_s, acat_i, acat_l, acat_r, acat_n, stw_0, stw_s, psh_s, psh_n, wgf_r, wgf_i, wgf_b, wgf_n, wgf_m, wpf_i, wpf_r, wpf_b, wnew_e, callE_e, rbk_0, rbk_1, tsw_0, tsw_s, lsw_0, lsw_s, wp_s, wq_t, wq_f, oV_e, pick_0, pick_s, oZ_e, oY_e, r_Picture_takeRoot_0, r_Picture_takeRoot_1, r_Picture_takeRoot_2, r_Picture_takeRoot_3, r_Picture_takeRoot_4, r_Picture_takeRoot_7, r_Picture_takeRoot_8, r_Picture_takeRoot_9, r_Picture_takeRoot_12, r_Picture_takeRoot_13, r_Picture_takeRoot_14, r_Picture_takeRoot_15, r_Picture_takeRoot_16, r_Picture_takeRoot_19, r_Picture_takeRoot_20, r_Picture_takeRoot_23, r_Picture_takeRoot_26, r_Picture_takeRoot_27, r_Picture_takeRoot_28, r_Picture_takeRoot_29, r_Picture_takeRoot_30, r_Picture_takeRoot_33, r_Picture_takeRoot_36, r_Picture_takeRoot_37, r_Picture_takeRoot_38, r_Picture_takeRoot_39, r_Picture_takeRoot_42, r_Picture_takeRoot_43, r_Picture_takeRoot_46, r_Picture_takeRoot_47, xf_Picture_takeRoot_28, xe_Picture_takeRoot_464, xe_Picture_takeRoot_584, xe_Picture_takeRoot_636, xe_Picture_takeRoot_772, xe_Picture_takeRoot_776, xd_Picture_takeRoot, xrb_Picture_takeRoot, xin_Picture_takeRoot, T_Tape_at_e, TF_Tape_at, T_Tape_closesAt_e, TF_Tape_closesAt, T_Tape_pairAt_e, TF_Tape_pairAt, T_Roots_admits_e, TF_Roots_admits, T_Roots_add_e, TF_Roots_add, ph, pp0, pp1, pp2, pp3, pp4, pp5, pp6, pp7, pq0, pq1, pq2, pq3, pq4, pq5, pq6, pq7, qh, qp0, qq0, rh, rp0, rp1, rq0, rq1, Nat.reduceAdd, Nat.reduceMul, Nat.reduceEqDiff, reduceIte, Int.reduceNeg, Int.reduceLE, Int.reduceLT, Int.reduceAdd, Int.reduceSub, Int.reduceToNat, true_and, and_true, inR_e, Nat.reduceLT, Nat.reduceLeDiff, reduceCtorEq, Nat.add_zero, Nat.zero_add, or_false, false_or, or_true, true_or, not_true_eq_false, not_false_eq_true, Classical.not_not, Nat.add_eq_zero_iff, and_false, false_and, Int.reduceEq, List.mem_cons, List.not_mem_nil, forall_eq_or_imp, forall_eq, false_implies, implies_true, forall_const, aargs_0, aargs_i, aargs_r, aargs_l, aargs_n, nfT_e, eq_self, and_self, Nat.le_refl, fu_s, fu_fu, iu_iu, iu_s, fu_am, fu_a0, fu_0a, iu_l, Nat.reduceBEq, Int.reduceBEq, T_objInit_e]
  clear pp0 pp1 pp2 pp3 pp4 pp5 pp6 pp7 qp0 rp0 rp1
  have u1 := hU (p + 1)
  have u2 := two2_R hU (p + 2)
  have hr := hCO.2.2.1
  have en : enE (tU σ t) st p = p + 4 := by
    unfold enE
    rw [if_neg (by omega), if_pos hb]
  refine ⟨by omega, hTp, hl, by omega, fun a => ⟨by omega, hTp, hl, fun b => ?_, fun b => by omega⟩, fun a => ⟨by omega, hTp, hl, fun b => h0 (fun z => by have := z.1; omega), fun b => h0 (fun z => by have := z.1; omega)⟩⟩
  rw [pair_e a, ← tU_i b, isE_t (show 0 ≤ p + 4 by omega)]
  refine ⟨fun c => ⟨by omega, hTp, hl, fun d => ⟨hRt, by omega, ?_⟩, fun d => h0 (fun z => d z.2.1)⟩, fun c => h0 (fun z => ?_)⟩
  · refine h1 ⟨?_, d, by omega, by omega, by omega⟩ _ τ ⟨((Fr.rfl'.fu (by omega)).fu (by omega)).fu (by omega), fun _ _ => rfl⟩ (hCO.root hq (by omega) rfl w11.1)
    rcases d with d | d <;> omega
  · have z3 := z.2.2.1
    have z4 := z.2.2.2.1
    have z5 := z.2.2.2.2
    exact c (by omega)
theorem co_X3_480 : CallOK RX3 (.invokevirtual 120) (2, 1, 0, 0, T_Tape_tornFrom) := call_V S_Tape_tornFrom (by decide) (ci := 6) rfl (by decide +kernel) (by decide +kernel) (by decide +kernel) (by decide +kernel) (by decide +kernel) (by decide +kernel) T_Tape_tornFrom_r
theorem co_X3_492 : CallOK RX3 (.invokevirtual 123) (3, 0, 0, 0, T_Holes_add) := call_V S_Holes_add (by decide) (ci := 0) rfl (by decide +kernel) (by decide +kernel) (by decide +kernel) (by decide +kernel) (by decide +kernel) (by decide +kernel) T_Holes_add_r
def TF_Picture_passOver (o : Nat) (t : Nat) (p : Int) (sz sl : Nat) (lay : Nat → Nat × Int) (ρ : Nat → Int → Nat) (σ : Nat → Int → Int) (τ : Nat → Int → Int64) (k : Option AV → Mm → Prop) : Prop := LPic lay ρ o ∧ LTape lay ρ t ∧ (0 ≤ σ t 1 ∧ σ t 1 ≤ 8000) ∧ (t + 2 ≤ o) ∧ Wd lay ρ σ ∧ (ρ 0 0 < o) ∧ (0 ≤ p ∧ p < σ t 1) ∧ ∃ st : Nat → Int → Int, SW (tU σ t) (σ t 1) st ∧ CO σ τ o (tU σ t) st ∧ st 0 0 = p ∧ (0 ≤ σ o 11 ∧ σ o 11 ≤ 100000) ∧ (tU σ t p = 10 → k (some (vI (1))) (sz, sl, lay, ρ, fu σ o (iu (σ o) 11 (σ o 11 + 1)), τ)) ∧ (¬ tU σ t p = 10 → ∀ (σ2 : Nat → Int → Int) (τ2 : Nat → Int → Int64), PFr σ σ2 τ τ2 o → CO σ2 τ2 o (tU σ t) (hlS (tU σ t) (σ t 1) st) → k (some (vI (nxm (tU σ t) (σ t 1) (p + 1) - p))) (sz, sl, lay, ρ, σ2, τ2))
def T_Picture_passOver : Tr := mkT 3 fun o as M k => pR as fun t as => pI as fun p as => as = [] ∧ TF_Picture_passOver o t p M.1 M.2.1 M.2.2.1 M.2.2.2.1 M.2.2.2.2.1 M.2.2.2.2.2 k
theorem T_Picture_passOver_e {o : Nat} {t : Nat} {p : Int} {sz sl : Nat} {lay : Nat → Nat × Int} {ρ : Nat → Int → Nat} {σ : Nat → Int → Int} {τ : Nat → Int → Int64} {k : Option AV → Mm → Prop} : T_Picture_passOver [vR o, vR t, vI p] (sz, sl, lay, ρ, σ, τ) k = (lay o = (13, 0) ∧ TF_Picture_passOver o t p sz sl lay ρ σ τ k) := by simp [T_Picture_passOver, mkT_e, pI_e, pR_e, pL_e]
theorem T_Picture_passOver_r (as : List AV) (M : Mm) (k : Option AV → Mm → Prop) (h : T_Picture_passOver as M k) : ∃ b As, as = vR b :: As ∧ M.2.2.1 b = (10 + 3, 0) := by
  obtain ⟨b, As, h1, h2, -⟩ := mkT_r h
  exact ⟨b, As, h1, h2⟩
def tb_Picture_passOver : List (Nat × Option (List Nat) × Instr × List Nat) := [(0, none, .aload_n 1, []), (1, none, .iload_n 2, []), (2, none, .invokevirtual 116, []), (5, none, .bipush 10, []), (7, none, .if_icmp .ne 15, [22]), (10, none, .aload_n 0, []), (11, none, .dup, []), (12, none, .getfield 73, []), (15, none, .iconst 1, []), (16, none, .iadd, []), (17, none, .putfield 73, []), (20, none, .iconst 1, []), (21, none, .ireturn, []), (22, none, .aload_n 1, []), (23, none, .iload_n 2, []), (24, none, .invokevirtual 120, []), (27, none, .istore_n 3, []), (28, none, .aload_n 0, []), (29, none, .getfield 35, []), (32, none, .iload_n 2, []), (33, none, .iload_n 3, []), (34, none, .invokevirtual 123, []), (37, none, .iload_n 3, []), (38, none, .ireturn, [])]
def P_Picture_passOver : Nat → Option (List Nat) × Instr × List Nat := plk tb_Picture_passOver
theorem r_Picture_passOver_0 : P_Picture_passOver 0 = (none, .aload_n 1, []) := by decide +kernel
theorem r_Picture_passOver_1 : P_Picture_passOver 1 = (none, .iload_n 2, []) := by decide +kernel
theorem r_Picture_passOver_2 : P_Picture_passOver 2 = (none, .invokevirtual 116, []) := by decide +kernel
theorem r_Picture_passOver_5 : P_Picture_passOver 5 = (none, .bipush 10, []) := by decide +kernel
theorem r_Picture_passOver_7 : P_Picture_passOver 7 = (none, .if_icmp .ne 15, [22]) := by decide +kernel
theorem r_Picture_passOver_10 : P_Picture_passOver 10 = (none, .aload_n 0, []) := by decide +kernel
theorem r_Picture_passOver_11 : P_Picture_passOver 11 = (none, .dup, []) := by decide +kernel
theorem r_Picture_passOver_12 : P_Picture_passOver 12 = (none, .getfield 73, []) := by decide +kernel
theorem r_Picture_passOver_15 : P_Picture_passOver 15 = (none, .iconst 1, []) := by decide +kernel
theorem r_Picture_passOver_16 : P_Picture_passOver 16 = (none, .iadd, []) := by decide +kernel
theorem r_Picture_passOver_17 : P_Picture_passOver 17 = (none, .putfield 73, []) := by decide +kernel
theorem r_Picture_passOver_20 : P_Picture_passOver 20 = (none, .iconst 1, []) := by decide +kernel
theorem r_Picture_passOver_21 : P_Picture_passOver 21 = (none, .ireturn, []) := by decide +kernel
theorem r_Picture_passOver_22 : P_Picture_passOver 22 = (none, .aload_n 1, []) := by decide +kernel
theorem r_Picture_passOver_23 : P_Picture_passOver 23 = (none, .iload_n 2, []) := by decide +kernel
theorem r_Picture_passOver_24 : P_Picture_passOver 24 = (none, .invokevirtual 120, []) := by decide +kernel
theorem r_Picture_passOver_27 : P_Picture_passOver 27 = (none, .istore_n 3, []) := by decide +kernel
theorem r_Picture_passOver_28 : P_Picture_passOver 28 = (none, .aload_n 0, []) := by decide +kernel
theorem r_Picture_passOver_29 : P_Picture_passOver 29 = (none, .getfield 35, []) := by decide +kernel
theorem r_Picture_passOver_32 : P_Picture_passOver 32 = (none, .iload_n 2, []) := by decide +kernel
theorem r_Picture_passOver_33 : P_Picture_passOver 33 = (none, .iload_n 3, []) := by decide +kernel
theorem r_Picture_passOver_34 : P_Picture_passOver 34 = (none, .invokevirtual 123, []) := by decide +kernel
theorem r_Picture_passOver_37 : P_Picture_passOver 37 = (none, .iload_n 3, []) := by decide +kernel
theorem r_Picture_passOver_38 : P_Picture_passOver 38 = (none, .ireturn, []) := by decide +kernel
def E_Picture_passOver : List (Nat × Ent) := [(464, (2, 0, 0, 0, T_Tape_at)), (480, (2, 1, 0, 0, T_Tape_tornFrom)), (492, (3, 0, 0, 0, T_Holes_add))]
def X_Picture_passOver : Cx := (llk (0, 0, 9) ftX3, llk 99 ntX3, llk none kcX3, llk none klX3, llk dEnt E_Picture_passOver, 2, 0, false)
theorem xok_Picture_passOver : Xok RX3 X_Picture_passOver := xok_of ftX3_ok ntX3_ok kcX3_ok klX3_ok (E := E_Picture_passOver) (List.forall_mem_cons.mpr ⟨co_X3_464, List.forall_mem_cons.mpr ⟨co_X3_480, List.forall_mem_cons.mpr ⟨co_X3_492, fun _ h => absurd h List.not_mem_nil⟩⟩⟩)
theorem xf_Picture_passOver_35 : xfl X_Picture_passOver 35 = (3, 3, 1) := by decide +kernel
theorem xf_Picture_passOver_73 : xfl X_Picture_passOver 73 = (3, 11, 0) := by decide +kernel
theorem xe_Picture_passOver_464 : xE X_Picture_passOver (4 * 116 + 0) = (2, 0, 0, 0, T_Tape_at) := rfl
theorem xe_Picture_passOver_480 : xE X_Picture_passOver (4 * 120 + 0) = (2, 1, 0, 0, T_Tape_tornFrom) := rfl
theorem xe_Picture_passOver_492 : xE X_Picture_passOver (4 * 123 + 0) = (3, 0, 0, 0, T_Holes_add) := rfl
theorem xd_Picture_passOver : xd X_Picture_passOver = 2 := rfl
theorem xrb_Picture_passOver : xrb X_Picture_passOver = 0 := rfl
theorem xin_Picture_passOver : xin X_Picture_passOver = false := rfl
set_option maxHeartbeats 4000000 in
set_option maxRecDepth 100000 in
theorem S_Picture_passOver : Snd yX3_passOver cX3_passOver 4 (some .int) T_Picture_passOver 2 0 0 := by
  refine snd_of (X := X_Picture_passOver) (P := P_Picture_passOver) (tb := tb_Picture_passOver) (own := RX3) (by decide) rfl rfl (by decide +kernel) xok_Picture_passOver rfl rk0 (fun h => by first | rfl | cases h) ?_
  intro as M k has hM hT0
  obtain ⟨sz, sl, lay, ρ, σ, τ⟩ := M
  obtain ⟨o, as1, e, hlo, hT1⟩ := mkT_r hT0
  clear hT0
  subst e
  obtain ⟨t, as2, e, hT2⟩ := pR_x hT1
  clear hT1
  subst e
  obtain ⟨p, as3, e, hT3⟩ := pI_x hT2
  clear hT2
  subst e
  obtain ⟨e, hT⟩ := hT3
  subst e
  replace hlo : lay o = (13, 0) := hlo
  have r_p : -2147483648 ≤ p ∧ p ≤ 2147483647 := has (vI p) (by simp)
  clear has
  replace hM : ∀ a i, -2147483648 ≤ σ a i ∧ σ a i ≤ 2147483647 := hM
  replace hT : TF_Picture_passOver o t p sz sl lay ρ σ τ k := hT
  unfold TF_Picture_passOver at hT
  obtain ⟨hPc, hTp, hl, hto2, hW, hw0, hp, st, hS, hCO, hq, hm, h1, h0⟩ := hT
  obtain ⟨hP, hKd, hTh, hRt, hHo, hWy, hSy, hLf, hTw⟩ := (show LPic lay ρ o from hPc)
  have hU : ∀ x, 0 ≤ tU σ t x ∧ tU σ t x < 256 := tU_R σ t
  obtain ⟨w0, w1, w2, w3, w4, w5, w6, w7, w8, w9, w10, w11, w12, w13, w14⟩ := (show SW (tU σ t) (σ t 1) st from hS)
  refine ⟨Nat.le_of_ble_eq_true rfl, fun _ _ _ => False, fun _ _ _ => 0, 32, ?_, fun _ _ _ _ _ _ h => h.elim⟩
  obtain ⟨ph, pp0, pp1, pp2, pp3, pp4, pp5, pp6, pp7, pq0, pq1, pq2, pq3, pq4, pq5, pq6, pq7⟩ := (show LPicture lay ρ _ from hP)
  obtain ⟨qh, qp0, qq0⟩ := (show LTape lay ρ _ from hTp)
  obtain ⟨hh, hp0, hp1, hq0, hq1⟩ := (show LHoles lay ρ _ from hHo)
  unfold wps
  simp only [si_iload_n0, si_iload_n1, si_iload_n2, si_iload_n3, si_iload, si_lload_n0, si_lload_n1, si_lload_n2, si_lload_n3, si_lload, si_aload_n0, si_aload_n1, si_aload_n2, si_aload_n3, si_aload, si_istore_n0, si_istore_n1, si_istore_n2, si_istore_n3, si_istore, si_astore_n0, si_astore_n1, si_astore_n2, si_astore_n3, si_astore, si_lstore_n0, si_lstore_n1, si_lstore_n2, si_lstore_n3, si_lstore, si_iconst, si_bipush, si_sipush, si_ldc, si_ldc2_w, si_lconst0, si_lconst1, si_aconst_null, si_iinc, si_dup, si_dup2, si_iadd, si_isub, si_imul, si_idiv, si_irem, si_iand, si_ior, si_ishl, si_ishr, si_ladd, si_lmul, si_lor, si_lxor, si_lshl, si_lushr, si_lcmp, si_i2b, si_i2l, si_l2i, si_icmp_eq, si_icmp_ne, si_icmp_lt, si_icmp_ge, si_icmp_gt, si_icmp_le, si_if_eq, si_if_ne, si_if_lt, si_if_ge, si_if_gt, si_if_le, si_ifnull, si_ifnonnull, si_goto, si_tableswitch, si_lookupswitch, si_getfield, si_putfield, si_getstatic, si_iaload, si_baload, si_laload, si_aaload, si_iastore, si_bastore, si_lastore, si_aastore, si_arraylength, si_new, si_newarray, si_anewarray, si_invokevirtual, si_invokespecial, si_invokestatic, si_ireturn, si_lreturn, si_areturn, si_return_, pI_e, pL_e, pR_e, pA_r, pA_n, pN_n, pN_r, oI_e, oL_e, oA_r, oA_n, lget_e, lrm1_0, lrm2_0, lrm1_i, lrm1_r, lrm1_n, lrm1_l, lrm2_i, lrm2_r, lrm2_n, lrm2_l, popN_0, popN_s, acat_i, acat_l, acat_r, acat_n, stw_0, stw_s, psh_s, psh_n, wgf_r, wgf_i, wgf_b, wgf_n, wgf_m, wpf_i, wpf_r, wpf_b, wnew_e, callE_e, rbk_0, rbk_1, tsw_0, tsw_s, lsw_0, lsw_s, wp_s, wq_t, wq_f, oV_e, pick_0, pick_s, oZ_e, oY_e, r_Picture_passOver_0, r_Picture_passOver_1, r_Picture_passOver_2, r_Picture_passOver_5, r_Picture_passOver_7, r_Picture_passOver_10, r_Picture_passOver_11, r_Picture_passOver_12, r_Picture_passOver_15, r_Picture_passOver_16, r_Picture_passOver_17, r_Picture_passOver_20, r_Picture_passOver_21, r_Picture_passOver_22, r_Picture_passOver_23, r_Picture_passOver_24, r_Picture_passOver_27, r_Picture_passOver_28, r_Picture_passOver_29, r_Picture_passOver_32, r_Picture_passOver_33, r_Picture_passOver_34, r_Picture_passOver_37, r_Picture_passOver_38, xf_Picture_passOver_35, xf_Picture_passOver_73, xe_Picture_passOver_464, xe_Picture_passOver_480, xe_Picture_passOver_492, xd_Picture_passOver, xrb_Picture_passOver, xin_Picture_passOver, T_Tape_at_e, TF_Tape_at, T_Tape_tornFrom_e, TF_Tape_tornFrom, T_Holes_add_e, TF_Holes_add, ph, pp0, pp1, pp2, pp3, pp4, pp5, pp6, pp7, pq0, pq1, pq2, pq3, pq4, pq5, pq6, pq7, qh, qp0, qq0, hh, hp0, hp1, hq0, hq1, Nat.reduceAdd, Nat.reduceMul, Nat.reduceEqDiff, reduceIte, Int.reduceNeg, Int.reduceLE, Int.reduceLT, Int.reduceAdd, Int.reduceSub, Int.reduceToNat, true_and, and_true, inR_e, Nat.reduceLT, Nat.reduceLeDiff, reduceCtorEq, Nat.add_zero, Nat.zero_add, or_false, false_or, or_true, true_or, not_true_eq_false, not_false_eq_true, Classical.not_not, Nat.add_eq_zero_iff, and_false, false_and, Int.reduceEq, List.mem_cons, List.not_mem_nil, forall_eq_or_imp, forall_eq, false_implies, implies_true, forall_const, aargs_0, aargs_i, aargs_r, aargs_l, aargs_n, nfT_e, eq_self, and_self, Nat.le_refl, fu_s, fu_fu, iu_iu, iu_s, fu_am, fu_a0, fu_0a, iu_l, Nat.reduceBEq, Int.reduceBEq, T_objInit_e]
  clear pp0 pp1 pp2 pp3 pp4 pp5 pp6 pp7 qp0 hp0 hp1
  have hx := nxm_R (b := tU σ t) (len := σ t 1) (σ t 1 - (p + 1)).toNat (p + 1) (by omega)
  have hc := nxm_c (b := fun i => σ (t + 1) i % 256) (c := tU σ t) (len := σ t 1) (fun i hi => (tU_i hi).symm) (σ t 1 - (p + 1)).toNat (p + 1) (by omega) (by omega)
  have hh := hCO.2.2.2
  refine ⟨hTp, hl, fun a => ⟨fun b => ⟨hTp, hl, hp, hHo, ?_, ?_⟩, fun b => ⟨by omega, h1 (by rw [tU_i a]; exact b)⟩⟩, fun a => absurd hp a⟩
  · have nt : ¬ tU σ t (st 0 0) = 10 := by rw [hq, tU_i a]; exact b
    rcases w6.2 with e | ⟨e, e2 | e2⟩
    · omega
    · omega
    · exact absurd e2 nt
  · rw [hc]
    refine ⟨by omega, ?_⟩
    exact h0 (by rw [tU_i a]; exact b) _ τ ⟨((Fr.rfl'.fu (by omega)).fu (by omega)).fu (by omega), fun _ _ => rfl⟩ (hCO.hole hq (by omega) (by omega) w6.1)

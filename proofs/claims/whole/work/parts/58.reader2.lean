theorem PT.fn1 {σ : Nat → Int → Int} {τ : Nat → Int → Int64} {t : Nat} {U : Int → Int} {st : Nat → Int → Int} (h : PTs σ τ t U st) (hn : 0 ≤ st 0 7) {i x : Int} (hi : (0 ≤ i ∧ i < σ t 12) ∧ σ (t + 1) i = x) : fn U st x = i := by
  rw [← h.fx]
  exact h.2.1.fx (by rw [h.1]; exact hn) hi.1 hi.2
theorem PT.fn0 {σ : Nat → Int → Int} {τ : Nat → Int → Int64} {t : Nat} {U : Int → Int} {st : Nat → Int → Int} (h : PTs σ τ t U st) (hn : 0 ≤ st 0 7) {x : Int} (hi : ∀ i, 0 ≤ i ∧ i < σ t 12 → ¬ σ (t + 1) i = x) : fn U st x = -1 := by
  rw [← h.fx]
  exact fxT_none (by rw [h.1]; exact hn) hi
theorem co_X10_180 : CallOK RX10 (.invokevirtual 45) (2, 0, 0, 0, T_PR_pictureAt) := call_V S_PR_pictureAt (by decide) (ci := 10) rfl (by decide +kernel) (by decide +kernel) (by decide +kernel) (by decide +kernel) (by decide +kernel) (by decide +kernel) T_PR_pictureAt_r
theorem co_X10_300 : CallOK RX10 (.invokevirtual 75) (2, 1, 0, 0, T_Things_numberOf) := call_V S_Things_numberOf (by decide) (ci := 7) rfl (by decide +kernel) (by decide +kernel) (by decide +kernel) (by decide +kernel) (by decide +kernel) (by decide +kernel) T_Things_numberOf_r
def TF_PR_thing (o : Nat) (p : Int) (i : Int) (sz sl : Nat) (lay : Nat → Nat × Int) (ρ : Nat → Int → Nat) (σ : Nat → Int → Int) (τ : Nat → Int → Int64) (k : Option AV → Mm → Prop) : Prop := ∃ (U : Int → Int) (len : Int) (st : Nat → Int → Int), RdP lay ρ σ τ o p U len st ∧ (0 ≤ p ∧ p < 3 → (0 ≤ i ∧ i < st 0 7 → k (some (vI (numA U (st 2) i))) (sz, sl, lay, ρ, σ, τ)) ∧ (¬ (0 ≤ i ∧ i < st 0 7) → k (some (vI (-1))) (sz, sl, lay, ρ, σ, τ))) ∧ (¬ (0 ≤ p ∧ p < 3) → k (some (vI (-1))) (sz, sl, lay, ρ, σ, τ))
def T_PR_thing : Tr := mkT 10 fun o as M k => pI as fun p as => pI as fun i as => as = [] ∧ TF_PR_thing o p i M.1 M.2.1 M.2.2.1 M.2.2.2.1 M.2.2.2.2.1 M.2.2.2.2.2 k
theorem T_PR_thing_e {o : Nat} {p : Int} {i : Int} {sz sl : Nat} {lay : Nat → Nat × Int} {ρ : Nat → Int → Nat} {σ : Nat → Int → Int} {τ : Nat → Int → Int64} {k : Option AV → Mm → Prop} : T_PR_thing [vR o, vI p, vI i] (sz, sl, lay, ρ, σ, τ) k = (lay o = (20, 0) ∧ TF_PR_thing o p i sz sl lay ρ σ τ k) := by simp [T_PR_thing, mkT_e, pI_e, pR_e, pL_e]
theorem T_PR_thing_r (as : List AV) (M : Mm) (k : Option AV → Mm → Prop) (h : T_PR_thing as M k) : ∃ b As, as = vR b :: As ∧ M.2.2.1 b = (10 + 10, 0) := by
  obtain ⟨b, As, h1, h2, -⟩ := mkT_r h
  exact ⟨b, As, h1, h2⟩
def tb_PR_thing : List (Nat × Option (List Nat) × Instr × List Nat) := [(0, none, .aload_n 0, []), (1, none, .iload_n 1, []), (2, none, .invokevirtual 45, []), (5, none, .astore_n 3, []), (6, none, .aload_n 3, []), (7, none, .ifnonnull 7, [14]), (10, none, .iconst (-1), []), (11, none, .goto 11, [22]), (14, none, .aload_n 3, []), (15, none, .getfield 71, []), (18, none, .iload_n 2, []), (19, none, .invokevirtual 75, []), (22, none, .ireturn, [])]
def P_PR_thing : Nat → Option (List Nat) × Instr × List Nat := plk tb_PR_thing
theorem r_PR_thing_0 : P_PR_thing 0 = (none, .aload_n 0, []) := by decide +kernel
theorem r_PR_thing_1 : P_PR_thing 1 = (none, .iload_n 1, []) := by decide +kernel
theorem r_PR_thing_2 : P_PR_thing 2 = (none, .invokevirtual 45, []) := by decide +kernel
theorem r_PR_thing_5 : P_PR_thing 5 = (none, .astore_n 3, []) := by decide +kernel
theorem r_PR_thing_6 : P_PR_thing 6 = (none, .aload_n 3, []) := by decide +kernel
theorem r_PR_thing_7 : P_PR_thing 7 = (none, .ifnonnull 7, [14]) := by decide +kernel
theorem r_PR_thing_10 : P_PR_thing 10 = (none, .iconst (-1), []) := by decide +kernel
theorem r_PR_thing_11 : P_PR_thing 11 = (none, .goto 11, [22]) := by decide +kernel
theorem r_PR_thing_14 : P_PR_thing 14 = (none, .aload_n 3, []) := by decide +kernel
theorem r_PR_thing_15 : P_PR_thing 15 = (none, .getfield 71, []) := by decide +kernel
theorem r_PR_thing_18 : P_PR_thing 18 = (none, .iload_n 2, []) := by decide +kernel
theorem r_PR_thing_19 : P_PR_thing 19 = (none, .invokevirtual 75, []) := by decide +kernel
theorem r_PR_thing_22 : P_PR_thing 22 = (none, .ireturn, []) := by decide +kernel
def E_PR_thing : List (Nat × Ent) := [(180, (2, 0, 0, 0, T_PR_pictureAt)), (300, (2, 1, 0, 0, T_Things_numberOf))]
def X_PR_thing : Cx := (llk (0, 0, 9) ftX10, llk 99 ntX10, llk none kcX10, llk none klX10, llk dEnt E_PR_thing, 2, 0, false)
theorem xok_PR_thing : Xok RX10 X_PR_thing := xok_of ftX10_ok ntX10_ok kcX10_ok klX10_ok (E := E_PR_thing) (List.forall_mem_cons.mpr ⟨co_X10_180, List.forall_mem_cons.mpr ⟨co_X10_300, fun _ h => absurd h List.not_mem_nil⟩⟩)
theorem xf_PR_thing_71 : xfl X_PR_thing 71 = (3, 1, 3) := by decide +kernel
theorem xe_PR_thing_180 : xE X_PR_thing (4 * 45 + 0) = (2, 0, 0, 0, T_PR_pictureAt) := rfl
theorem xe_PR_thing_300 : xE X_PR_thing (4 * 75 + 0) = (2, 1, 0, 0, T_Things_numberOf) := rfl
theorem xd_PR_thing : xd X_PR_thing = 2 := rfl
theorem xrb_PR_thing : xrb X_PR_thing = 0 := rfl
theorem xin_PR_thing : xin X_PR_thing = false := rfl
set_option maxHeartbeats 4000000 in
set_option maxRecDepth 100000 in
theorem S_PR_thing : Snd yX10_thing cX10_thing 4 (some .int) T_PR_thing 2 0 0 := by
  refine snd_of (X := X_PR_thing) (P := P_PR_thing) (tb := tb_PR_thing) (own := RX10) (by decide) rfl rfl (by decide +kernel) xok_PR_thing rfl rk0 (fun h => by first | rfl | cases h) ?_
  intro as M k has hM hT0
  obtain ⟨sz, sl, lay, ρ, σ, τ⟩ := M
  obtain ⟨o, as1, e, hlo, hT1⟩ := mkT_r hT0
  clear hT0
  subst e
  obtain ⟨p, as2, e, hT2⟩ := pI_x hT1
  clear hT1
  subst e
  obtain ⟨i, as3, e, hT3⟩ := pI_x hT2
  clear hT2
  subst e
  obtain ⟨e, hT⟩ := hT3
  subst e
  replace hlo : lay o = (20, 0) := hlo
  have r_p : -2147483648 ≤ p ∧ p ≤ 2147483647 := has (vI p) (by simp)
  have r_i : -2147483648 ≤ i ∧ i ≤ 2147483647 := has (vI i) (by simp)
  clear has
  replace hM : ∀ a i, -2147483648 ≤ σ a i ∧ σ a i ≤ 2147483647 := hM
  replace hT : TF_PR_thing o p i sz sl lay ρ σ τ k := hT
  unfold TF_PR_thing at hT
  obtain ⟨U, len, st, hRP, h1, h0⟩ := hT
  obtain ⟨hR, hPR⟩ := (show RdP lay ρ σ τ o p U len st from hRP)
  have r0 : lay o = (20, 0) := hR.1
  refine ⟨Nat.le_of_ble_eq_true rfl, fun _ _ _ => False, fun _ _ _ => 0, 21, ?_, fun _ _ _ _ _ _ h => h.elim⟩
  by_cases hp : 0 ≤ p ∧ p < 3
  · have hpE : (0 ≤ p ∧ p < 3) = True := eq_true hp
    replace h1 := h1 hp
    obtain ⟨P, eP, -, hPc, hP0⟩ := hR.pic hp
    have hPe : o + 6 + 44 * p.toNat = P := eP.symm
    obtain ⟨hS, hV⟩ := hPR hp
    rw [hPe] at hV
    obtain ⟨hP, hKd, hTh, hRt, hHo, hWy, hSy, hLf, hTw⟩ := (show LPic lay ρ P from hPc)
    obtain ⟨w0, w1, w2, w3, w4, w5, w6, w7, w8, w9, w10, w11, w12, w13, w14⟩ := (show SW U len st from hS)
    obtain ⟨⟨v1, v2, v3, v4, v5⟩, v6, v7, v8, v9⟩ := (show PR σ τ P U len st from hV)
    have n12 := v3.1
    (obtain ⟨ph, pp0, pp1, pp2, pp3, pp4, pp5, pp6, pp7, pq0, pq1, pq2, pq3, pq4, pq5, pq6, pq7⟩ := (show LPicture lay ρ _ from hP); unfold wps; simp only [hpE, hPe, si_iload_n0, si_iload_n1, si_iload_n2, si_iload_n3, si_iload, si_lload_n0, si_lload_n1, si_lload_n2, si_lload_n3, si_lload, si_aload_n0, si_aload_n1, si_aload_n2, si_aload_n3, si_aload, si_istore_n0, si_istore_n1, si_istore_n2, si_istore_n3, si_istore, si_astore_n0, si_astore_n1, si_astore_n2, si_astore_n3, si_astore, si_lstore_n0, si_lstore_n1, si_lstore_n2, si_lstore_n3, si_lstore, si_iconst, si_bipush, si_sipush, si_ldc, si_ldc2_w, si_lconst0, si_lconst1, si_aconst_null, si_iinc, si_dup, si_dup2, si_iadd, si_isub, si_imul, si_idiv, si_irem, si_iand, si_ior, si_ishl, si_ishr, si_ladd, si_lmul, si_lor, si_lxor, si_lshl, si_lushr, si_lcmp, si_i2b, si_i2l, si_l2i, si_icmp_eq, si_icmp_ne, si_icmp_lt, si_icmp_ge, si_icmp_gt, si_icmp_le, si_if_eq, si_if_ne, si_if_lt, si_if_ge, si_if_gt, si_if_le, si_ifnull, si_ifnonnull, si_goto, si_tableswitch, si_lookupswitch, si_getfield, si_putfield, si_getstatic, si_iaload, si_baload, si_laload, si_aaload, si_iastore, si_bastore, si_lastore, si_aastore, si_arraylength, si_new, si_newarray, si_anewarray, si_invokevirtual, si_invokespecial, si_invokestatic, si_ireturn, si_lreturn, si_areturn, si_return_, pI_e, pL_e, pR_e, pA_r, pA_n, pN_n, pN_r, oI_e, oL_e, oA_r, oA_n, lget_e, lrm1_0, lrm2_0, lrm1_i, lrm1_r, lrm1_n, lrm1_l, lrm2_i, lrm2_r, lrm2_n, lrm2_l, popN_0, popN_s, acat_i, acat_l, acat_r, acat_n, stw_0, stw_s, psh_s, psh_n, wgf_r, wgf_i, wgf_b, wgf_n, wgf_m, wpf_i, wpf_r, wpf_b, wnew_e, callE_e, rbk_0, rbk_1, tsw_0, tsw_s, lsw_0, lsw_s, wp_s, wq_t, wq_f, oV_e, pick_0, pick_s, oZ_e, oY_e, r_PR_thing_0, r_PR_thing_1, r_PR_thing_2, r_PR_thing_5, r_PR_thing_6, r_PR_thing_7, r_PR_thing_10, r_PR_thing_11, r_PR_thing_14, r_PR_thing_15, r_PR_thing_18, r_PR_thing_19, r_PR_thing_22, xf_PR_thing_71, xe_PR_thing_180, xe_PR_thing_300, xd_PR_thing, xrb_PR_thing, xin_PR_thing, T_PR_pictureAt_e, TF_PR_pictureAt, T_Things_numberOf_e, TF_Things_numberOf, r0, ph, pp0, pp1, pp2, pp3, pp4, pp5, pp6, pp7, pq0, pq1, pq2, pq3, pq4, pq5, pq6, pq7, Nat.reduceAdd, Nat.reduceMul, Nat.reduceEqDiff, reduceIte, Int.reduceNeg, Int.reduceLE, Int.reduceLT, Int.reduceAdd, Int.reduceSub, Int.reduceToNat, true_and, and_true, inR_e, Nat.reduceLT, Nat.reduceLeDiff, reduceCtorEq, Nat.add_zero, Nat.zero_add, or_false, false_or, or_true, true_or, not_true_eq_false, not_false_eq_true, Classical.not_not, Nat.add_eq_zero_iff, and_false, false_and, Int.reduceEq, List.mem_cons, List.not_mem_nil, forall_eq_or_imp, forall_eq, false_implies, implies_true, forall_const, aargs_0, aargs_i, aargs_r, aargs_l, aargs_n, nfT_e, eq_self, and_self, Nat.le_refl, fu_s, fu_fu, iu_iu, iu_s, fu_am, fu_a0, fu_0a, iu_l, Nat.reduceBEq, Int.reduceBEq, T_objInit_e]; clear pp0 pp1 pp2 pp3 pp4 pp5 pp6 pp7)
    rw [n12]
    exact ⟨hR, hTh, w9, fun a => by rw [(v3.2.2.2.2.2.1 i a).1.1]; exact h1.1 a, h1.2⟩
  · have hpE : (0 ≤ p ∧ p < 3) = False := eq_false hp
    (unfold wps; simp only [hpE, si_iload_n0, si_iload_n1, si_iload_n2, si_iload_n3, si_iload, si_lload_n0, si_lload_n1, si_lload_n2, si_lload_n3, si_lload, si_aload_n0, si_aload_n1, si_aload_n2, si_aload_n3, si_aload, si_istore_n0, si_istore_n1, si_istore_n2, si_istore_n3, si_istore, si_astore_n0, si_astore_n1, si_astore_n2, si_astore_n3, si_astore, si_lstore_n0, si_lstore_n1, si_lstore_n2, si_lstore_n3, si_lstore, si_iconst, si_bipush, si_sipush, si_ldc, si_ldc2_w, si_lconst0, si_lconst1, si_aconst_null, si_iinc, si_dup, si_dup2, si_iadd, si_isub, si_imul, si_idiv, si_irem, si_iand, si_ior, si_ishl, si_ishr, si_ladd, si_lmul, si_lor, si_lxor, si_lshl, si_lushr, si_lcmp, si_i2b, si_i2l, si_l2i, si_icmp_eq, si_icmp_ne, si_icmp_lt, si_icmp_ge, si_icmp_gt, si_icmp_le, si_if_eq, si_if_ne, si_if_lt, si_if_ge, si_if_gt, si_if_le, si_ifnull, si_ifnonnull, si_goto, si_tableswitch, si_lookupswitch, si_getfield, si_putfield, si_getstatic, si_iaload, si_baload, si_laload, si_aaload, si_iastore, si_bastore, si_lastore, si_aastore, si_arraylength, si_new, si_newarray, si_anewarray, si_invokevirtual, si_invokespecial, si_invokestatic, si_ireturn, si_lreturn, si_areturn, si_return_, pI_e, pL_e, pR_e, pA_r, pA_n, pN_n, pN_r, oI_e, oL_e, oA_r, oA_n, lget_e, lrm1_0, lrm2_0, lrm1_i, lrm1_r, lrm1_n, lrm1_l, lrm2_i, lrm2_r, lrm2_n, lrm2_l, popN_0, popN_s, acat_i, acat_l, acat_r, acat_n, stw_0, stw_s, psh_s, psh_n, wgf_r, wgf_i, wgf_b, wgf_n, wgf_m, wpf_i, wpf_r, wpf_b, wnew_e, callE_e, rbk_0, rbk_1, tsw_0, tsw_s, lsw_0, lsw_s, wp_s, wq_t, wq_f, oV_e, pick_0, pick_s, oZ_e, oY_e, r_PR_thing_0, r_PR_thing_1, r_PR_thing_2, r_PR_thing_5, r_PR_thing_6, r_PR_thing_7, r_PR_thing_10, r_PR_thing_11, r_PR_thing_14, r_PR_thing_15, r_PR_thing_18, r_PR_thing_19, r_PR_thing_22, xf_PR_thing_71, xe_PR_thing_180, xe_PR_thing_300, xd_PR_thing, xrb_PR_thing, xin_PR_thing, T_PR_pictureAt_e, TF_PR_pictureAt, T_Things_numberOf_e, TF_Things_numberOf, r0, Nat.reduceAdd, Nat.reduceMul, Nat.reduceEqDiff, reduceIte, Int.reduceNeg, Int.reduceLE, Int.reduceLT, Int.reduceAdd, Int.reduceSub, Int.reduceToNat, true_and, and_true, inR_e, Nat.reduceLT, Nat.reduceLeDiff, reduceCtorEq, Nat.add_zero, Nat.zero_add, or_false, false_or, or_true, true_or, not_true_eq_false, not_false_eq_true, Classical.not_not, Nat.add_eq_zero_iff, and_false, false_and, Int.reduceEq, List.mem_cons, List.not_mem_nil, forall_eq_or_imp, forall_eq, false_implies, implies_true, forall_const, aargs_0, aargs_i, aargs_r, aargs_l, aargs_n, nfT_e, eq_self, and_self, Nat.le_refl, fu_s, fu_fu, iu_iu, iu_s, fu_am, fu_a0, fu_0a, iu_l, Nat.reduceBEq, Int.reduceBEq, T_objInit_e])
    exact ⟨hR, h0 hp⟩
theorem co_X10_260 : CallOK RX10 (.invokevirtual 65) (3, 0, 0, 0, T_Holes_tell) := call_V S_Holes_tell (by decide) (ci := 0) rfl (by decide +kernel) (by decide +kernel) (by decide +kernel) (by decide +kernel) (by decide +kernel) (by decide +kernel) T_Holes_tell_r
def TF_PR_hole (o : Nat) (p : Int) (i : Int) (w : Int) (sz sl : Nat) (lay : Nat → Nat × Int) (ρ : Nat → Int → Nat) (σ : Nat → Int → Int) (τ : Nat → Int → Int64) (k : Option AV → Mm → Prop) : Prop := ∃ (U : Int → Int) (len : Int) (st : Nat → Int → Int), RdP lay ρ σ τ o p U len st ∧ (0 ≤ p ∧ p < 3 → (0 ≤ i ∧ i < st 0 4 ∧ w = 0 → k (some (vI (st 4 i))) (sz, sl, lay, ρ, σ, τ)) ∧ (0 ≤ i ∧ i < st 0 4 ∧ w = 1 → k (some (vI (st 5 i))) (sz, sl, lay, ρ, σ, τ)) ∧ (¬ (0 ≤ i ∧ i < st 0 4 ∧ 0 ≤ w ∧ w ≤ 1) → k (some (vI (-1))) (sz, sl, lay, ρ, σ, τ))) ∧ (¬ (0 ≤ p ∧ p < 3) → k (some (vI (-1))) (sz, sl, lay, ρ, σ, τ))
def T_PR_hole : Tr := mkT 10 fun o as M k => pI as fun p as => pI as fun i as => pI as fun w as => as = [] ∧ TF_PR_hole o p i w M.1 M.2.1 M.2.2.1 M.2.2.2.1 M.2.2.2.2.1 M.2.2.2.2.2 k
theorem T_PR_hole_e {o : Nat} {p : Int} {i : Int} {w : Int} {sz sl : Nat} {lay : Nat → Nat × Int} {ρ : Nat → Int → Nat} {σ : Nat → Int → Int} {τ : Nat → Int → Int64} {k : Option AV → Mm → Prop} : T_PR_hole [vR o, vI p, vI i, vI w] (sz, sl, lay, ρ, σ, τ) k = (lay o = (20, 0) ∧ TF_PR_hole o p i w sz sl lay ρ σ τ k) := by simp [T_PR_hole, mkT_e, pI_e, pR_e, pL_e]
theorem T_PR_hole_r (as : List AV) (M : Mm) (k : Option AV → Mm → Prop) (h : T_PR_hole as M k) : ∃ b As, as = vR b :: As ∧ M.2.2.1 b = (10 + 10, 0) := by
  obtain ⟨b, As, h1, h2, -⟩ := mkT_r h
  exact ⟨b, As, h1, h2⟩
def tb_PR_hole : List (Nat × Option (List Nat) × Instr × List Nat) := [(0, none, .aload_n 0, []), (1, none, .iload_n 1, []), (2, none, .invokevirtual 45, []), (5, none, .astore 4, []), (7, none, .aload 4, []), (9, none, .ifnonnull 7, [16]), (12, none, .iconst (-1), []), (13, none, .goto 13, [26]), (16, none, .aload 4, []), (18, none, .getfield 61, []), (21, none, .iload_n 2, []), (22, none, .iload_n 3, []), (23, none, .invokevirtual 65, []), (26, none, .ireturn, [])]
def P_PR_hole : Nat → Option (List Nat) × Instr × List Nat := plk tb_PR_hole
theorem r_PR_hole_0 : P_PR_hole 0 = (none, .aload_n 0, []) := by decide +kernel
theorem r_PR_hole_1 : P_PR_hole 1 = (none, .iload_n 1, []) := by decide +kernel
theorem r_PR_hole_2 : P_PR_hole 2 = (none, .invokevirtual 45, []) := by decide +kernel
theorem r_PR_hole_5 : P_PR_hole 5 = (none, .astore 4, []) := by decide +kernel
theorem r_PR_hole_7 : P_PR_hole 7 = (none, .aload 4, []) := by decide +kernel
theorem r_PR_hole_9 : P_PR_hole 9 = (none, .ifnonnull 7, [16]) := by decide +kernel
theorem r_PR_hole_12 : P_PR_hole 12 = (none, .iconst (-1), []) := by decide +kernel
theorem r_PR_hole_13 : P_PR_hole 13 = (none, .goto 13, [26]) := by decide +kernel
theorem r_PR_hole_16 : P_PR_hole 16 = (none, .aload 4, []) := by decide +kernel
theorem r_PR_hole_18 : P_PR_hole 18 = (none, .getfield 61, []) := by decide +kernel
theorem r_PR_hole_21 : P_PR_hole 21 = (none, .iload_n 2, []) := by decide +kernel
theorem r_PR_hole_22 : P_PR_hole 22 = (none, .iload_n 3, []) := by decide +kernel
theorem r_PR_hole_23 : P_PR_hole 23 = (none, .invokevirtual 65, []) := by decide +kernel
theorem r_PR_hole_26 : P_PR_hole 26 = (none, .ireturn, []) := by decide +kernel
def E_PR_hole : List (Nat × Ent) := [(180, (2, 0, 0, 0, T_PR_pictureAt)), (260, (3, 0, 0, 0, T_Holes_tell))]
def X_PR_hole : Cx := (llk (0, 0, 9) ftX10, llk 99 ntX10, llk none kcX10, llk none klX10, llk dEnt E_PR_hole, 1, 0, false)
theorem xok_PR_hole : Xok RX10 X_PR_hole := xok_of ftX10_ok ntX10_ok kcX10_ok klX10_ok (E := E_PR_hole) (List.forall_mem_cons.mpr ⟨co_X10_180, List.forall_mem_cons.mpr ⟨co_X10_260, fun _ h => absurd h List.not_mem_nil⟩⟩)
theorem xf_PR_hole_61 : xfl X_PR_hole 61 = (3, 3, 3) := by decide +kernel
theorem xe_PR_hole_180 : xE X_PR_hole (4 * 45 + 0) = (2, 0, 0, 0, T_PR_pictureAt) := rfl
theorem xe_PR_hole_260 : xE X_PR_hole (4 * 65 + 0) = (3, 0, 0, 0, T_Holes_tell) := rfl
theorem xd_PR_hole : xd X_PR_hole = 1 := rfl
theorem xrb_PR_hole : xrb X_PR_hole = 0 := rfl
theorem xin_PR_hole : xin X_PR_hole = false := rfl
set_option maxHeartbeats 4000000 in
set_option maxRecDepth 100000 in
theorem S_PR_hole : Snd yX10_hole cX10_hole 5 (some .int) T_PR_hole 1 0 0 := by
  refine snd_of (X := X_PR_hole) (P := P_PR_hole) (tb := tb_PR_hole) (own := RX10) (by decide) rfl rfl (by decide +kernel) xok_PR_hole rfl rk0 (fun h => by first | rfl | cases h) ?_
  intro as M k has hM hT0
  obtain ⟨sz, sl, lay, ρ, σ, τ⟩ := M
  obtain ⟨o, as1, e, hlo, hT1⟩ := mkT_r hT0
  clear hT0
  subst e
  obtain ⟨p, as2, e, hT2⟩ := pI_x hT1
  clear hT1
  subst e
  obtain ⟨i, as3, e, hT3⟩ := pI_x hT2
  clear hT2
  subst e
  obtain ⟨w, as4, e, hT4⟩ := pI_x hT3
  clear hT3
  subst e
  obtain ⟨e, hT⟩ := hT4
  subst e
  replace hlo : lay o = (20, 0) := hlo
  have r_p : -2147483648 ≤ p ∧ p ≤ 2147483647 := has (vI p) (by simp)
  have r_i : -2147483648 ≤ i ∧ i ≤ 2147483647 := has (vI i) (by simp)
  have r_w : -2147483648 ≤ w ∧ w ≤ 2147483647 := has (vI w) (by simp)
  clear has
  replace hM : ∀ a i, -2147483648 ≤ σ a i ∧ σ a i ≤ 2147483647 := hM
  replace hT : TF_PR_hole o p i w sz sl lay ρ σ τ k := hT
  unfold TF_PR_hole at hT
  obtain ⟨U, len, st, hRP, h1, h0⟩ := hT
  obtain ⟨hR, hPR⟩ := (show RdP lay ρ σ τ o p U len st from hRP)
  have r0 : lay o = (20, 0) := hR.1
  refine ⟨Nat.le_of_ble_eq_true rfl, fun _ _ _ => False, fun _ _ _ => 0, 22, ?_, fun _ _ _ _ _ _ h => h.elim⟩
  by_cases hp : 0 ≤ p ∧ p < 3
  · have hpE : (0 ≤ p ∧ p < 3) = True := eq_true hp
    replace h1 := h1 hp
    obtain ⟨P, eP, -, hPc, hP0⟩ := hR.pic hp
    have hPe : o + 6 + 44 * p.toNat = P := eP.symm
    obtain ⟨hS, hV⟩ := hPR hp
    rw [hPe] at hV
    obtain ⟨hP, hKd, hTh, hRt, hHo, hWy, hSy, hLf, hTw⟩ := (show LPic lay ρ P from hPc)
    obtain ⟨w0, w1, w2, w3, w4, w5, w6, w7, w8, w9, w10, w11, w12, w13, w14⟩ := (show SW U len st from hS)
    obtain ⟨⟨v1, v2, v3, v4, v5⟩, v6, v7, v8, v9⟩ := (show PR σ τ P U len st from hV)
    have n12 := v3.1
    (obtain ⟨ph, pp0, pp1, pp2, pp3, pp4, pp5, pp6, pp7, pq0, pq1, pq2, pq3, pq4, pq5, pq6, pq7⟩ := (show LPicture lay ρ _ from hP); unfold wps; simp only [hpE, hPe, si_iload_n0, si_iload_n1, si_iload_n2, si_iload_n3, si_iload, si_lload_n0, si_lload_n1, si_lload_n2, si_lload_n3, si_lload, si_aload_n0, si_aload_n1, si_aload_n2, si_aload_n3, si_aload, si_istore_n0, si_istore_n1, si_istore_n2, si_istore_n3, si_istore, si_astore_n0, si_astore_n1, si_astore_n2, si_astore_n3, si_astore, si_lstore_n0, si_lstore_n1, si_lstore_n2, si_lstore_n3, si_lstore, si_iconst, si_bipush, si_sipush, si_ldc, si_ldc2_w, si_lconst0, si_lconst1, si_aconst_null, si_iinc, si_dup, si_dup2, si_iadd, si_isub, si_imul, si_idiv, si_irem, si_iand, si_ior, si_ishl, si_ishr, si_ladd, si_lmul, si_lor, si_lxor, si_lshl, si_lushr, si_lcmp, si_i2b, si_i2l, si_l2i, si_icmp_eq, si_icmp_ne, si_icmp_lt, si_icmp_ge, si_icmp_gt, si_icmp_le, si_if_eq, si_if_ne, si_if_lt, si_if_ge, si_if_gt, si_if_le, si_ifnull, si_ifnonnull, si_goto, si_tableswitch, si_lookupswitch, si_getfield, si_putfield, si_getstatic, si_iaload, si_baload, si_laload, si_aaload, si_iastore, si_bastore, si_lastore, si_aastore, si_arraylength, si_new, si_newarray, si_anewarray, si_invokevirtual, si_invokespecial, si_invokestatic, si_ireturn, si_lreturn, si_areturn, si_return_, pI_e, pL_e, pR_e, pA_r, pA_n, pN_n, pN_r, oI_e, oL_e, oA_r, oA_n, lget_e, lrm1_0, lrm2_0, lrm1_i, lrm1_r, lrm1_n, lrm1_l, lrm2_i, lrm2_r, lrm2_n, lrm2_l, popN_0, popN_s, acat_i, acat_l, acat_r, acat_n, stw_0, stw_s, psh_s, psh_n, wgf_r, wgf_i, wgf_b, wgf_n, wgf_m, wpf_i, wpf_r, wpf_b, wnew_e, callE_e, rbk_0, rbk_1, tsw_0, tsw_s, lsw_0, lsw_s, wp_s, wq_t, wq_f, oV_e, pick_0, pick_s, oZ_e, oY_e, r_PR_hole_0, r_PR_hole_1, r_PR_hole_2, r_PR_hole_5, r_PR_hole_7, r_PR_hole_9, r_PR_hole_12, r_PR_hole_13, r_PR_hole_16, r_PR_hole_18, r_PR_hole_21, r_PR_hole_22, r_PR_hole_23, r_PR_hole_26, xf_PR_hole_61, xe_PR_hole_180, xe_PR_hole_260, xd_PR_hole, xrb_PR_hole, xin_PR_hole, T_PR_pictureAt_e, TF_PR_pictureAt, T_Holes_tell_e, TF_Holes_tell, r0, ph, pp0, pp1, pp2, pp3, pp4, pp5, pp6, pp7, pq0, pq1, pq2, pq3, pq4, pq5, pq6, pq7, Nat.reduceAdd, Nat.reduceMul, Nat.reduceEqDiff, reduceIte, Int.reduceNeg, Int.reduceLE, Int.reduceLT, Int.reduceAdd, Int.reduceSub, Int.reduceToNat, true_and, and_true, inR_e, Nat.reduceLT, Nat.reduceLeDiff, reduceCtorEq, Nat.add_zero, Nat.zero_add, or_false, false_or, or_true, true_or, not_true_eq_false, not_false_eq_true, Classical.not_not, Nat.add_eq_zero_iff, and_false, false_and, Int.reduceEq, List.mem_cons, List.not_mem_nil, forall_eq_or_imp, forall_eq, false_implies, implies_true, forall_const, aargs_0, aargs_i, aargs_r, aargs_l, aargs_n, nfT_e, eq_self, and_self, Nat.le_refl, fu_s, fu_fu, iu_iu, iu_s, fu_am, fu_a0, fu_0a, iu_l, Nat.reduceBEq, Int.reduceBEq, T_objInit_e]; clear pp0 pp1 pp2 pp3 pp4 pp5 pp6 pp7)
    have h4 := v5.1
    rw [h4]
    refine ⟨hR, hHo, by omega, fun a => ?_, fun a => ?_, fun a => h1.2.2 (by omega)⟩
    · have := (v5.2.2 i (by omega)).1
      rw [show P + 24 + 1 = P + 25 from rfl, this]; exact h1.1 (by omega)
    · have := (v5.2.2 i (by omega)).2
      rw [show P + 24 + 2 = P + 26 from rfl, this]; exact h1.2.1 (by omega)
  · have hpE : (0 ≤ p ∧ p < 3) = False := eq_false hp
    (unfold wps; simp only [hpE, si_iload_n0, si_iload_n1, si_iload_n2, si_iload_n3, si_iload, si_lload_n0, si_lload_n1, si_lload_n2, si_lload_n3, si_lload, si_aload_n0, si_aload_n1, si_aload_n2, si_aload_n3, si_aload, si_istore_n0, si_istore_n1, si_istore_n2, si_istore_n3, si_istore, si_astore_n0, si_astore_n1, si_astore_n2, si_astore_n3, si_astore, si_lstore_n0, si_lstore_n1, si_lstore_n2, si_lstore_n3, si_lstore, si_iconst, si_bipush, si_sipush, si_ldc, si_ldc2_w, si_lconst0, si_lconst1, si_aconst_null, si_iinc, si_dup, si_dup2, si_iadd, si_isub, si_imul, si_idiv, si_irem, si_iand, si_ior, si_ishl, si_ishr, si_ladd, si_lmul, si_lor, si_lxor, si_lshl, si_lushr, si_lcmp, si_i2b, si_i2l, si_l2i, si_icmp_eq, si_icmp_ne, si_icmp_lt, si_icmp_ge, si_icmp_gt, si_icmp_le, si_if_eq, si_if_ne, si_if_lt, si_if_ge, si_if_gt, si_if_le, si_ifnull, si_ifnonnull, si_goto, si_tableswitch, si_lookupswitch, si_getfield, si_putfield, si_getstatic, si_iaload, si_baload, si_laload, si_aaload, si_iastore, si_bastore, si_lastore, si_aastore, si_arraylength, si_new, si_newarray, si_anewarray, si_invokevirtual, si_invokespecial, si_invokestatic, si_ireturn, si_lreturn, si_areturn, si_return_, pI_e, pL_e, pR_e, pA_r, pA_n, pN_n, pN_r, oI_e, oL_e, oA_r, oA_n, lget_e, lrm1_0, lrm2_0, lrm1_i, lrm1_r, lrm1_n, lrm1_l, lrm2_i, lrm2_r, lrm2_n, lrm2_l, popN_0, popN_s, acat_i, acat_l, acat_r, acat_n, stw_0, stw_s, psh_s, psh_n, wgf_r, wgf_i, wgf_b, wgf_n, wgf_m, wpf_i, wpf_r, wpf_b, wnew_e, callE_e, rbk_0, rbk_1, tsw_0, tsw_s, lsw_0, lsw_s, wp_s, wq_t, wq_f, oV_e, pick_0, pick_s, oZ_e, oY_e, r_PR_hole_0, r_PR_hole_1, r_PR_hole_2, r_PR_hole_5, r_PR_hole_7, r_PR_hole_9, r_PR_hole_12, r_PR_hole_13, r_PR_hole_16, r_PR_hole_18, r_PR_hole_21, r_PR_hole_22, r_PR_hole_23, r_PR_hole_26, xf_PR_hole_61, xe_PR_hole_180, xe_PR_hole_260, xd_PR_hole, xrb_PR_hole, xin_PR_hole, T_PR_pictureAt_e, TF_PR_pictureAt, T_Holes_tell_e, TF_Holes_tell, r0, Nat.reduceAdd, Nat.reduceMul, Nat.reduceEqDiff, reduceIte, Int.reduceNeg, Int.reduceLE, Int.reduceLT, Int.reduceAdd, Int.reduceSub, Int.reduceToNat, true_and, and_true, inR_e, Nat.reduceLT, Nat.reduceLeDiff, reduceCtorEq, Nat.add_zero, Nat.zero_add, or_false, false_or, or_true, true_or, not_true_eq_false, not_false_eq_true, Classical.not_not, Nat.add_eq_zero_iff, and_false, false_and, Int.reduceEq, List.mem_cons, List.not_mem_nil, forall_eq_or_imp, forall_eq, false_implies, implies_true, forall_const, aargs_0, aargs_i, aargs_r, aargs_l, aargs_n, nfT_e, eq_self, and_self, Nat.le_refl, fu_s, fu_fu, iu_iu, iu_s, fu_am, fu_a0, fu_0a, iu_l, Nat.reduceBEq, Int.reduceBEq, T_objInit_e])
    exact ⟨hR, h0 hp⟩
theorem co_X10_432 : CallOK RX10 (.invokevirtual 108) (2, 1, 0, 0, T_Life_lives) := call_V S_Life_lives (by decide) (ci := 2) rfl (by decide +kernel) (by decide +kernel) (by decide +kernel) (by decide +kernel) (by decide +kernel) (by decide +kernel) T_Life_lives_r
theorem co_X10_320 : CallOK RX10 (.invokevirtual 80) (2, 2, 0, 0, T_Things_find) := call_V S_Things_find (by decide) (ci := 7) rfl (by decide +kernel) (by decide +kernel) (by decide +kernel) (by decide +kernel) (by decide +kernel) (by decide +kernel) T_Things_find_r
def TF_PR_alive (o : Nat) (p : Int) (x : Int) (sz sl : Nat) (lay : Nat → Nat × Int) (ρ : Nat → Int → Nat) (σ : Nat → Int → Int) (τ : Nat → Int → Int64) (k : Option AV → Mm → Prop) : Prop := ∃ (U : Int → Int) (len : Int) (st : Nat → Int → Int), RdP lay ρ σ τ o p U len st ∧ (0 ≤ p ∧ p < 3 → (fn U st x = -1 → k (some (vI (-1))) (sz, sl, lay, ρ, σ, τ)) ∧ (0 ≤ fn U st x → lvP U st (fn U st x) → k (some (vI (1))) (sz, sl, lay, ρ, σ, τ)) ∧ (0 ≤ fn U st x → ¬ lvP U st (fn U st x) → k (some (vI (0))) (sz, sl, lay, ρ, σ, τ))) ∧ (¬ (0 ≤ p ∧ p < 3) → k (some (vI (-1))) (sz, sl, lay, ρ, σ, τ))
def T_PR_alive : Tr := mkT 10 fun o as M k => pI as fun p as => pI as fun x as => as = [] ∧ TF_PR_alive o p x M.1 M.2.1 M.2.2.1 M.2.2.2.1 M.2.2.2.2.1 M.2.2.2.2.2 k
theorem T_PR_alive_e {o : Nat} {p : Int} {x : Int} {sz sl : Nat} {lay : Nat → Nat × Int} {ρ : Nat → Int → Nat} {σ : Nat → Int → Int} {τ : Nat → Int → Int64} {k : Option AV → Mm → Prop} : T_PR_alive [vR o, vI p, vI x] (sz, sl, lay, ρ, σ, τ) k = (lay o = (20, 0) ∧ TF_PR_alive o p x sz sl lay ρ σ τ k) := by simp [T_PR_alive, mkT_e, pI_e, pR_e, pL_e]
theorem T_PR_alive_r (as : List AV) (M : Mm) (k : Option AV → Mm → Prop) (h : T_PR_alive as M k) : ∃ b As, as = vR b :: As ∧ M.2.2.1 b = (10 + 10, 0) := by
  obtain ⟨b, As, h1, h2, -⟩ := mkT_r h
  exact ⟨b, As, h1, h2⟩
def tb_PR_alive : List (Nat × Option (List Nat) × Instr × List Nat) := [(0, none, .aload_n 0, []), (1, none, .iload_n 1, []), (2, none, .invokevirtual 45, []), (5, none, .astore_n 3, []), (6, none, .aload_n 3, []), (7, none, .ifnonnull 5, [12]), (10, none, .iconst (-1), []), (11, none, .ireturn, []), (12, none, .aload_n 3, []), (13, none, .getfield 71, []), (16, none, .iload_n 2, []), (17, none, .invokevirtual 80, []), (20, none, .istore 4, []), (22, none, .iload 4, []), (24, none, .iconst (-1), []), (25, none, .if_icmp .ne 5, [30]), (28, none, .iconst (-1), []), (29, none, .ireturn, []), (30, none, .aload_n 3, []), (31, none, .getfield 104, []), (34, none, .iload 4, []), (36, none, .invokevirtual 108, []), (39, none, .ifCond .eq 7, [46]), (42, none, .iconst 1, []), (43, none, .goto 4, [47]), (46, none, .iconst 0, []), (47, none, .ireturn, [])]
def P_PR_alive : Nat → Option (List Nat) × Instr × List Nat := plk tb_PR_alive
theorem r_PR_alive_0 : P_PR_alive 0 = (none, .aload_n 0, []) := by decide +kernel
theorem r_PR_alive_1 : P_PR_alive 1 = (none, .iload_n 1, []) := by decide +kernel
theorem r_PR_alive_2 : P_PR_alive 2 = (none, .invokevirtual 45, []) := by decide +kernel
theorem r_PR_alive_5 : P_PR_alive 5 = (none, .astore_n 3, []) := by decide +kernel
theorem r_PR_alive_6 : P_PR_alive 6 = (none, .aload_n 3, []) := by decide +kernel
theorem r_PR_alive_7 : P_PR_alive 7 = (none, .ifnonnull 5, [12]) := by decide +kernel
theorem r_PR_alive_10 : P_PR_alive 10 = (none, .iconst (-1), []) := by decide +kernel
theorem r_PR_alive_11 : P_PR_alive 11 = (none, .ireturn, []) := by decide +kernel
theorem r_PR_alive_12 : P_PR_alive 12 = (none, .aload_n 3, []) := by decide +kernel
theorem r_PR_alive_13 : P_PR_alive 13 = (none, .getfield 71, []) := by decide +kernel
theorem r_PR_alive_16 : P_PR_alive 16 = (none, .iload_n 2, []) := by decide +kernel
theorem r_PR_alive_17 : P_PR_alive 17 = (none, .invokevirtual 80, []) := by decide +kernel
theorem r_PR_alive_20 : P_PR_alive 20 = (none, .istore 4, []) := by decide +kernel
theorem r_PR_alive_22 : P_PR_alive 22 = (none, .iload 4, []) := by decide +kernel
theorem r_PR_alive_24 : P_PR_alive 24 = (none, .iconst (-1), []) := by decide +kernel
theorem r_PR_alive_25 : P_PR_alive 25 = (none, .if_icmp .ne 5, [30]) := by decide +kernel
theorem r_PR_alive_28 : P_PR_alive 28 = (none, .iconst (-1), []) := by decide +kernel
theorem r_PR_alive_29 : P_PR_alive 29 = (none, .ireturn, []) := by decide +kernel
theorem r_PR_alive_30 : P_PR_alive 30 = (none, .aload_n 3, []) := by decide +kernel
theorem r_PR_alive_31 : P_PR_alive 31 = (none, .getfield 104, []) := by decide +kernel
theorem r_PR_alive_34 : P_PR_alive 34 = (none, .iload 4, []) := by decide +kernel
theorem r_PR_alive_36 : P_PR_alive 36 = (none, .invokevirtual 108, []) := by decide +kernel
theorem r_PR_alive_39 : P_PR_alive 39 = (none, .ifCond .eq 7, [46]) := by decide +kernel
theorem r_PR_alive_42 : P_PR_alive 42 = (none, .iconst 1, []) := by decide +kernel
theorem r_PR_alive_43 : P_PR_alive 43 = (none, .goto 4, [47]) := by decide +kernel
theorem r_PR_alive_46 : P_PR_alive 46 = (none, .iconst 0, []) := by decide +kernel
theorem r_PR_alive_47 : P_PR_alive 47 = (none, .ireturn, []) := by decide +kernel
def E_PR_alive : List (Nat × Ent) := [(432, (2, 1, 0, 0, T_Life_lives)), (180, (2, 0, 0, 0, T_PR_pictureAt)), (320, (2, 2, 0, 0, T_Things_find))]
def X_PR_alive : Cx := (llk (0, 0, 9) ftX10, llk 99 ntX10, llk none kcX10, llk none klX10, llk dEnt E_PR_alive, 3, 0, false)
theorem xok_PR_alive : Xok RX10 X_PR_alive := xok_of ftX10_ok ntX10_ok kcX10_ok klX10_ok (E := E_PR_alive) (List.forall_mem_cons.mpr ⟨co_X10_432, List.forall_mem_cons.mpr ⟨co_X10_180, List.forall_mem_cons.mpr ⟨co_X10_320, fun _ h => absurd h List.not_mem_nil⟩⟩⟩)
theorem xf_PR_alive_71 : xfl X_PR_alive 71 = (3, 1, 3) := by decide +kernel
theorem xf_PR_alive_104 : xfl X_PR_alive 104 = (3, 6, 3) := by decide +kernel
theorem xe_PR_alive_432 : xE X_PR_alive (4 * 108 + 0) = (2, 1, 0, 0, T_Life_lives) := rfl
theorem xe_PR_alive_180 : xE X_PR_alive (4 * 45 + 0) = (2, 0, 0, 0, T_PR_pictureAt) := rfl
theorem xe_PR_alive_320 : xE X_PR_alive (4 * 80 + 0) = (2, 2, 0, 0, T_Things_find) := rfl
theorem xd_PR_alive : xd X_PR_alive = 3 := rfl
theorem xrb_PR_alive : xrb X_PR_alive = 0 := rfl
theorem xin_PR_alive : xin X_PR_alive = false := rfl
set_option maxHeartbeats 4000000 in
set_option maxRecDepth 100000 in
theorem S_PR_alive : Snd yX10_alive cX10_alive 5 (some .int) T_PR_alive 3 0 0 := by
  refine snd_of (X := X_PR_alive) (P := P_PR_alive) (tb := tb_PR_alive) (own := RX10) (by decide) rfl rfl (by decide +kernel) xok_PR_alive rfl rk0 (fun h => by first | rfl | cases h) ?_
  intro as M k has hM hT0
  obtain ⟨sz, sl, lay, ρ, σ, τ⟩ := M
  obtain ⟨o, as1, e, hlo, hT1⟩ := mkT_r hT0
  clear hT0
  subst e
  obtain ⟨p, as2, e, hT2⟩ := pI_x hT1
  clear hT1
  subst e
  obtain ⟨x, as3, e, hT3⟩ := pI_x hT2
  clear hT2
  subst e
  obtain ⟨e, hT⟩ := hT3
  subst e
  replace hlo : lay o = (20, 0) := hlo
  have r_p : -2147483648 ≤ p ∧ p ≤ 2147483647 := has (vI p) (by simp)
  have r_x : -2147483648 ≤ x ∧ x ≤ 2147483647 := has (vI x) (by simp)
  clear has
  replace hM : ∀ a i, -2147483648 ≤ σ a i ∧ σ a i ≤ 2147483647 := hM
  replace hT : TF_PR_alive o p x sz sl lay ρ σ τ k := hT
  unfold TF_PR_alive at hT
  obtain ⟨U, len, st, hRP, h1, h0⟩ := hT
  obtain ⟨hR, hPR⟩ := (show RdP lay ρ σ τ o p U len st from hRP)
  have r0 : lay o = (20, 0) := hR.1
  refine ⟨Nat.le_of_ble_eq_true rfl, fun _ _ _ => False, fun _ _ _ => 0, 35, ?_, fun _ _ _ _ _ _ h => h.elim⟩
  by_cases hp : 0 ≤ p ∧ p < 3
  · have hpE : (0 ≤ p ∧ p < 3) = True := eq_true hp
    replace h1 := h1 hp
    obtain ⟨P, eP, -, hPc, hP0⟩ := hR.pic hp
    have hPe : o + 6 + 44 * p.toNat = P := eP.symm
    obtain ⟨hS, hV⟩ := hPR hp
    rw [hPe] at hV
    obtain ⟨hP, hKd, hTh, hRt, hHo, hWy, hSy, hLf, hTw⟩ := (show LPic lay ρ P from hPc)
    obtain ⟨w0, w1, w2, w3, w4, w5, w6, w7, w8, w9, w10, w11, w12, w13, w14⟩ := (show SW U len st from hS)
    obtain ⟨⟨v1, v2, v3, v4, v5⟩, v6, v7, v8, v9⟩ := (show PR σ τ P U len st from hV)
    have n12 := v3.1
    (obtain ⟨ph, pp0, pp1, pp2, pp3, pp4, pp5, pp6, pp7, pq0, pq1, pq2, pq3, pq4, pq5, pq6, pq7⟩ := (show LPicture lay ρ _ from hP); unfold wps; simp only [hpE, hPe, si_iload_n0, si_iload_n1, si_iload_n2, si_iload_n3, si_iload, si_lload_n0, si_lload_n1, si_lload_n2, si_lload_n3, si_lload, si_aload_n0, si_aload_n1, si_aload_n2, si_aload_n3, si_aload, si_istore_n0, si_istore_n1, si_istore_n2, si_istore_n3, si_istore, si_astore_n0, si_astore_n1, si_astore_n2, si_astore_n3, si_astore, si_lstore_n0, si_lstore_n1, si_lstore_n2, si_lstore_n3, si_lstore, si_iconst, si_bipush, si_sipush, si_ldc, si_ldc2_w, si_lconst0, si_lconst1, si_aconst_null, si_iinc, si_dup, si_dup2, si_iadd, si_isub, si_imul, si_idiv, si_irem, si_iand, si_ior, si_ishl, si_ishr, si_ladd, si_lmul, si_lor, si_lxor, si_lshl, si_lushr, si_lcmp, si_i2b, si_i2l, si_l2i, si_icmp_eq, si_icmp_ne, si_icmp_lt, si_icmp_ge, si_icmp_gt, si_icmp_le, si_if_eq, si_if_ne, si_if_lt, si_if_ge, si_if_gt, si_if_le, si_ifnull, si_ifnonnull, si_goto, si_tableswitch, si_lookupswitch, si_getfield, si_putfield, si_getstatic, si_iaload, si_baload, si_laload, si_aaload, si_iastore, si_bastore, si_lastore, si_aastore, si_arraylength, si_new, si_newarray, si_anewarray, si_invokevirtual, si_invokespecial, si_invokestatic, si_ireturn, si_lreturn, si_areturn, si_return_, pI_e, pL_e, pR_e, pA_r, pA_n, pN_n, pN_r, oI_e, oL_e, oA_r, oA_n, lget_e, lrm1_0, lrm2_0, lrm1_i, lrm1_r, lrm1_n, lrm1_l, lrm2_i, lrm2_r, lrm2_n, lrm2_l, popN_0, popN_s, acat_i, acat_l, acat_r, acat_n, stw_0, stw_s, psh_s, psh_n, wgf_r, wgf_i, wgf_b, wgf_n, wgf_m, wpf_i, wpf_r, wpf_b, wnew_e, callE_e, rbk_0, rbk_1, tsw_0, tsw_s, lsw_0, lsw_s, wp_s, wq_t, wq_f, oV_e, pick_0, pick_s, oZ_e, oY_e, r_PR_alive_0, r_PR_alive_1, r_PR_alive_2, r_PR_alive_5, r_PR_alive_6, r_PR_alive_7, r_PR_alive_10, r_PR_alive_11, r_PR_alive_12, r_PR_alive_13, r_PR_alive_16, r_PR_alive_17, r_PR_alive_20, r_PR_alive_22, r_PR_alive_24, r_PR_alive_25, r_PR_alive_28, r_PR_alive_29, r_PR_alive_30, r_PR_alive_31, r_PR_alive_34, r_PR_alive_36, r_PR_alive_39, r_PR_alive_42, r_PR_alive_43, r_PR_alive_46, r_PR_alive_47, xf_PR_alive_71, xf_PR_alive_104, xe_PR_alive_432, xe_PR_alive_180, xe_PR_alive_320, xd_PR_alive, xrb_PR_alive, xin_PR_alive, T_Life_lives_e, TF_Life_lives, T_PR_pictureAt_e, TF_PR_pictureAt, T_Things_find_e, TF_Things_find, r0, ph, pp0, pp1, pp2, pp3, pp4, pp5, pp6, pp7, pq0, pq1, pq2, pq3, pq4, pq5, pq6, pq7, Nat.reduceAdd, Nat.reduceMul, Nat.reduceEqDiff, reduceIte, Int.reduceNeg, Int.reduceLE, Int.reduceLT, Int.reduceAdd, Int.reduceSub, Int.reduceToNat, true_and, and_true, inR_e, Nat.reduceLT, Nat.reduceLeDiff, reduceCtorEq, Nat.add_zero, Nat.zero_add, or_false, false_or, or_true, true_or, not_true_eq_false, not_false_eq_true, Classical.not_not, Nat.add_eq_zero_iff, and_false, false_and, Int.reduceEq, List.mem_cons, List.not_mem_nil, forall_eq_or_imp, forall_eq, false_implies, implies_true, forall_const, aargs_0, aargs_i, aargs_r, aargs_l, aargs_n, nfT_e, eq_self, and_self, Nat.le_refl, fu_s, fu_fu, iu_iu, iu_s, fu_am, fu_a0, fu_0a, iu_l, Nat.reduceBEq, Int.reduceBEq, T_objInit_e]; clear pp0 pp1 pp2 pp3 pp4 pp5 pp6 pp7)
    have hnn := w9.1
    rw [n12]
    have f1 : ∀ i, (0 ≤ i ∧ i < st 0 7) ∧ σ (P + 8 + 1) i = x → fn U st x = i := fun i hi => v3.fn1 w9.1 (by rw [n12]; exact hi)
    have f0 : (∀ i, 0 ≤ i ∧ i < st 0 7 → ¬ σ (P + 8 + 1) i = x) → fn U st x = -1 := fun hi => v3.fn0 w9.1 (by rw [n12]; exact hi)
    obtain ⟨q1, q2, q3, q4, q5⟩ := hV.life w9
    refine ⟨hR, hTh, w9, v3.2.1, fun i hi => ?_, fun hi => h1.1 (f0 hi)⟩
    have e := f1 i hi
    rw [e] at h1
    refine ⟨fun _ => ⟨hLf, fun z => h1.2.1 hi.1.1 ((q1 i hi.1).mp z.2.2), fun z => h1.2.2 hi.1.1 (fun w => z ⟨hi.1.1, by omega, (q1 i hi.1).mpr w⟩)⟩, fun z => by omega⟩
  · have hpE : (0 ≤ p ∧ p < 3) = False := eq_false hp
    (unfold wps; simp only [hpE, si_iload_n0, si_iload_n1, si_iload_n2, si_iload_n3, si_iload, si_lload_n0, si_lload_n1, si_lload_n2, si_lload_n3, si_lload, si_aload_n0, si_aload_n1, si_aload_n2, si_aload_n3, si_aload, si_istore_n0, si_istore_n1, si_istore_n2, si_istore_n3, si_istore, si_astore_n0, si_astore_n1, si_astore_n2, si_astore_n3, si_astore, si_lstore_n0, si_lstore_n1, si_lstore_n2, si_lstore_n3, si_lstore, si_iconst, si_bipush, si_sipush, si_ldc, si_ldc2_w, si_lconst0, si_lconst1, si_aconst_null, si_iinc, si_dup, si_dup2, si_iadd, si_isub, si_imul, si_idiv, si_irem, si_iand, si_ior, si_ishl, si_ishr, si_ladd, si_lmul, si_lor, si_lxor, si_lshl, si_lushr, si_lcmp, si_i2b, si_i2l, si_l2i, si_icmp_eq, si_icmp_ne, si_icmp_lt, si_icmp_ge, si_icmp_gt, si_icmp_le, si_if_eq, si_if_ne, si_if_lt, si_if_ge, si_if_gt, si_if_le, si_ifnull, si_ifnonnull, si_goto, si_tableswitch, si_lookupswitch, si_getfield, si_putfield, si_getstatic, si_iaload, si_baload, si_laload, si_aaload, si_iastore, si_bastore, si_lastore, si_aastore, si_arraylength, si_new, si_newarray, si_anewarray, si_invokevirtual, si_invokespecial, si_invokestatic, si_ireturn, si_lreturn, si_areturn, si_return_, pI_e, pL_e, pR_e, pA_r, pA_n, pN_n, pN_r, oI_e, oL_e, oA_r, oA_n, lget_e, lrm1_0, lrm2_0, lrm1_i, lrm1_r, lrm1_n, lrm1_l, lrm2_i, lrm2_r, lrm2_n, lrm2_l, popN_0, popN_s, acat_i, acat_l, acat_r, acat_n, stw_0, stw_s, psh_s, psh_n, wgf_r, wgf_i, wgf_b, wgf_n, wgf_m, wpf_i, wpf_r, wpf_b, wnew_e, callE_e, rbk_0, rbk_1, tsw_0, tsw_s, lsw_0, lsw_s, wp_s, wq_t, wq_f, oV_e, pick_0, pick_s, oZ_e, oY_e, r_PR_alive_0, r_PR_alive_1, r_PR_alive_2, r_PR_alive_5, r_PR_alive_6, r_PR_alive_7, r_PR_alive_10, r_PR_alive_11, r_PR_alive_12, r_PR_alive_13, r_PR_alive_16, r_PR_alive_17, r_PR_alive_20, r_PR_alive_22, r_PR_alive_24, r_PR_alive_25, r_PR_alive_28, r_PR_alive_29, r_PR_alive_30, r_PR_alive_31, r_PR_alive_34, r_PR_alive_36, r_PR_alive_39, r_PR_alive_42, r_PR_alive_43, r_PR_alive_46, r_PR_alive_47, xf_PR_alive_71, xf_PR_alive_104, xe_PR_alive_432, xe_PR_alive_180, xe_PR_alive_320, xd_PR_alive, xrb_PR_alive, xin_PR_alive, T_Life_lives_e, TF_Life_lives, T_PR_pictureAt_e, TF_PR_pictureAt, T_Things_find_e, TF_Things_find, r0, Nat.reduceAdd, Nat.reduceMul, Nat.reduceEqDiff, reduceIte, Int.reduceNeg, Int.reduceLE, Int.reduceLT, Int.reduceAdd, Int.reduceSub, Int.reduceToNat, true_and, and_true, inR_e, Nat.reduceLT, Nat.reduceLeDiff, reduceCtorEq, Nat.add_zero, Nat.zero_add, or_false, false_or, or_true, true_or, not_true_eq_false, not_false_eq_true, Classical.not_not, Nat.add_eq_zero_iff, and_false, false_and, Int.reduceEq, List.mem_cons, List.not_mem_nil, forall_eq_or_imp, forall_eq, false_implies, implies_true, forall_const, aargs_0, aargs_i, aargs_r, aargs_l, aargs_n, nfT_e, eq_self, and_self, Nat.le_refl, fu_s, fu_fu, iu_iu, iu_s, fu_am, fu_a0, fu_0a, iu_l, Nat.reduceBEq, Int.reduceBEq, T_objInit_e])
    exact ⟨hR, h0 hp⟩
theorem co_X10_468 : CallOK RX10 (.invokevirtual 117) (2, 2, 0, 0, T_Life_keptOf) := call_V S_Life_keptOf (by decide) (ci := 2) rfl (by decide +kernel) (by decide +kernel) (by decide +kernel) (by decide +kernel) (by decide +kernel) (by decide +kernel) T_Life_keptOf_r
def TF_PR_kept (o : Nat) (p : Int) (x : Int) (sz sl : Nat) (lay : Nat → Nat × Int) (ρ : Nat → Int → Nat) (σ : Nat → Int → Int) (τ : Nat → Int → Int64) (k : Option AV → Mm → Prop) : Prop := ∃ (U : Int → Int) (len : Int) (st : Nat → Int → Int), RdP lay ρ σ τ o p U len st ∧ (0 ≤ p ∧ p < 3 → (0 ≤ fn U st x → lvP U st (fn U st x) → k (some (vI (ktP U st (fn U st x)))) (sz, sl, lay, ρ, σ, τ)) ∧ (¬ (0 ≤ fn U st x ∧ lvP U st (fn U st x)) → k (some (vI (-1))) (sz, sl, lay, ρ, σ, τ))) ∧ (¬ (0 ≤ p ∧ p < 3) → k (some (vI (-1))) (sz, sl, lay, ρ, σ, τ))
def T_PR_kept : Tr := mkT 10 fun o as M k => pI as fun p as => pI as fun x as => as = [] ∧ TF_PR_kept o p x M.1 M.2.1 M.2.2.1 M.2.2.2.1 M.2.2.2.2.1 M.2.2.2.2.2 k
theorem T_PR_kept_e {o : Nat} {p : Int} {x : Int} {sz sl : Nat} {lay : Nat → Nat × Int} {ρ : Nat → Int → Nat} {σ : Nat → Int → Int} {τ : Nat → Int → Int64} {k : Option AV → Mm → Prop} : T_PR_kept [vR o, vI p, vI x] (sz, sl, lay, ρ, σ, τ) k = (lay o = (20, 0) ∧ TF_PR_kept o p x sz sl lay ρ σ τ k) := by simp [T_PR_kept, mkT_e, pI_e, pR_e, pL_e]
theorem T_PR_kept_r (as : List AV) (M : Mm) (k : Option AV → Mm → Prop) (h : T_PR_kept as M k) : ∃ b As, as = vR b :: As ∧ M.2.2.1 b = (10 + 10, 0) := by
  obtain ⟨b, As, h1, h2, -⟩ := mkT_r h
  exact ⟨b, As, h1, h2⟩
def tb_PR_kept : List (Nat × Option (List Nat) × Instr × List Nat) := [(0, none, .aload_n 0, []), (1, none, .iload_n 1, []), (2, none, .invokevirtual 45, []), (5, none, .astore_n 3, []), (6, none, .aload_n 3, []), (7, none, .ifnonnull 7, [14]), (10, none, .iconst (-1), []), (11, none, .goto 18, [29]), (14, none, .aload_n 3, []), (15, none, .getfield 104, []), (18, none, .aload_n 3, []), (19, none, .getfield 71, []), (22, none, .iload_n 2, []), (23, none, .invokevirtual 80, []), (26, none, .invokevirtual 117, []), (29, none, .ireturn, [])]
def P_PR_kept : Nat → Option (List Nat) × Instr × List Nat := plk tb_PR_kept
theorem r_PR_kept_0 : P_PR_kept 0 = (none, .aload_n 0, []) := by decide +kernel
theorem r_PR_kept_1 : P_PR_kept 1 = (none, .iload_n 1, []) := by decide +kernel
theorem r_PR_kept_2 : P_PR_kept 2 = (none, .invokevirtual 45, []) := by decide +kernel
theorem r_PR_kept_5 : P_PR_kept 5 = (none, .astore_n 3, []) := by decide +kernel
theorem r_PR_kept_6 : P_PR_kept 6 = (none, .aload_n 3, []) := by decide +kernel
theorem r_PR_kept_7 : P_PR_kept 7 = (none, .ifnonnull 7, [14]) := by decide +kernel
theorem r_PR_kept_10 : P_PR_kept 10 = (none, .iconst (-1), []) := by decide +kernel
theorem r_PR_kept_11 : P_PR_kept 11 = (none, .goto 18, [29]) := by decide +kernel
theorem r_PR_kept_14 : P_PR_kept 14 = (none, .aload_n 3, []) := by decide +kernel
theorem r_PR_kept_15 : P_PR_kept 15 = (none, .getfield 104, []) := by decide +kernel
theorem r_PR_kept_18 : P_PR_kept 18 = (none, .aload_n 3, []) := by decide +kernel
theorem r_PR_kept_19 : P_PR_kept 19 = (none, .getfield 71, []) := by decide +kernel
theorem r_PR_kept_22 : P_PR_kept 22 = (none, .iload_n 2, []) := by decide +kernel
theorem r_PR_kept_23 : P_PR_kept 23 = (none, .invokevirtual 80, []) := by decide +kernel
theorem r_PR_kept_26 : P_PR_kept 26 = (none, .invokevirtual 117, []) := by decide +kernel
theorem r_PR_kept_29 : P_PR_kept 29 = (none, .ireturn, []) := by decide +kernel
def E_PR_kept : List (Nat × Ent) := [(468, (2, 2, 0, 0, T_Life_keptOf)), (180, (2, 0, 0, 0, T_PR_pictureAt)), (320, (2, 2, 0, 0, T_Things_find))]
def X_PR_kept : Cx := (llk (0, 0, 9) ftX10, llk 99 ntX10, llk none kcX10, llk none klX10, llk dEnt E_PR_kept, 3, 0, false)
theorem xok_PR_kept : Xok RX10 X_PR_kept := xok_of ftX10_ok ntX10_ok kcX10_ok klX10_ok (E := E_PR_kept) (List.forall_mem_cons.mpr ⟨co_X10_468, List.forall_mem_cons.mpr ⟨co_X10_180, List.forall_mem_cons.mpr ⟨co_X10_320, fun _ h => absurd h List.not_mem_nil⟩⟩⟩)
theorem xf_PR_kept_71 : xfl X_PR_kept 71 = (3, 1, 3) := by decide +kernel
theorem xf_PR_kept_104 : xfl X_PR_kept 104 = (3, 6, 3) := by decide +kernel
theorem xe_PR_kept_468 : xE X_PR_kept (4 * 117 + 0) = (2, 2, 0, 0, T_Life_keptOf) := rfl
theorem xe_PR_kept_180 : xE X_PR_kept (4 * 45 + 0) = (2, 0, 0, 0, T_PR_pictureAt) := rfl
theorem xe_PR_kept_320 : xE X_PR_kept (4 * 80 + 0) = (2, 2, 0, 0, T_Things_find) := rfl
theorem xd_PR_kept : xd X_PR_kept = 3 := rfl
theorem xrb_PR_kept : xrb X_PR_kept = 0 := rfl
theorem xin_PR_kept : xin X_PR_kept = false := rfl
set_option maxHeartbeats 4000000 in
set_option maxRecDepth 100000 in
theorem S_PR_kept : Snd yX10_kept cX10_kept 4 (some .int) T_PR_kept 3 0 0 := by
  refine snd_of (X := X_PR_kept) (P := P_PR_kept) (tb := tb_PR_kept) (own := RX10) (by decide) rfl rfl (by decide +kernel) xok_PR_kept rfl rk0 (fun h => by first | rfl | cases h) ?_
  intro as M k has hM hT0
  obtain ⟨sz, sl, lay, ρ, σ, τ⟩ := M
  obtain ⟨o, as1, e, hlo, hT1⟩ := mkT_r hT0
  clear hT0
  subst e
  obtain ⟨p, as2, e, hT2⟩ := pI_x hT1
  clear hT1
  subst e
  obtain ⟨x, as3, e, hT3⟩ := pI_x hT2
  clear hT2
  subst e
  obtain ⟨e, hT⟩ := hT3
  subst e
  replace hlo : lay o = (20, 0) := hlo
  have r_p : -2147483648 ≤ p ∧ p ≤ 2147483647 := has (vI p) (by simp)
  have r_x : -2147483648 ≤ x ∧ x ≤ 2147483647 := has (vI x) (by simp)
  clear has
  replace hM : ∀ a i, -2147483648 ≤ σ a i ∧ σ a i ≤ 2147483647 := hM
  replace hT : TF_PR_kept o p x sz sl lay ρ σ τ k := hT
  unfold TF_PR_kept at hT
  obtain ⟨U, len, st, hRP, h1, h0⟩ := hT
  obtain ⟨hR, hPR⟩ := (show RdP lay ρ σ τ o p U len st from hRP)
  have r0 : lay o = (20, 0) := hR.1
  refine ⟨Nat.le_of_ble_eq_true rfl, fun _ _ _ => False, fun _ _ _ => 0, 24, ?_, fun _ _ _ _ _ _ h => h.elim⟩
  by_cases hp : 0 ≤ p ∧ p < 3
  · have hpE : (0 ≤ p ∧ p < 3) = True := eq_true hp
    replace h1 := h1 hp
    obtain ⟨P, eP, -, hPc, hP0⟩ := hR.pic hp
    have hPe : o + 6 + 44 * p.toNat = P := eP.symm
    obtain ⟨hS, hV⟩ := hPR hp
    rw [hPe] at hV
    obtain ⟨hP, hKd, hTh, hRt, hHo, hWy, hSy, hLf, hTw⟩ := (show LPic lay ρ P from hPc)
    obtain ⟨w0, w1, w2, w3, w4, w5, w6, w7, w8, w9, w10, w11, w12, w13, w14⟩ := (show SW U len st from hS)
    obtain ⟨⟨v1, v2, v3, v4, v5⟩, v6, v7, v8, v9⟩ := (show PR σ τ P U len st from hV)
    have n12 := v3.1
    (obtain ⟨ph, pp0, pp1, pp2, pp3, pp4, pp5, pp6, pp7, pq0, pq1, pq2, pq3, pq4, pq5, pq6, pq7⟩ := (show LPicture lay ρ _ from hP); unfold wps; simp only [hpE, hPe, si_iload_n0, si_iload_n1, si_iload_n2, si_iload_n3, si_iload, si_lload_n0, si_lload_n1, si_lload_n2, si_lload_n3, si_lload, si_aload_n0, si_aload_n1, si_aload_n2, si_aload_n3, si_aload, si_istore_n0, si_istore_n1, si_istore_n2, si_istore_n3, si_istore, si_astore_n0, si_astore_n1, si_astore_n2, si_astore_n3, si_astore, si_lstore_n0, si_lstore_n1, si_lstore_n2, si_lstore_n3, si_lstore, si_iconst, si_bipush, si_sipush, si_ldc, si_ldc2_w, si_lconst0, si_lconst1, si_aconst_null, si_iinc, si_dup, si_dup2, si_iadd, si_isub, si_imul, si_idiv, si_irem, si_iand, si_ior, si_ishl, si_ishr, si_ladd, si_lmul, si_lor, si_lxor, si_lshl, si_lushr, si_lcmp, si_i2b, si_i2l, si_l2i, si_icmp_eq, si_icmp_ne, si_icmp_lt, si_icmp_ge, si_icmp_gt, si_icmp_le, si_if_eq, si_if_ne, si_if_lt, si_if_ge, si_if_gt, si_if_le, si_ifnull, si_ifnonnull, si_goto, si_tableswitch, si_lookupswitch, si_getfield, si_putfield, si_getstatic, si_iaload, si_baload, si_laload, si_aaload, si_iastore, si_bastore, si_lastore, si_aastore, si_arraylength, si_new, si_newarray, si_anewarray, si_invokevirtual, si_invokespecial, si_invokestatic, si_ireturn, si_lreturn, si_areturn, si_return_, pI_e, pL_e, pR_e, pA_r, pA_n, pN_n, pN_r, oI_e, oL_e, oA_r, oA_n, lget_e, lrm1_0, lrm2_0, lrm1_i, lrm1_r, lrm1_n, lrm1_l, lrm2_i, lrm2_r, lrm2_n, lrm2_l, popN_0, popN_s, acat_i, acat_l, acat_r, acat_n, stw_0, stw_s, psh_s, psh_n, wgf_r, wgf_i, wgf_b, wgf_n, wgf_m, wpf_i, wpf_r, wpf_b, wnew_e, callE_e, rbk_0, rbk_1, tsw_0, tsw_s, lsw_0, lsw_s, wp_s, wq_t, wq_f, oV_e, pick_0, pick_s, oZ_e, oY_e, r_PR_kept_0, r_PR_kept_1, r_PR_kept_2, r_PR_kept_5, r_PR_kept_6, r_PR_kept_7, r_PR_kept_10, r_PR_kept_11, r_PR_kept_14, r_PR_kept_15, r_PR_kept_18, r_PR_kept_19, r_PR_kept_22, r_PR_kept_23, r_PR_kept_26, r_PR_kept_29, xf_PR_kept_71, xf_PR_kept_104, xe_PR_kept_468, xe_PR_kept_180, xe_PR_kept_320, xd_PR_kept, xrb_PR_kept, xin_PR_kept, T_Life_keptOf_e, TF_Life_keptOf, T_PR_pictureAt_e, TF_PR_pictureAt, T_Things_find_e, TF_Things_find, r0, ph, pp0, pp1, pp2, pp3, pp4, pp5, pp6, pp7, pq0, pq1, pq2, pq3, pq4, pq5, pq6, pq7, Nat.reduceAdd, Nat.reduceMul, Nat.reduceEqDiff, reduceIte, Int.reduceNeg, Int.reduceLE, Int.reduceLT, Int.reduceAdd, Int.reduceSub, Int.reduceToNat, true_and, and_true, inR_e, Nat.reduceLT, Nat.reduceLeDiff, reduceCtorEq, Nat.add_zero, Nat.zero_add, or_false, false_or, or_true, true_or, not_true_eq_false, not_false_eq_true, Classical.not_not, Nat.add_eq_zero_iff, and_false, false_and, Int.reduceEq, List.mem_cons, List.not_mem_nil, forall_eq_or_imp, forall_eq, false_implies, implies_true, forall_const, aargs_0, aargs_i, aargs_r, aargs_l, aargs_n, nfT_e, eq_self, and_self, Nat.le_refl, fu_s, fu_fu, iu_iu, iu_s, fu_am, fu_a0, fu_0a, iu_l, Nat.reduceBEq, Int.reduceBEq, T_objInit_e]; clear pp0 pp1 pp2 pp3 pp4 pp5 pp6 pp7)
    have hnn := w9.1
    rw [n12]
    have f1 : ∀ i, (0 ≤ i ∧ i < st 0 7) ∧ σ (P + 8 + 1) i = x → fn U st x = i := fun i hi => v3.fn1 w9.1 (by rw [n12]; exact hi)
    have f0 : (∀ i, 0 ≤ i ∧ i < st 0 7 → ¬ σ (P + 8 + 1) i = x) → fn U st x = -1 := fun hi => v3.fn0 w9.1 (by rw [n12]; exact hi)
    obtain ⟨q1, q2, q3, q4, q5⟩ := hV.life w9
    refine ⟨hR, hTh, w9, v3.2.1, fun i hi => ?_, fun hi => ⟨hLf, h1.2 (fun z => by rw [f0 hi] at z; omega)⟩⟩
    have e := f1 i hi
    rw [e] at h1
    refine ⟨hLf, fun z => ?_, fun z => h1.2 (fun w => z ⟨hi.1.1, by omega, (q1 i hi.1).mpr w.2⟩)⟩
    have lv := (q1 i hi.1).mp z.2.2
    rw [q3 i hi.1 lv]
    exact h1.1 hi.1.1 lv
  · have hpE : (0 ≤ p ∧ p < 3) = False := eq_false hp
    (unfold wps; simp only [hpE, si_iload_n0, si_iload_n1, si_iload_n2, si_iload_n3, si_iload, si_lload_n0, si_lload_n1, si_lload_n2, si_lload_n3, si_lload, si_aload_n0, si_aload_n1, si_aload_n2, si_aload_n3, si_aload, si_istore_n0, si_istore_n1, si_istore_n2, si_istore_n3, si_istore, si_astore_n0, si_astore_n1, si_astore_n2, si_astore_n3, si_astore, si_lstore_n0, si_lstore_n1, si_lstore_n2, si_lstore_n3, si_lstore, si_iconst, si_bipush, si_sipush, si_ldc, si_ldc2_w, si_lconst0, si_lconst1, si_aconst_null, si_iinc, si_dup, si_dup2, si_iadd, si_isub, si_imul, si_idiv, si_irem, si_iand, si_ior, si_ishl, si_ishr, si_ladd, si_lmul, si_lor, si_lxor, si_lshl, si_lushr, si_lcmp, si_i2b, si_i2l, si_l2i, si_icmp_eq, si_icmp_ne, si_icmp_lt, si_icmp_ge, si_icmp_gt, si_icmp_le, si_if_eq, si_if_ne, si_if_lt, si_if_ge, si_if_gt, si_if_le, si_ifnull, si_ifnonnull, si_goto, si_tableswitch, si_lookupswitch, si_getfield, si_putfield, si_getstatic, si_iaload, si_baload, si_laload, si_aaload, si_iastore, si_bastore, si_lastore, si_aastore, si_arraylength, si_new, si_newarray, si_anewarray, si_invokevirtual, si_invokespecial, si_invokestatic, si_ireturn, si_lreturn, si_areturn, si_return_, pI_e, pL_e, pR_e, pA_r, pA_n, pN_n, pN_r, oI_e, oL_e, oA_r, oA_n, lget_e, lrm1_0, lrm2_0, lrm1_i, lrm1_r, lrm1_n, lrm1_l, lrm2_i, lrm2_r, lrm2_n, lrm2_l, popN_0, popN_s, acat_i, acat_l, acat_r, acat_n, stw_0, stw_s, psh_s, psh_n, wgf_r, wgf_i, wgf_b, wgf_n, wgf_m, wpf_i, wpf_r, wpf_b, wnew_e, callE_e, rbk_0, rbk_1, tsw_0, tsw_s, lsw_0, lsw_s, wp_s, wq_t, wq_f, oV_e, pick_0, pick_s, oZ_e, oY_e, r_PR_kept_0, r_PR_kept_1, r_PR_kept_2, r_PR_kept_5, r_PR_kept_6, r_PR_kept_7, r_PR_kept_10, r_PR_kept_11, r_PR_kept_14, r_PR_kept_15, r_PR_kept_18, r_PR_kept_19, r_PR_kept_22, r_PR_kept_23, r_PR_kept_26, r_PR_kept_29, xf_PR_kept_71, xf_PR_kept_104, xe_PR_kept_468, xe_PR_kept_180, xe_PR_kept_320, xd_PR_kept, xrb_PR_kept, xin_PR_kept, T_Life_keptOf_e, TF_Life_keptOf, T_PR_pictureAt_e, TF_PR_pictureAt, T_Things_find_e, TF_Things_find, r0, Nat.reduceAdd, Nat.reduceMul, Nat.reduceEqDiff, reduceIte, Int.reduceNeg, Int.reduceLE, Int.reduceLT, Int.reduceAdd, Int.reduceSub, Int.reduceToNat, true_and, and_true, inR_e, Nat.reduceLT, Nat.reduceLeDiff, reduceCtorEq, Nat.add_zero, Nat.zero_add, or_false, false_or, or_true, true_or, not_true_eq_false, not_false_eq_true, Classical.not_not, Nat.add_eq_zero_iff, and_false, false_and, Int.reduceEq, List.mem_cons, List.not_mem_nil, forall_eq_or_imp, forall_eq, false_implies, implies_true, forall_const, aargs_0, aargs_i, aargs_r, aargs_l, aargs_n, nfT_e, eq_self, and_self, Nat.le_refl, fu_s, fu_fu, iu_iu, iu_s, fu_am, fu_a0, fu_0a, iu_l, Nat.reduceBEq, Int.reduceBEq, T_objInit_e])
    exact ⟨hR, h0 hp⟩
theorem co_X10_480 : CallOK RX10 (.invokevirtual 120) (2, 2, 0, 0, T_Life_heightOf) := call_V S_Life_heightOf (by decide) (ci := 2) rfl (by decide +kernel) (by decide +kernel) (by decide +kernel) (by decide +kernel) (by decide +kernel) (by decide +kernel) T_Life_heightOf_r
def TF_PR_height (o : Nat) (p : Int) (x : Int) (sz sl : Nat) (lay : Nat → Nat × Int) (ρ : Nat → Int → Nat) (σ : Nat → Int → Int) (τ : Nat → Int → Int64) (k : Option AV → Mm → Prop) : Prop := ∃ (U : Int → Int) (len : Int) (st : Nat → Int → Int), RdP lay ρ σ τ o p U len st ∧ (0 ≤ p ∧ p < 3 → (0 ≤ fn U st x → lvP U st (fn U st x) → k (some (vI (hgP U st (fn U st x)))) (sz, sl, lay, ρ, σ, τ)) ∧ (¬ (0 ≤ fn U st x ∧ lvP U st (fn U st x)) → k (some (vI (-1))) (sz, sl, lay, ρ, σ, τ))) ∧ (¬ (0 ≤ p ∧ p < 3) → k (some (vI (-1))) (sz, sl, lay, ρ, σ, τ))
def T_PR_height : Tr := mkT 10 fun o as M k => pI as fun p as => pI as fun x as => as = [] ∧ TF_PR_height o p x M.1 M.2.1 M.2.2.1 M.2.2.2.1 M.2.2.2.2.1 M.2.2.2.2.2 k
theorem T_PR_height_e {o : Nat} {p : Int} {x : Int} {sz sl : Nat} {lay : Nat → Nat × Int} {ρ : Nat → Int → Nat} {σ : Nat → Int → Int} {τ : Nat → Int → Int64} {k : Option AV → Mm → Prop} : T_PR_height [vR o, vI p, vI x] (sz, sl, lay, ρ, σ, τ) k = (lay o = (20, 0) ∧ TF_PR_height o p x sz sl lay ρ σ τ k) := by simp [T_PR_height, mkT_e, pI_e, pR_e, pL_e]
theorem T_PR_height_r (as : List AV) (M : Mm) (k : Option AV → Mm → Prop) (h : T_PR_height as M k) : ∃ b As, as = vR b :: As ∧ M.2.2.1 b = (10 + 10, 0) := by
  obtain ⟨b, As, h1, h2, -⟩ := mkT_r h
  exact ⟨b, As, h1, h2⟩
def tb_PR_height : List (Nat × Option (List Nat) × Instr × List Nat) := [(0, none, .aload_n 0, []), (1, none, .iload_n 1, []), (2, none, .invokevirtual 45, []), (5, none, .astore_n 3, []), (6, none, .aload_n 3, []), (7, none, .ifnonnull 7, [14]), (10, none, .iconst (-1), []), (11, none, .goto 18, [29]), (14, none, .aload_n 3, []), (15, none, .getfield 104, []), (18, none, .aload_n 3, []), (19, none, .getfield 71, []), (22, none, .iload_n 2, []), (23, none, .invokevirtual 80, []), (26, none, .invokevirtual 120, []), (29, none, .ireturn, [])]
def P_PR_height : Nat → Option (List Nat) × Instr × List Nat := plk tb_PR_height
theorem r_PR_height_0 : P_PR_height 0 = (none, .aload_n 0, []) := by decide +kernel
theorem r_PR_height_1 : P_PR_height 1 = (none, .iload_n 1, []) := by decide +kernel
theorem r_PR_height_2 : P_PR_height 2 = (none, .invokevirtual 45, []) := by decide +kernel
theorem r_PR_height_5 : P_PR_height 5 = (none, .astore_n 3, []) := by decide +kernel
theorem r_PR_height_6 : P_PR_height 6 = (none, .aload_n 3, []) := by decide +kernel
theorem r_PR_height_7 : P_PR_height 7 = (none, .ifnonnull 7, [14]) := by decide +kernel
theorem r_PR_height_10 : P_PR_height 10 = (none, .iconst (-1), []) := by decide +kernel
theorem r_PR_height_11 : P_PR_height 11 = (none, .goto 18, [29]) := by decide +kernel
theorem r_PR_height_14 : P_PR_height 14 = (none, .aload_n 3, []) := by decide +kernel
theorem r_PR_height_15 : P_PR_height 15 = (none, .getfield 104, []) := by decide +kernel
theorem r_PR_height_18 : P_PR_height 18 = (none, .aload_n 3, []) := by decide +kernel
theorem r_PR_height_19 : P_PR_height 19 = (none, .getfield 71, []) := by decide +kernel
theorem r_PR_height_22 : P_PR_height 22 = (none, .iload_n 2, []) := by decide +kernel
theorem r_PR_height_23 : P_PR_height 23 = (none, .invokevirtual 80, []) := by decide +kernel
theorem r_PR_height_26 : P_PR_height 26 = (none, .invokevirtual 120, []) := by decide +kernel
theorem r_PR_height_29 : P_PR_height 29 = (none, .ireturn, []) := by decide +kernel
def E_PR_height : List (Nat × Ent) := [(480, (2, 2, 0, 0, T_Life_heightOf)), (180, (2, 0, 0, 0, T_PR_pictureAt)), (320, (2, 2, 0, 0, T_Things_find))]
def X_PR_height : Cx := (llk (0, 0, 9) ftX10, llk 99 ntX10, llk none kcX10, llk none klX10, llk dEnt E_PR_height, 3, 0, false)
theorem xok_PR_height : Xok RX10 X_PR_height := xok_of ftX10_ok ntX10_ok kcX10_ok klX10_ok (E := E_PR_height) (List.forall_mem_cons.mpr ⟨co_X10_480, List.forall_mem_cons.mpr ⟨co_X10_180, List.forall_mem_cons.mpr ⟨co_X10_320, fun _ h => absurd h List.not_mem_nil⟩⟩⟩)
theorem xf_PR_height_71 : xfl X_PR_height 71 = (3, 1, 3) := by decide +kernel
theorem xf_PR_height_104 : xfl X_PR_height 104 = (3, 6, 3) := by decide +kernel
theorem xe_PR_height_480 : xE X_PR_height (4 * 120 + 0) = (2, 2, 0, 0, T_Life_heightOf) := rfl
theorem xe_PR_height_180 : xE X_PR_height (4 * 45 + 0) = (2, 0, 0, 0, T_PR_pictureAt) := rfl
theorem xe_PR_height_320 : xE X_PR_height (4 * 80 + 0) = (2, 2, 0, 0, T_Things_find) := rfl
theorem xd_PR_height : xd X_PR_height = 3 := rfl
theorem xrb_PR_height : xrb X_PR_height = 0 := rfl
theorem xin_PR_height : xin X_PR_height = false := rfl
set_option maxHeartbeats 4000000 in
set_option maxRecDepth 100000 in
theorem S_PR_height : Snd yX10_height cX10_height 4 (some .int) T_PR_height 3 0 0 := by
  refine snd_of (X := X_PR_height) (P := P_PR_height) (tb := tb_PR_height) (own := RX10) (by decide) rfl rfl (by decide +kernel) xok_PR_height rfl rk0 (fun h => by first | rfl | cases h) ?_
  intro as M k has hM hT0
  obtain ⟨sz, sl, lay, ρ, σ, τ⟩ := M
  obtain ⟨o, as1, e, hlo, hT1⟩ := mkT_r hT0
  clear hT0
  subst e
  obtain ⟨p, as2, e, hT2⟩ := pI_x hT1
  clear hT1
  subst e
  obtain ⟨x, as3, e, hT3⟩ := pI_x hT2
  clear hT2
  subst e
  obtain ⟨e, hT⟩ := hT3
  subst e
  replace hlo : lay o = (20, 0) := hlo
  have r_p : -2147483648 ≤ p ∧ p ≤ 2147483647 := has (vI p) (by simp)
  have r_x : -2147483648 ≤ x ∧ x ≤ 2147483647 := has (vI x) (by simp)
  clear has
  replace hM : ∀ a i, -2147483648 ≤ σ a i ∧ σ a i ≤ 2147483647 := hM
  replace hT : TF_PR_height o p x sz sl lay ρ σ τ k := hT
  unfold TF_PR_height at hT
  obtain ⟨U, len, st, hRP, h1, h0⟩ := hT
  obtain ⟨hR, hPR⟩ := (show RdP lay ρ σ τ o p U len st from hRP)
  have r0 : lay o = (20, 0) := hR.1
  refine ⟨Nat.le_of_ble_eq_true rfl, fun _ _ _ => False, fun _ _ _ => 0, 24, ?_, fun _ _ _ _ _ _ h => h.elim⟩
  by_cases hp : 0 ≤ p ∧ p < 3
  · have hpE : (0 ≤ p ∧ p < 3) = True := eq_true hp
    replace h1 := h1 hp
    obtain ⟨P, eP, -, hPc, hP0⟩ := hR.pic hp
    have hPe : o + 6 + 44 * p.toNat = P := eP.symm
    obtain ⟨hS, hV⟩ := hPR hp
    rw [hPe] at hV
    obtain ⟨hP, hKd, hTh, hRt, hHo, hWy, hSy, hLf, hTw⟩ := (show LPic lay ρ P from hPc)
    obtain ⟨w0, w1, w2, w3, w4, w5, w6, w7, w8, w9, w10, w11, w12, w13, w14⟩ := (show SW U len st from hS)
    obtain ⟨⟨v1, v2, v3, v4, v5⟩, v6, v7, v8, v9⟩ := (show PR σ τ P U len st from hV)
    have n12 := v3.1
    (obtain ⟨ph, pp0, pp1, pp2, pp3, pp4, pp5, pp6, pp7, pq0, pq1, pq2, pq3, pq4, pq5, pq6, pq7⟩ := (show LPicture lay ρ _ from hP); unfold wps; simp only [hpE, hPe, si_iload_n0, si_iload_n1, si_iload_n2, si_iload_n3, si_iload, si_lload_n0, si_lload_n1, si_lload_n2, si_lload_n3, si_lload, si_aload_n0, si_aload_n1, si_aload_n2, si_aload_n3, si_aload, si_istore_n0, si_istore_n1, si_istore_n2, si_istore_n3, si_istore, si_astore_n0, si_astore_n1, si_astore_n2, si_astore_n3, si_astore, si_lstore_n0, si_lstore_n1, si_lstore_n2, si_lstore_n3, si_lstore, si_iconst, si_bipush, si_sipush, si_ldc, si_ldc2_w, si_lconst0, si_lconst1, si_aconst_null, si_iinc, si_dup, si_dup2, si_iadd, si_isub, si_imul, si_idiv, si_irem, si_iand, si_ior, si_ishl, si_ishr, si_ladd, si_lmul, si_lor, si_lxor, si_lshl, si_lushr, si_lcmp, si_i2b, si_i2l, si_l2i, si_icmp_eq, si_icmp_ne, si_icmp_lt, si_icmp_ge, si_icmp_gt, si_icmp_le, si_if_eq, si_if_ne, si_if_lt, si_if_ge, si_if_gt, si_if_le, si_ifnull, si_ifnonnull, si_goto, si_tableswitch, si_lookupswitch, si_getfield, si_putfield, si_getstatic, si_iaload, si_baload, si_laload, si_aaload, si_iastore, si_bastore, si_lastore, si_aastore, si_arraylength, si_new, si_newarray, si_anewarray, si_invokevirtual, si_invokespecial, si_invokestatic, si_ireturn, si_lreturn, si_areturn, si_return_, pI_e, pL_e, pR_e, pA_r, pA_n, pN_n, pN_r, oI_e, oL_e, oA_r, oA_n, lget_e, lrm1_0, lrm2_0, lrm1_i, lrm1_r, lrm1_n, lrm1_l, lrm2_i, lrm2_r, lrm2_n, lrm2_l, popN_0, popN_s, acat_i, acat_l, acat_r, acat_n, stw_0, stw_s, psh_s, psh_n, wgf_r, wgf_i, wgf_b, wgf_n, wgf_m, wpf_i, wpf_r, wpf_b, wnew_e, callE_e, rbk_0, rbk_1, tsw_0, tsw_s, lsw_0, lsw_s, wp_s, wq_t, wq_f, oV_e, pick_0, pick_s, oZ_e, oY_e, r_PR_height_0, r_PR_height_1, r_PR_height_2, r_PR_height_5, r_PR_height_6, r_PR_height_7, r_PR_height_10, r_PR_height_11, r_PR_height_14, r_PR_height_15, r_PR_height_18, r_PR_height_19, r_PR_height_22, r_PR_height_23, r_PR_height_26, r_PR_height_29, xf_PR_height_71, xf_PR_height_104, xe_PR_height_480, xe_PR_height_180, xe_PR_height_320, xd_PR_height, xrb_PR_height, xin_PR_height, T_Life_heightOf_e, TF_Life_heightOf, T_PR_pictureAt_e, TF_PR_pictureAt, T_Things_find_e, TF_Things_find, r0, ph, pp0, pp1, pp2, pp3, pp4, pp5, pp6, pp7, pq0, pq1, pq2, pq3, pq4, pq5, pq6, pq7, Nat.reduceAdd, Nat.reduceMul, Nat.reduceEqDiff, reduceIte, Int.reduceNeg, Int.reduceLE, Int.reduceLT, Int.reduceAdd, Int.reduceSub, Int.reduceToNat, true_and, and_true, inR_e, Nat.reduceLT, Nat.reduceLeDiff, reduceCtorEq, Nat.add_zero, Nat.zero_add, or_false, false_or, or_true, true_or, not_true_eq_false, not_false_eq_true, Classical.not_not, Nat.add_eq_zero_iff, and_false, false_and, Int.reduceEq, List.mem_cons, List.not_mem_nil, forall_eq_or_imp, forall_eq, false_implies, implies_true, forall_const, aargs_0, aargs_i, aargs_r, aargs_l, aargs_n, nfT_e, eq_self, and_self, Nat.le_refl, fu_s, fu_fu, iu_iu, iu_s, fu_am, fu_a0, fu_0a, iu_l, Nat.reduceBEq, Int.reduceBEq, T_objInit_e]; clear pp0 pp1 pp2 pp3 pp4 pp5 pp6 pp7)
    have hnn := w9.1
    rw [n12]
    have f1 : ∀ i, (0 ≤ i ∧ i < st 0 7) ∧ σ (P + 8 + 1) i = x → fn U st x = i := fun i hi => v3.fn1 w9.1 (by rw [n12]; exact hi)
    have f0 : (∀ i, 0 ≤ i ∧ i < st 0 7 → ¬ σ (P + 8 + 1) i = x) → fn U st x = -1 := fun hi => v3.fn0 w9.1 (by rw [n12]; exact hi)
    obtain ⟨q1, q2, q3, q4, q5⟩ := hV.life w9
    refine ⟨hR, hTh, w9, v3.2.1, fun i hi => ?_, fun hi => ⟨hLf, h1.2 (fun z => by rw [f0 hi] at z; omega)⟩⟩
    have e := f1 i hi
    rw [e] at h1
    refine ⟨hLf, fun z => ?_, fun z => h1.2 (fun w => z ⟨hi.1.1, by omega, (q1 i hi.1).mpr w.2⟩)⟩
    have lv := (q1 i hi.1).mp z.2.2
    rw [q2 i hi.1 lv]
    exact h1.1 hi.1.1 lv
  · have hpE : (0 ≤ p ∧ p < 3) = False := eq_false hp
    (unfold wps; simp only [hpE, si_iload_n0, si_iload_n1, si_iload_n2, si_iload_n3, si_iload, si_lload_n0, si_lload_n1, si_lload_n2, si_lload_n3, si_lload, si_aload_n0, si_aload_n1, si_aload_n2, si_aload_n3, si_aload, si_istore_n0, si_istore_n1, si_istore_n2, si_istore_n3, si_istore, si_astore_n0, si_astore_n1, si_astore_n2, si_astore_n3, si_astore, si_lstore_n0, si_lstore_n1, si_lstore_n2, si_lstore_n3, si_lstore, si_iconst, si_bipush, si_sipush, si_ldc, si_ldc2_w, si_lconst0, si_lconst1, si_aconst_null, si_iinc, si_dup, si_dup2, si_iadd, si_isub, si_imul, si_idiv, si_irem, si_iand, si_ior, si_ishl, si_ishr, si_ladd, si_lmul, si_lor, si_lxor, si_lshl, si_lushr, si_lcmp, si_i2b, si_i2l, si_l2i, si_icmp_eq, si_icmp_ne, si_icmp_lt, si_icmp_ge, si_icmp_gt, si_icmp_le, si_if_eq, si_if_ne, si_if_lt, si_if_ge, si_if_gt, si_if_le, si_ifnull, si_ifnonnull, si_goto, si_tableswitch, si_lookupswitch, si_getfield, si_putfield, si_getstatic, si_iaload, si_baload, si_laload, si_aaload, si_iastore, si_bastore, si_lastore, si_aastore, si_arraylength, si_new, si_newarray, si_anewarray, si_invokevirtual, si_invokespecial, si_invokestatic, si_ireturn, si_lreturn, si_areturn, si_return_, pI_e, pL_e, pR_e, pA_r, pA_n, pN_n, pN_r, oI_e, oL_e, oA_r, oA_n, lget_e, lrm1_0, lrm2_0, lrm1_i, lrm1_r, lrm1_n, lrm1_l, lrm2_i, lrm2_r, lrm2_n, lrm2_l, popN_0, popN_s, acat_i, acat_l, acat_r, acat_n, stw_0, stw_s, psh_s, psh_n, wgf_r, wgf_i, wgf_b, wgf_n, wgf_m, wpf_i, wpf_r, wpf_b, wnew_e, callE_e, rbk_0, rbk_1, tsw_0, tsw_s, lsw_0, lsw_s, wp_s, wq_t, wq_f, oV_e, pick_0, pick_s, oZ_e, oY_e, r_PR_height_0, r_PR_height_1, r_PR_height_2, r_PR_height_5, r_PR_height_6, r_PR_height_7, r_PR_height_10, r_PR_height_11, r_PR_height_14, r_PR_height_15, r_PR_height_18, r_PR_height_19, r_PR_height_22, r_PR_height_23, r_PR_height_26, r_PR_height_29, xf_PR_height_71, xf_PR_height_104, xe_PR_height_480, xe_PR_height_180, xe_PR_height_320, xd_PR_height, xrb_PR_height, xin_PR_height, T_Life_heightOf_e, TF_Life_heightOf, T_PR_pictureAt_e, TF_PR_pictureAt, T_Things_find_e, TF_Things_find, r0, Nat.reduceAdd, Nat.reduceMul, Nat.reduceEqDiff, reduceIte, Int.reduceNeg, Int.reduceLE, Int.reduceLT, Int.reduceAdd, Int.reduceSub, Int.reduceToNat, true_and, and_true, inR_e, Nat.reduceLT, Nat.reduceLeDiff, reduceCtorEq, Nat.add_zero, Nat.zero_add, or_false, false_or, or_true, true_or, not_true_eq_false, not_false_eq_true, Classical.not_not, Nat.add_eq_zero_iff, and_false, false_and, Int.reduceEq, List.mem_cons, List.not_mem_nil, forall_eq_or_imp, forall_eq, false_implies, implies_true, forall_const, aargs_0, aargs_i, aargs_r, aargs_l, aargs_n, nfT_e, eq_self, and_self, Nat.le_refl, fu_s, fu_fu, iu_iu, iu_s, fu_am, fu_a0, fu_0a, iu_l, Nat.reduceBEq, Int.reduceBEq, T_objInit_e])
    exact ⟨hR, h0 hp⟩
theorem co_X10_452 : CallOK RX10 (.invokevirtual 113) (3, 2, 0, 0, T_Life_keeperOf) := call_V S_Life_keeperOf (by decide) (ci := 2) rfl (by decide +kernel) (by decide +kernel) (by decide +kernel) (by decide +kernel) (by decide +kernel) (by decide +kernel) T_Life_keeperOf_r
def TF_PR_keeper (o : Nat) (p : Int) (x : Int) (sz sl : Nat) (lay : Nat → Nat × Int) (ρ : Nat → Int → Nat) (σ : Nat → Int → Int) (τ : Nat → Int → Int64) (k : Option AV → Mm → Prop) : Prop := ∃ (U : Int → Int) (len : Int) (st : Nat → Int → Int), RdP lay ρ σ τ o p U len st ∧ (0 ≤ p ∧ p < 3 → (0 ≤ fn U st x → lvP U st (fn U st x) → ∀ b, KpR U st (fn U st x) b → (b = -1 → k (some (vI (0))) (sz, sl, lay, ρ, σ, τ)) ∧ (0 ≤ b → k (some (vI (numA U (st 2) b))) (sz, sl, lay, ρ, σ, τ))) ∧ (¬ (0 ≤ fn U st x ∧ lvP U st (fn U st x)) → k (some (vI (-1))) (sz, sl, lay, ρ, σ, τ))) ∧ (¬ (0 ≤ p ∧ p < 3) → k (some (vI (-1))) (sz, sl, lay, ρ, σ, τ))
def T_PR_keeper : Tr := mkT 10 fun o as M k => pI as fun p as => pI as fun x as => as = [] ∧ TF_PR_keeper o p x M.1 M.2.1 M.2.2.1 M.2.2.2.1 M.2.2.2.2.1 M.2.2.2.2.2 k
theorem T_PR_keeper_e {o : Nat} {p : Int} {x : Int} {sz sl : Nat} {lay : Nat → Nat × Int} {ρ : Nat → Int → Nat} {σ : Nat → Int → Int} {τ : Nat → Int → Int64} {k : Option AV → Mm → Prop} : T_PR_keeper [vR o, vI p, vI x] (sz, sl, lay, ρ, σ, τ) k = (lay o = (20, 0) ∧ TF_PR_keeper o p x sz sl lay ρ σ τ k) := by simp [T_PR_keeper, mkT_e, pI_e, pR_e, pL_e]
theorem T_PR_keeper_r (as : List AV) (M : Mm) (k : Option AV → Mm → Prop) (h : T_PR_keeper as M k) : ∃ b As, as = vR b :: As ∧ M.2.2.1 b = (10 + 10, 0) := by
  obtain ⟨b, As, h1, h2, -⟩ := mkT_r h
  exact ⟨b, As, h1, h2⟩
def tb_PR_keeper : List (Nat × Option (List Nat) × Instr × List Nat) := [(0, none, .aload_n 0, []), (1, none, .iload_n 1, []), (2, none, .invokevirtual 45, []), (5, none, .astore_n 3, []), (6, none, .aload_n 3, []), (7, none, .ifnonnull 7, [14]), (10, none, .iconst (-1), []), (11, none, .goto 22, [33]), (14, none, .aload_n 3, []), (15, none, .getfield 104, []), (18, none, .aload_n 3, []), (19, none, .getfield 71, []), (22, none, .aload_n 3, []), (23, none, .getfield 71, []), (26, none, .iload_n 2, []), (27, none, .invokevirtual 80, []), (30, none, .invokevirtual 113, []), (33, none, .ireturn, [])]
def P_PR_keeper : Nat → Option (List Nat) × Instr × List Nat := plk tb_PR_keeper
theorem r_PR_keeper_0 : P_PR_keeper 0 = (none, .aload_n 0, []) := by decide +kernel
theorem r_PR_keeper_1 : P_PR_keeper 1 = (none, .iload_n 1, []) := by decide +kernel
theorem r_PR_keeper_2 : P_PR_keeper 2 = (none, .invokevirtual 45, []) := by decide +kernel
theorem r_PR_keeper_5 : P_PR_keeper 5 = (none, .astore_n 3, []) := by decide +kernel
theorem r_PR_keeper_6 : P_PR_keeper 6 = (none, .aload_n 3, []) := by decide +kernel
theorem r_PR_keeper_7 : P_PR_keeper 7 = (none, .ifnonnull 7, [14]) := by decide +kernel
theorem r_PR_keeper_10 : P_PR_keeper 10 = (none, .iconst (-1), []) := by decide +kernel
theorem r_PR_keeper_11 : P_PR_keeper 11 = (none, .goto 22, [33]) := by decide +kernel
theorem r_PR_keeper_14 : P_PR_keeper 14 = (none, .aload_n 3, []) := by decide +kernel
theorem r_PR_keeper_15 : P_PR_keeper 15 = (none, .getfield 104, []) := by decide +kernel
theorem r_PR_keeper_18 : P_PR_keeper 18 = (none, .aload_n 3, []) := by decide +kernel
theorem r_PR_keeper_19 : P_PR_keeper 19 = (none, .getfield 71, []) := by decide +kernel
theorem r_PR_keeper_22 : P_PR_keeper 22 = (none, .aload_n 3, []) := by decide +kernel
theorem r_PR_keeper_23 : P_PR_keeper 23 = (none, .getfield 71, []) := by decide +kernel
theorem r_PR_keeper_26 : P_PR_keeper 26 = (none, .iload_n 2, []) := by decide +kernel
theorem r_PR_keeper_27 : P_PR_keeper 27 = (none, .invokevirtual 80, []) := by decide +kernel
theorem r_PR_keeper_30 : P_PR_keeper 30 = (none, .invokevirtual 113, []) := by decide +kernel
theorem r_PR_keeper_33 : P_PR_keeper 33 = (none, .ireturn, []) := by decide +kernel
def E_PR_keeper : List (Nat × Ent) := [(452, (3, 2, 0, 0, T_Life_keeperOf)), (180, (2, 0, 0, 0, T_PR_pictureAt)), (320, (2, 2, 0, 0, T_Things_find))]
def X_PR_keeper : Cx := (llk (0, 0, 9) ftX10, llk 99 ntX10, llk none kcX10, llk none klX10, llk dEnt E_PR_keeper, 3, 0, false)
theorem xok_PR_keeper : Xok RX10 X_PR_keeper := xok_of ftX10_ok ntX10_ok kcX10_ok klX10_ok (E := E_PR_keeper) (List.forall_mem_cons.mpr ⟨co_X10_452, List.forall_mem_cons.mpr ⟨co_X10_180, List.forall_mem_cons.mpr ⟨co_X10_320, fun _ h => absurd h List.not_mem_nil⟩⟩⟩)
theorem xf_PR_keeper_71 : xfl X_PR_keeper 71 = (3, 1, 3) := by decide +kernel
theorem xf_PR_keeper_104 : xfl X_PR_keeper 104 = (3, 6, 3) := by decide +kernel
theorem xe_PR_keeper_452 : xE X_PR_keeper (4 * 113 + 0) = (3, 2, 0, 0, T_Life_keeperOf) := rfl
theorem xe_PR_keeper_180 : xE X_PR_keeper (4 * 45 + 0) = (2, 0, 0, 0, T_PR_pictureAt) := rfl
theorem xe_PR_keeper_320 : xE X_PR_keeper (4 * 80 + 0) = (2, 2, 0, 0, T_Things_find) := rfl
theorem xd_PR_keeper : xd X_PR_keeper = 3 := rfl
theorem xrb_PR_keeper : xrb X_PR_keeper = 0 := rfl
theorem xin_PR_keeper : xin X_PR_keeper = false := rfl
set_option maxHeartbeats 4000000 in
set_option maxRecDepth 100000 in
theorem S_PR_keeper : Snd yX10_keeper cX10_keeper 4 (some .int) T_PR_keeper 3 0 0 := by
  refine snd_of (X := X_PR_keeper) (P := P_PR_keeper) (tb := tb_PR_keeper) (own := RX10) (by decide) rfl rfl (by decide +kernel) xok_PR_keeper rfl rk0 (fun h => by first | rfl | cases h) ?_
  intro as M k has hM hT0
  obtain ⟨sz, sl, lay, ρ, σ, τ⟩ := M
  obtain ⟨o, as1, e, hlo, hT1⟩ := mkT_r hT0
  clear hT0
  subst e
  obtain ⟨p, as2, e, hT2⟩ := pI_x hT1
  clear hT1
  subst e
  obtain ⟨x, as3, e, hT3⟩ := pI_x hT2
  clear hT2
  subst e
  obtain ⟨e, hT⟩ := hT3
  subst e
  replace hlo : lay o = (20, 0) := hlo
  have r_p : -2147483648 ≤ p ∧ p ≤ 2147483647 := has (vI p) (by simp)
  have r_x : -2147483648 ≤ x ∧ x ≤ 2147483647 := has (vI x) (by simp)
  clear has
  replace hM : ∀ a i, -2147483648 ≤ σ a i ∧ σ a i ≤ 2147483647 := hM
  replace hT : TF_PR_keeper o p x sz sl lay ρ σ τ k := hT
  unfold TF_PR_keeper at hT
  obtain ⟨U, len, st, hRP, h1, h0⟩ := hT
  obtain ⟨hR, hPR⟩ := (show RdP lay ρ σ τ o p U len st from hRP)
  have r0 : lay o = (20, 0) := hR.1
  refine ⟨Nat.le_of_ble_eq_true rfl, fun _ _ _ => False, fun _ _ _ => 0, 26, ?_, fun _ _ _ _ _ _ h => h.elim⟩
  by_cases hp : 0 ≤ p ∧ p < 3
  · have hpE : (0 ≤ p ∧ p < 3) = True := eq_true hp
    replace h1 := h1 hp
    obtain ⟨P, eP, -, hPc, hP0⟩ := hR.pic hp
    have hPe : o + 6 + 44 * p.toNat = P := eP.symm
    obtain ⟨hS, hV⟩ := hPR hp
    rw [hPe] at hV
    obtain ⟨hP, hKd, hTh, hRt, hHo, hWy, hSy, hLf, hTw⟩ := (show LPic lay ρ P from hPc)
    obtain ⟨w0, w1, w2, w3, w4, w5, w6, w7, w8, w9, w10, w11, w12, w13, w14⟩ := (show SW U len st from hS)
    obtain ⟨⟨v1, v2, v3, v4, v5⟩, v6, v7, v8, v9⟩ := (show PR σ τ P U len st from hV)
    have n12 := v3.1
    (obtain ⟨ph, pp0, pp1, pp2, pp3, pp4, pp5, pp6, pp7, pq0, pq1, pq2, pq3, pq4, pq5, pq6, pq7⟩ := (show LPicture lay ρ _ from hP); unfold wps; simp only [hpE, hPe, si_iload_n0, si_iload_n1, si_iload_n2, si_iload_n3, si_iload, si_lload_n0, si_lload_n1, si_lload_n2, si_lload_n3, si_lload, si_aload_n0, si_aload_n1, si_aload_n2, si_aload_n3, si_aload, si_istore_n0, si_istore_n1, si_istore_n2, si_istore_n3, si_istore, si_astore_n0, si_astore_n1, si_astore_n2, si_astore_n3, si_astore, si_lstore_n0, si_lstore_n1, si_lstore_n2, si_lstore_n3, si_lstore, si_iconst, si_bipush, si_sipush, si_ldc, si_ldc2_w, si_lconst0, si_lconst1, si_aconst_null, si_iinc, si_dup, si_dup2, si_iadd, si_isub, si_imul, si_idiv, si_irem, si_iand, si_ior, si_ishl, si_ishr, si_ladd, si_lmul, si_lor, si_lxor, si_lshl, si_lushr, si_lcmp, si_i2b, si_i2l, si_l2i, si_icmp_eq, si_icmp_ne, si_icmp_lt, si_icmp_ge, si_icmp_gt, si_icmp_le, si_if_eq, si_if_ne, si_if_lt, si_if_ge, si_if_gt, si_if_le, si_ifnull, si_ifnonnull, si_goto, si_tableswitch, si_lookupswitch, si_getfield, si_putfield, si_getstatic, si_iaload, si_baload, si_laload, si_aaload, si_iastore, si_bastore, si_lastore, si_aastore, si_arraylength, si_new, si_newarray, si_anewarray, si_invokevirtual, si_invokespecial, si_invokestatic, si_ireturn, si_lreturn, si_areturn, si_return_, pI_e, pL_e, pR_e, pA_r, pA_n, pN_n, pN_r, oI_e, oL_e, oA_r, oA_n, lget_e, lrm1_0, lrm2_0, lrm1_i, lrm1_r, lrm1_n, lrm1_l, lrm2_i, lrm2_r, lrm2_n, lrm2_l, popN_0, popN_s, acat_i, acat_l, acat_r, acat_n, stw_0, stw_s, psh_s, psh_n, wgf_r, wgf_i, wgf_b, wgf_n, wgf_m, wpf_i, wpf_r, wpf_b, wnew_e, callE_e, rbk_0, rbk_1, tsw_0, tsw_s, lsw_0, lsw_s, wp_s, wq_t, wq_f, oV_e, pick_0, pick_s, oZ_e, oY_e, r_PR_keeper_0, r_PR_keeper_1, r_PR_keeper_2, r_PR_keeper_5, r_PR_keeper_6, r_PR_keeper_7, r_PR_keeper_10, r_PR_keeper_11, r_PR_keeper_14, r_PR_keeper_15, r_PR_keeper_18, r_PR_keeper_19, r_PR_keeper_22, r_PR_keeper_23, r_PR_keeper_26, r_PR_keeper_27, r_PR_keeper_30, r_PR_keeper_33, xf_PR_keeper_71, xf_PR_keeper_104, xe_PR_keeper_452, xe_PR_keeper_180, xe_PR_keeper_320, xd_PR_keeper, xrb_PR_keeper, xin_PR_keeper, T_Life_keeperOf_e, TF_Life_keeperOf, T_PR_pictureAt_e, TF_PR_pictureAt, T_Things_find_e, TF_Things_find, r0, ph, pp0, pp1, pp2, pp3, pp4, pp5, pp6, pp7, pq0, pq1, pq2, pq3, pq4, pq5, pq6, pq7, Nat.reduceAdd, Nat.reduceMul, Nat.reduceEqDiff, reduceIte, Int.reduceNeg, Int.reduceLE, Int.reduceLT, Int.reduceAdd, Int.reduceSub, Int.reduceToNat, true_and, and_true, inR_e, Nat.reduceLT, Nat.reduceLeDiff, reduceCtorEq, Nat.add_zero, Nat.zero_add, or_false, false_or, or_true, true_or, not_true_eq_false, not_false_eq_true, Classical.not_not, Nat.add_eq_zero_iff, and_false, false_and, Int.reduceEq, List.mem_cons, List.not_mem_nil, forall_eq_or_imp, forall_eq, false_implies, implies_true, forall_const, aargs_0, aargs_i, aargs_r, aargs_l, aargs_n, nfT_e, eq_self, and_self, Nat.le_refl, fu_s, fu_fu, iu_iu, iu_s, fu_am, fu_a0, fu_0a, iu_l, Nat.reduceBEq, Int.reduceBEq, T_objInit_e]; clear pp0 pp1 pp2 pp3 pp4 pp5 pp6 pp7)
    have hnn := w9.1
    rw [n12]
    have f1 : ∀ i, (0 ≤ i ∧ i < st 0 7) ∧ σ (P + 8 + 1) i = x → fn U st x = i := fun i hi => v3.fn1 w9.1 (by rw [n12]; exact hi)
    have f0 : (∀ i, 0 ≤ i ∧ i < st 0 7 → ¬ σ (P + 8 + 1) i = x) → fn U st x = -1 := fun hi => v3.fn0 w9.1 (by rw [n12]; exact hi)
    obtain ⟨q1, q2, q3, q4, q5⟩ := hV.life w9
    refine ⟨hR, hTh, w9, v3.2.1, fun i hi => ?_, fun hi => ⟨hLf, hTh, w9, h1.2 (fun z => by rw [f0 hi] at z; omega)⟩⟩
    have e := f1 i hi
    rw [e] at h1
    refine ⟨hLf, hTh, w9, fun z a => ?_, fun z a => ?_, fun z => ?_, fun z => h1.2 (fun w => z ⟨hi.1.1, by omega, (q1 i hi.1).mpr w.2⟩)⟩
    · have lv := (q1 i hi.1).mp z.2.2
      exact (h1.1 hi.1.1 lv _ (q4 i hi.1 lv)).1 a
    · have lv := (q1 i hi.1).mp z.2.2
      rw [(v3.2.2.2.2.2.1 _ a).1.1]
      exact (h1.1 hi.1.1 lv _ (q4 i hi.1 lv)).2 a.1
    · have lv := (q1 i hi.1).mp z.2.2
      rcases q4 i hi.1 lv with y | y
      · omega
      · omega
  · have hpE : (0 ≤ p ∧ p < 3) = False := eq_false hp
    (unfold wps; simp only [hpE, si_iload_n0, si_iload_n1, si_iload_n2, si_iload_n3, si_iload, si_lload_n0, si_lload_n1, si_lload_n2, si_lload_n3, si_lload, si_aload_n0, si_aload_n1, si_aload_n2, si_aload_n3, si_aload, si_istore_n0, si_istore_n1, si_istore_n2, si_istore_n3, si_istore, si_astore_n0, si_astore_n1, si_astore_n2, si_astore_n3, si_astore, si_lstore_n0, si_lstore_n1, si_lstore_n2, si_lstore_n3, si_lstore, si_iconst, si_bipush, si_sipush, si_ldc, si_ldc2_w, si_lconst0, si_lconst1, si_aconst_null, si_iinc, si_dup, si_dup2, si_iadd, si_isub, si_imul, si_idiv, si_irem, si_iand, si_ior, si_ishl, si_ishr, si_ladd, si_lmul, si_lor, si_lxor, si_lshl, si_lushr, si_lcmp, si_i2b, si_i2l, si_l2i, si_icmp_eq, si_icmp_ne, si_icmp_lt, si_icmp_ge, si_icmp_gt, si_icmp_le, si_if_eq, si_if_ne, si_if_lt, si_if_ge, si_if_gt, si_if_le, si_ifnull, si_ifnonnull, si_goto, si_tableswitch, si_lookupswitch, si_getfield, si_putfield, si_getstatic, si_iaload, si_baload, si_laload, si_aaload, si_iastore, si_bastore, si_lastore, si_aastore, si_arraylength, si_new, si_newarray, si_anewarray, si_invokevirtual, si_invokespecial, si_invokestatic, si_ireturn, si_lreturn, si_areturn, si_return_, pI_e, pL_e, pR_e, pA_r, pA_n, pN_n, pN_r, oI_e, oL_e, oA_r, oA_n, lget_e, lrm1_0, lrm2_0, lrm1_i, lrm1_r, lrm1_n, lrm1_l, lrm2_i, lrm2_r, lrm2_n, lrm2_l, popN_0, popN_s, acat_i, acat_l, acat_r, acat_n, stw_0, stw_s, psh_s, psh_n, wgf_r, wgf_i, wgf_b, wgf_n, wgf_m, wpf_i, wpf_r, wpf_b, wnew_e, callE_e, rbk_0, rbk_1, tsw_0, tsw_s, lsw_0, lsw_s, wp_s, wq_t, wq_f, oV_e, pick_0, pick_s, oZ_e, oY_e, r_PR_keeper_0, r_PR_keeper_1, r_PR_keeper_2, r_PR_keeper_5, r_PR_keeper_6, r_PR_keeper_7, r_PR_keeper_10, r_PR_keeper_11, r_PR_keeper_14, r_PR_keeper_15, r_PR_keeper_18, r_PR_keeper_19, r_PR_keeper_22, r_PR_keeper_23, r_PR_keeper_26, r_PR_keeper_27, r_PR_keeper_30, r_PR_keeper_33, xf_PR_keeper_71, xf_PR_keeper_104, xe_PR_keeper_452, xe_PR_keeper_180, xe_PR_keeper_320, xd_PR_keeper, xrb_PR_keeper, xin_PR_keeper, T_Life_keeperOf_e, TF_Life_keeperOf, T_PR_pictureAt_e, TF_PR_pictureAt, T_Things_find_e, TF_Things_find, r0, Nat.reduceAdd, Nat.reduceMul, Nat.reduceEqDiff, reduceIte, Int.reduceNeg, Int.reduceLE, Int.reduceLT, Int.reduceAdd, Int.reduceSub, Int.reduceToNat, true_and, and_true, inR_e, Nat.reduceLT, Nat.reduceLeDiff, reduceCtorEq, Nat.add_zero, Nat.zero_add, or_false, false_or, or_true, true_or, not_true_eq_false, not_false_eq_true, Classical.not_not, Nat.add_eq_zero_iff, and_false, false_and, Int.reduceEq, List.mem_cons, List.not_mem_nil, forall_eq_or_imp, forall_eq, false_implies, implies_true, forall_const, aargs_0, aargs_i, aargs_r, aargs_l, aargs_n, nfT_e, eq_self, and_self, Nat.le_refl, fu_s, fu_fu, iu_iu, iu_s, fu_am, fu_a0, fu_0a, iu_l, Nat.reduceBEq, Int.reduceBEq, T_objInit_e])
    exact ⟨hR, h0 hp⟩

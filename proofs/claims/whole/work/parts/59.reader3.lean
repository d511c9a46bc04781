noncomputable def ptP (U : Int → Int) (st : Nat → Int → Int) (i : Int) : Int := sumZ (fun j => cntZ (fun k => decide (tgt U st j k = i)) (nV U (st 1) (st 2 j)).toNat) (st 0 7).toNat
theorem PR.ptr {σ : Nat → Int → Int} {τ : Nat → Int → Int64} {t : Nat} {U : Int → Int} {st : Nat → Int → Int} (h : PTs σ τ t U st) (hn : 0 ≤ st 0 7) (hnv : ∀ i, 0 ≤ i ∧ i < st 0 7 → 0 ≤ nV U (st 1) (st 2 i)) {i : Int} (hi : 0 ≤ i ∧ i < st 0 7) : σ (t + 6) i = ptP U st i := by
  rw [h.2.2.2.2.2.2.2.1 i hi]
  have := PT.cat h hnv (fun j => decide (tgF σ t j = i)) (fun j k => decide (tgt U st j k = i)) (fun j hj k hk hs => by rw [(h.rf hj hk hs).2]) (fun j hj k hk hs => by
    unfold tgt
    rw [if_neg (fun z => hs z.1)]
    simp; omega) (st 0 7).toNat (by omega)
  rw [show (((st 0 7).toNat : Nat) : Int) = st 0 7 by omega] at this
  exact this
noncomputable def unP (U : Int → Int) (st : Nat → Int → Int) : Int := sumZ (fun j => cntZ (fun k => decide (sA U (st 1) (st 2 j) k = 5 ∧ ¬ vZ U (st 1) (st 2 j) k = 0 ∧ tgt U st j k = -1)) (nV U (st 1) (st 2 j)).toNat) (st 0 7).toNat
theorem PR.unk {σ : Nat → Int → Int} {τ : Nat → Int → Int64} {t : Nat} {U : Int → Int} {st : Nat → Int → Int} (h : PTs σ τ t U st) (hn : 0 ≤ st 0 7) (hnv : ∀ i, 0 ≤ i ∧ i < st 0 7 → 0 ≤ nV U (st 1) (st 2 i)) : σ t 14 = unP U st := by
  rw [h.2.2.2.2.2.2.2.2]
  have := PT.cat h hnv (fun j => decide (¬ σ (t + 11) j = 0 ∧ tgF σ t j = -1)) (fun j k => decide (sA U (st 1) (st 2 j) k = 5 ∧ ¬ vZ U (st 1) (st 2 j) k = 0 ∧ tgt U st j k = -1)) (fun j hj k hk hs => by rw [(h.rf hj hk hs).1, (h.rf hj hk hs).2]; simp [hs]) (fun j hj k hk hs => by simp [hs]) (st 0 7).toNat (by omega)
  rw [show (((st 0 7).toNat : Nat) : Int) = st 0 7 by omega] at this
  exact this
theorem co_X10_332 : CallOK RX10 (.invokevirtual 83) (3, 2, 0, 0, T_Things_tell) := call_V S_Things_tell (by decide) (ci := 7) rfl (by decide +kernel) (by decide +kernel) (by decide +kernel) (by decide +kernel) (by decide +kernel) (by decide +kernel) T_Things_tell_r
def TF_PR_told (o : Nat) (p : Int) (x : Int) (w : Int) (sz sl : Nat) (lay : Nat → Nat × Int) (ρ : Nat → Int → Nat) (σ : Nat → Int → Int) (τ : Nat → Int → Int64) (k : Option AV → Mm → Prop) : Prop := ∃ (U : Int → Int) (len : Int) (st : Nat → Int → Int), RdP lay ρ σ τ o p U len st ∧ (0 ≤ p ∧ p < 3 → (0 ≤ fn U st x ∧ w = 0 → k (some (vI (srt U (st 2 (fn U st x))))) (sz, sl, lay, ρ, σ, τ)) ∧ (0 ≤ fn U st x ∧ w = 1 → k (some (vI (kdv U (st 2 (fn U st x))))) (sz, sl, lay, ρ, σ, τ)) ∧ (0 ≤ fn U st x ∧ w = 2 → k (some (vI (nV U (st 1) (st 2 (fn U st x))))) (sz, sl, lay, ρ, σ, τ)) ∧ (0 ≤ fn U st x ∧ w = 3 → k (some (vI (szP U st (fn U st x)))) (sz, sl, lay, ρ, σ, τ)) ∧ (0 ≤ fn U st x ∧ w = 4 → k (some (vI (st 2 (fn U st x)))) (sz, sl, lay, ρ, σ, τ)) ∧ (0 ≤ fn U st x ∧ w = 5 → k (some (vI (r5 U (st 1) (st 2 (fn U st x)) (nV U (st 1) (st 2 (fn U st x))).toNat))) (sz, sl, lay, ρ, σ, τ)) ∧ (0 ≤ fn U st x ∧ w = 6 → k (some (vI (ptP U st (fn U st x)))) (sz, sl, lay, ρ, σ, τ)) ∧ (¬ (0 ≤ fn U st x ∧ 0 ≤ w ∧ w ≤ 6) → k (some (vI (-1))) (sz, sl, lay, ρ, σ, τ))) ∧ (¬ (0 ≤ p ∧ p < 3) → k (some (vI (-1))) (sz, sl, lay, ρ, σ, τ))
def T_PR_told : Tr := mkT 10 fun o as M k => pI as fun p as => pI as fun x as => pI as fun w as => as = [] ∧ TF_PR_told o p x w M.1 M.2.1 M.2.2.1 M.2.2.2.1 M.2.2.2.2.1 M.2.2.2.2.2 k
theorem T_PR_told_e {o : Nat} {p : Int} {x : Int} {w : Int} {sz sl : Nat} {lay : Nat → Nat × Int} {ρ : Nat → Int → Nat} {σ : Nat → Int → Int} {τ : Nat → Int → Int64} {k : Option AV → Mm → Prop} : T_PR_told [vR o, vI p, vI x, vI w] (sz, sl, lay, ρ, σ, τ) k = (lay o = (20, 0) ∧ TF_PR_told o p x w sz sl lay ρ σ τ k) := by simp [T_PR_told, mkT_e, pI_e, pR_e, pL_e]
theorem T_PR_told_r (as : List AV) (M : Mm) (k : Option AV → Mm → Prop) (h : T_PR_told as M k) : ∃ b As, as = vR b :: As ∧ M.2.2.1 b = (10 + 10, 0) := by
  obtain ⟨b, As, h1, h2, -⟩ := mkT_r h
  exact ⟨b, As, h1, h2⟩
def tb_PR_told : List (Nat × Option (List Nat) × Instr × List Nat) := [(0, none, .aload_n 0, []), (1, none, .iload_n 1, []), (2, none, .invokevirtual 45, []), (5, none, .astore 4, []), (7, none, .aload 4, []), (9, none, .ifnonnull 7, [16]), (12, none, .iconst (-1), []), (13, none, .goto 21, [34]), (16, none, .aload 4, []), (18, none, .getfield 71, []), (21, none, .aload 4, []), (23, none, .getfield 71, []), (26, none, .iload_n 2, []), (27, none, .invokevirtual 80, []), (30, none, .iload_n 3, []), (31, none, .invokevirtual 83, []), (34, none, .ireturn, [])]
def P_PR_told : Nat → Option (List Nat) × Instr × List Nat := plk tb_PR_told
theorem r_PR_told_0 : P_PR_told 0 = (none, .aload_n 0, []) := by decide +kernel
theorem r_PR_told_1 : P_PR_told 1 = (none, .iload_n 1, []) := by decide +kernel
theorem r_PR_told_2 : P_PR_told 2 = (none, .invokevirtual 45, []) := by decide +kernel
theorem r_PR_told_5 : P_PR_told 5 = (none, .astore 4, []) := by decide +kernel
theorem r_PR_told_7 : P_PR_told 7 = (none, .aload 4, []) := by decide +kernel
theorem r_PR_told_9 : P_PR_told 9 = (none, .ifnonnull 7, [16]) := by decide +kernel
theorem r_PR_told_12 : P_PR_told 12 = (none, .iconst (-1), []) := by decide +kernel
theorem r_PR_told_13 : P_PR_told 13 = (none, .goto 21, [34]) := by decide +kernel
theorem r_PR_told_16 : P_PR_told 16 = (none, .aload 4, []) := by decide +kernel
theorem r_PR_told_18 : P_PR_told 18 = (none, .getfield 71, []) := by decide +kernel
theorem r_PR_told_21 : P_PR_told 21 = (none, .aload 4, []) := by decide +kernel
theorem r_PR_told_23 : P_PR_told 23 = (none, .getfield 71, []) := by decide +kernel
theorem r_PR_told_26 : P_PR_told 26 = (none, .iload_n 2, []) := by decide +kernel
theorem r_PR_told_27 : P_PR_told 27 = (none, .invokevirtual 80, []) := by decide +kernel
theorem r_PR_told_30 : P_PR_told 30 = (none, .iload_n 3, []) := by decide +kernel
theorem r_PR_told_31 : P_PR_told 31 = (none, .invokevirtual 83, []) := by decide +kernel
theorem r_PR_told_34 : P_PR_told 34 = (none, .ireturn, []) := by decide +kernel
def E_PR_told : List (Nat × Ent) := [(180, (2, 0, 0, 0, T_PR_pictureAt)), (320, (2, 2, 0, 0, T_Things_find)), (332, (3, 2, 0, 0, T_Things_tell))]
def X_PR_told : Cx := (llk (0, 0, 9) ftX10, llk 99 ntX10, llk none kcX10, llk none klX10, llk dEnt E_PR_told, 3, 0, false)
theorem xok_PR_told : Xok RX10 X_PR_told := xok_of ftX10_ok ntX10_ok kcX10_ok klX10_ok (E := E_PR_told) (List.forall_mem_cons.mpr ⟨co_X10_180, List.forall_mem_cons.mpr ⟨co_X10_320, List.forall_mem_cons.mpr ⟨co_X10_332, fun _ h => absurd h List.not_mem_nil⟩⟩⟩)
theorem xf_PR_told_71 : xfl X_PR_told 71 = (3, 1, 3) := by decide +kernel
theorem xe_PR_told_180 : xE X_PR_told (4 * 45 + 0) = (2, 0, 0, 0, T_PR_pictureAt) := rfl
theorem xe_PR_told_320 : xE X_PR_told (4 * 80 + 0) = (2, 2, 0, 0, T_Things_find) := rfl
theorem xe_PR_told_332 : xE X_PR_told (4 * 83 + 0) = (3, 2, 0, 0, T_Things_tell) := rfl
theorem xd_PR_told : xd X_PR_told = 3 := rfl
theorem xrb_PR_told : xrb X_PR_told = 0 := rfl
theorem xin_PR_told : xin X_PR_told = false := rfl
set_option maxHeartbeats 4000000 in
set_option maxRecDepth 100000 in
theorem S_PR_told : Snd yX10_told cX10_told 5 (some .int) T_PR_told 3 0 0 := by
  refine snd_of (X := X_PR_told) (P := P_PR_told) (tb := tb_PR_told) (own := RX10) (by decide) rfl rfl (by decide +kernel) xok_PR_told rfl rk0 (fun h => by first | rfl | cases h) ?_
  intro as M k has hM hT0
  obtain ⟨sz, sl, lay, ρ, σ, τ⟩ := M
  obtain ⟨o, as1, e, hlo, hT1⟩ := mkT_r hT0
  clear hT0
  subst e
  obtain ⟨p, as2, e, hT2⟩ := pI_x hT1
  clear hT1
  subst e
  obtain ⟨x, as3, e, hT3⟩ := pI_x hT2
  clear hT2
  subst e
  obtain ⟨w, as4, e, hT4⟩ := pI_x hT3
  clear hT3
  subst e
  obtain ⟨e, hT⟩ := hT4
  subst e
  replace hlo : lay o = (20, 0) := hlo
  have r_p : -2147483648 ≤ p ∧ p ≤ 2147483647 := has (vI p) (by simp)
  have r_x : -2147483648 ≤ x ∧ x ≤ 2147483647 := has (vI x) (by simp)
  have r_w : -2147483648 ≤ w ∧ w ≤ 2147483647 := has (vI w) (by simp)
  clear has
  replace hM : ∀ a i, -2147483648 ≤ σ a i ∧ σ a i ≤ 2147483647 := hM
  replace hT : TF_PR_told o p x w sz sl lay ρ σ τ k := hT
  unfold TF_PR_told at hT
  obtain ⟨U, len, st, hRP, h1, h0⟩ := hT
  obtain ⟨hR, hPR⟩ := (show RdP lay ρ σ τ o p U len st from hRP)
  have r0 : lay o = (20, 0) := hR.1
  refine ⟨Nat.le_of_ble_eq_true rfl, fun _ _ _ => False, fun _ _ _ => 0, 25, ?_, fun _ _ _ _ _ _ h => h.elim⟩
  by_cases hp : 0 ≤ p ∧ p < 3
  · have hpE : (0 ≤ p ∧ p < 3) = True := eq_true hp
    replace h1 := h1 hp
    obtain ⟨P, eP, -, hPc, hP0⟩ := hR.pic hp
    have hPe : o + 6 + 44 * p.toNat = P := eP.symm
    obtain ⟨hS, hV⟩ := hPR hp
    rw [hPe] at hV
    obtain ⟨hP, hKd, hTh, hRt, hHo, hWy, hSy, hLf, hTw⟩ := (show LPic lay ρ P from hPc)
    obtain ⟨w0, w1, w2, w3, w4, w5, w6, w7, w8, w9, w10, w11, w12, w13, w14⟩ := (show SW U len st from hS)
    obtain ⟨⟨v1, v2, v3, v4, v5⟩, v6, v7, v8, v9⟩ := (show PR σ τ P U len st from hV)
    have n12 := v3.1
    (obtain ⟨ph, pp0, pp1, pp2, pp3, pp4, pp5, pp6, pp7, pq0, pq1, pq2, pq3, pq4, pq5, pq6, pq7⟩ := (show LPicture lay ρ _ from hP); unfold wps; simp only [hpE, hPe, si_iload_n0, si_iload_n1, si_iload_n2, si_iload_n3, si_iload, si_lload_n0, si_lload_n1, si_lload_n2, si_lload_n3, si_lload, si_aload_n0, si_aload_n1, si_aload_n2, si_aload_n3, si_aload, si_istore_n0, si_istore_n1, si_istore_n2, si_istore_n3, si_istore, si_astore_n0, si_astore_n1, si_astore_n2, si_astore_n3, si_astore, si_lstore_n0, si_lstore_n1, si_lstore_n2, si_lstore_n3, si_lstore, si_iconst, si_bipush, si_sipush, si_ldc, si_ldc2_w, si_lconst0, si_lconst1, si_aconst_null, si_iinc, si_dup, si_dup2, si_iadd, si_isub, si_imul, si_idiv, si_irem, si_iand, si_ior, si_ishl, si_ishr, si_ladd, si_lmul, si_lor, si_lxor, si_lshl, si_lushr, si_lcmp, si_i2b, si_i2l, si_l2i, si_icmp_eq, si_icmp_ne, si_icmp_lt, si_icmp_ge, si_icmp_gt, si_icmp_le, si_if_eq, si_if_ne, si_if_lt, si_if_ge, si_if_gt, si_if_le, si_ifnull, si_ifnonnull, si_goto, si_tableswitch, si_lookupswitch, si_getfield, si_putfield, si_getstatic, si_iaload, si_baload, si_laload, si_aaload, si_iastore, si_bastore, si_lastore, si_aastore, si_arraylength, si_new, si_newarray, si_anewarray, si_invokevirtual, si_invokespecial, si_invokestatic, si_ireturn, si_lreturn, si_areturn, si_return_, pI_e, pL_e, pR_e, pA_r, pA_n, pN_n, pN_r, oI_e, oL_e, oA_r, oA_n, lget_e, lrm1_0, lrm2_0, lrm1_i, lrm1_r, lrm1_n, lrm1_l, lrm2_i, lrm2_r, lrm2_n, lrm2_l, popN_0, popN_s, acat_i, acat_l, acat_r, acat_n, stw_0, stw_s, psh_s, psh_n, wgf_r, wgf_i, wgf_b, wgf_n, wgf_m, wpf_i, wpf_r, wpf_b, wnew_e, callE_e, rbk_0, rbk_1, tsw_0, tsw_s, lsw_0, lsw_s, wp_s, wq_t, wq_f, oV_e, pick_0, pick_s, oZ_e, oY_e, r_PR_told_0, r_PR_told_1, r_PR_told_2, r_PR_told_5, r_PR_told_7, r_PR_told_9, r_PR_told_12, r_PR_told_13, r_PR_told_16, r_PR_told_18, r_PR_told_21, r_PR_told_23, r_PR_told_26, r_PR_told_27, r_PR_told_30, r_PR_told_31, r_PR_told_34, xf_PR_told_71, xe_PR_told_180, xe_PR_told_320, xe_PR_told_332, xd_PR_told, xrb_PR_told, xin_PR_told, T_PR_pictureAt_e, TF_PR_pictureAt, T_Things_find_e, TF_Things_find, T_Things_tell_e, TF_Things_tell, r0, ph, pp0, pp1, pp2, pp3, pp4, pp5, pp6, pp7, pq0, pq1, pq2, pq3, pq4, pq5, pq6, pq7, Nat.reduceAdd, Nat.reduceMul, Nat.reduceEqDiff, reduceIte, Int.reduceNeg, Int.reduceLE, Int.reduceLT, Int.reduceAdd, Int.reduceSub, Int.reduceToNat, true_and, and_true, inR_e, Nat.reduceLT, Nat.reduceLeDiff, reduceCtorEq, Nat.add_zero, Nat.zero_add, or_false, false_or, or_true, true_or, not_true_eq_false, not_false_eq_true, Classical.not_not, Nat.add_eq_zero_iff, and_false, false_and, Int.reduceEq, List.mem_cons, List.not_mem_nil, forall_eq_or_imp, forall_eq, false_implies, implies_true, forall_const, aargs_0, aargs_i, aargs_r, aargs_l, aargs_n, nfT_e, eq_self, and_self, Nat.le_refl, fu_s, fu_fu, iu_iu, iu_s, fu_am, fu_a0, fu_0a, iu_l, Nat.reduceBEq, Int.reduceBEq, T_objInit_e]; clear pp0 pp1 pp2 pp3 pp4 pp5 pp6 pp7)
    have hnn := w9.1
    rw [n12]
    have f1 : ∀ i, (0 ≤ i ∧ i < st 0 7) ∧ σ (P + 8 + 1) i = x → fn U st x = i := fun i hi => v3.fn1 w9.1 (by rw [n12]; exact hi)
    have f0 : (∀ i, 0 ≤ i ∧ i < st 0 7 → ¬ σ (P + 8 + 1) i = x) → fn U st x = -1 := fun hi => v3.fn0 w9.1 (by rw [n12]; exact hi)
    obtain ⟨q1, q2, q3, q4, q5⟩ := hV.life w9
    have vb : ∀ i, 0 ≤ i → i ≤ st 0 7 → 0 ≤ σ (P + 8 + 8) i ∧ σ (P + 8 + 8) i ≤ 8000 := fun i a b => (v3.2.2.2.1 i ⟨a, b⟩).1
    have rb : ∀ i, 0 ≤ i → i ≤ st 0 7 → 0 ≤ σ (P + 8 + 9) i ∧ σ (P + 8 + 9) i ≤ 4000 := fun i a b => (v3.2.2.2.1 i ⟨a, b⟩).2
    have nvs : ∀ i, 0 ≤ i ∧ i < st 0 7 → 0 ≤ nV U (st 1) (st 2 i) := fun i hi => ((w13 i hi).2.1.nv w0).1
    obtain ⟨z0, z1, z2, z3, z4, z5, z6, z9⟩ := h1
    refine ⟨hR, hTh, w9, v3.2.1, fun i hi => ?_, fun hi => ⟨hTh, w9, vb, rb, z9 (fun z => by rw [f0 hi] at z; omega)⟩⟩
    have e := f1 i hi
    obtain ⟨⟨a1, a2, a3, a4, a5⟩, a7, a8, -⟩ := v3.2.2.2.2.2.1 i hi.1
    have a6 := PR.ptr v3 w9.1 nvs hi.1
    rw [e] at z0 z1 z2 z3 z4 z5 z6 z9
    refine ⟨hTh, w9, vb, rb, fun z => ?_, fun z => ?_, fun z => ?_, fun z => ?_, fun z => ?_, fun z => ?_, fun z => ?_, fun z => z9 (by omega)⟩
    · rw [a2]; exact z0 (by omega)
    · rw [a3]; exact z1 (by omega)
    · rw [show σ (P + 8 + 8) (i + 1) - σ (P + 8 + 8) i = nV U (st 1) (st 2 i) by omega]; exact z2 (by omega)
    · rw [a5]; exact z3 (by omega)
    · rw [a4]; exact z4 (by omega)
    · rw [show σ (P + 8 + 9) (i + 1) - σ (P + 8 + 9) i = r5 U (st 1) (st 2 i) (nV U (st 1) (st 2 i)).toNat by omega]; exact z5 (by omega)
    · rw [a6]; exact z6 (by omega)
  · have hpE : (0 ≤ p ∧ p < 3) = False := eq_false hp
    (unfold wps; simp only [hpE, si_iload_n0, si_iload_n1, si_iload_n2, si_iload_n3, si_iload, si_lload_n0, si_lload_n1, si_lload_n2, si_lload_n3, si_lload, si_aload_n0, si_aload_n1, si_aload_n2, si_aload_n3, si_aload, si_istore_n0, si_istore_n1, si_istore_n2, si_istore_n3, si_istore, si_astore_n0, si_astore_n1, si_astore_n2, si_astore_n3, si_astore, si_lstore_n0, si_lstore_n1, si_lstore_n2, si_lstore_n3, si_lstore, si_iconst, si_bipush, si_sipush, si_ldc, si_ldc2_w, si_lconst0, si_lconst1, si_aconst_null, si_iinc, si_dup, si_dup2, si_iadd, si_isub, si_imul, si_idiv, si_irem, si_iand, si_ior, si_ishl, si_ishr, si_ladd, si_lmul, si_lor, si_lxor, si_lshl, si_lushr, si_lcmp, si_i2b, si_i2l, si_l2i, si_icmp_eq, si_icmp_ne, si_icmp_lt, si_icmp_ge, si_icmp_gt, si_icmp_le, si_if_eq, si_if_ne, si_if_lt, si_if_ge, si_if_gt, si_if_le, si_ifnull, si_ifnonnull, si_goto, si_tableswitch, si_lookupswitch, si_getfield, si_putfield, si_getstatic, si_iaload, si_baload, si_laload, si_aaload, si_iastore, si_bastore, si_lastore, si_aastore, si_arraylength, si_new, si_newarray, si_anewarray, si_invokevirtual, si_invokespecial, si_invokestatic, si_ireturn, si_lreturn, si_areturn, si_return_, pI_e, pL_e, pR_e, pA_r, pA_n, pN_n, pN_r, oI_e, oL_e, oA_r, oA_n, lget_e, lrm1_0, lrm2_0, lrm1_i, lrm1_r, lrm1_n, lrm1_l, lrm2_i, lrm2_r, lrm2_n, lrm2_l, popN_0, popN_s, acat_i, acat_l, acat_r, acat_n, stw_0, stw_s, psh_s, psh_n, wgf_r, wgf_i, wgf_b, wgf_n, wgf_m, wpf_i, wpf_r, wpf_b, wnew_e, callE_e, rbk_0, rbk_1, tsw_0, tsw_s, lsw_0, lsw_s, wp_s, wq_t, wq_f, oV_e, pick_0, pick_s, oZ_e, oY_e, r_PR_told_0, r_PR_told_1, r_PR_told_2, r_PR_told_5, r_PR_told_7, r_PR_told_9, r_PR_told_12, r_PR_told_13, r_PR_told_16, r_PR_told_18, r_PR_told_21, r_PR_told_23, r_PR_told_26, r_PR_told_27, r_PR_told_30, r_PR_told_31, r_PR_told_34, xf_PR_told_71, xe_PR_told_180, xe_PR_told_320, xe_PR_told_332, xd_PR_told, xrb_PR_told, xin_PR_told, T_PR_pictureAt_e, TF_PR_pictureAt, T_Things_find_e, TF_Things_find, T_Things_tell_e, TF_Things_tell, r0, Nat.reduceAdd, Nat.reduceMul, Nat.reduceEqDiff, reduceIte, Int.reduceNeg, Int.reduceLE, Int.reduceLT, Int.reduceAdd, Int.reduceSub, Int.reduceToNat, true_and, and_true, inR_e, Nat.reduceLT, Nat.reduceLeDiff, reduceCtorEq, Nat.add_zero, Nat.zero_add, or_false, false_or, or_true, true_or, not_true_eq_false, not_false_eq_true, Classical.not_not, Nat.add_eq_zero_iff, and_false, false_and, Int.reduceEq, List.mem_cons, List.not_mem_nil, forall_eq_or_imp, forall_eq, false_implies, implies_true, forall_const, aargs_0, aargs_i, aargs_r, aargs_l, aargs_n, nfT_e, eq_self, and_self, Nat.le_refl, fu_s, fu_fu, iu_iu, iu_s, fu_am, fu_a0, fu_0a, iu_l, Nat.reduceBEq, Int.reduceBEq, T_objInit_e])
    exact ⟨hR, h0 hp⟩
theorem co_X10_336 : CallOK RX10 (.invokevirtual 84) (3, 2, 0, 0, T_Things_valueOf) := call_V S_Things_valueOf (by decide) (ci := 7) rfl (by decide +kernel) (by decide +kernel) (by decide +kernel) (by decide +kernel) (by decide +kernel) (by decide +kernel) T_Things_valueOf_r
def TF_PR_value (o : Nat) (p : Int) (x : Int) (j : Int) (sz sl : Nat) (lay : Nat → Nat × Int) (ρ : Nat → Int → Nat) (σ : Nat → Int → Int) (τ : Nat → Int → Int64) (k : Option AV → Mm → Prop) : Prop := ∃ (U : Int → Int) (len : Int) (st : Nat → Int → Int), RdP lay ρ σ τ o p U len st ∧ (0 ≤ p ∧ p < 3 → (0 ≤ fn U st x ∧ 0 ≤ j ∧ j < nV U (st 1) (st 2 (fn U st x)) → k (some (vL (Int64.ofInt (vZ U (st 1) (st 2 (fn U st x)) j)))) (sz, sl, lay, ρ, σ, τ)) ∧ (¬ (0 ≤ fn U st x ∧ 0 ≤ j ∧ j < nV U (st 1) (st 2 (fn U st x))) → k (some (vL (0))) (sz, sl, lay, ρ, σ, τ))) ∧ (¬ (0 ≤ p ∧ p < 3) → k (some (vL (0))) (sz, sl, lay, ρ, σ, τ))
def T_PR_value : Tr := mkT 10 fun o as M k => pI as fun p as => pI as fun x as => pI as fun j as => as = [] ∧ TF_PR_value o p x j M.1 M.2.1 M.2.2.1 M.2.2.2.1 M.2.2.2.2.1 M.2.2.2.2.2 k
theorem T_PR_value_e {o : Nat} {p : Int} {x : Int} {j : Int} {sz sl : Nat} {lay : Nat → Nat × Int} {ρ : Nat → Int → Nat} {σ : Nat → Int → Int} {τ : Nat → Int → Int64} {k : Option AV → Mm → Prop} : T_PR_value [vR o, vI p, vI x, vI j] (sz, sl, lay, ρ, σ, τ) k = (lay o = (20, 0) ∧ TF_PR_value o p x j sz sl lay ρ σ τ k) := by simp [T_PR_value, mkT_e, pI_e, pR_e, pL_e]
theorem T_PR_value_r (as : List AV) (M : Mm) (k : Option AV → Mm → Prop) (h : T_PR_value as M k) : ∃ b As, as = vR b :: As ∧ M.2.2.1 b = (10 + 10, 0) := by
  obtain ⟨b, As, h1, h2, -⟩ := mkT_r h
  exact ⟨b, As, h1, h2⟩
def tb_PR_value : List (Nat × Option (List Nat) × Instr × List Nat) := [(0, none, .aload_n 0, []), (1, none, .iload_n 1, []), (2, none, .invokevirtual 45, []), (5, none, .astore 4, []), (7, none, .aload 4, []), (9, none, .ifnonnull 7, [16]), (12, none, .lconst 0, []), (13, none, .goto 21, [34]), (16, none, .aload 4, []), (18, none, .getfield 71, []), (21, none, .aload 4, []), (23, none, .getfield 71, []), (26, none, .iload_n 2, []), (27, none, .invokevirtual 80, []), (30, none, .iload_n 3, []), (31, none, .invokevirtual 84, []), (34, none, .lreturn, [])]
def P_PR_value : Nat → Option (List Nat) × Instr × List Nat := plk tb_PR_value
theorem r_PR_value_0 : P_PR_value 0 = (none, .aload_n 0, []) := by decide +kernel
theorem r_PR_value_1 : P_PR_value 1 = (none, .iload_n 1, []) := by decide +kernel
theorem r_PR_value_2 : P_PR_value 2 = (none, .invokevirtual 45, []) := by decide +kernel
theorem r_PR_value_5 : P_PR_value 5 = (none, .astore 4, []) := by decide +kernel
theorem r_PR_value_7 : P_PR_value 7 = (none, .aload 4, []) := by decide +kernel
theorem r_PR_value_9 : P_PR_value 9 = (none, .ifnonnull 7, [16]) := by decide +kernel
theorem r_PR_value_12 : P_PR_value 12 = (none, .lconst 0, []) := by decide +kernel
theorem r_PR_value_13 : P_PR_value 13 = (none, .goto 21, [34]) := by decide +kernel
theorem r_PR_value_16 : P_PR_value 16 = (none, .aload 4, []) := by decide +kernel
theorem r_PR_value_18 : P_PR_value 18 = (none, .getfield 71, []) := by decide +kernel
theorem r_PR_value_21 : P_PR_value 21 = (none, .aload 4, []) := by decide +kernel
theorem r_PR_value_23 : P_PR_value 23 = (none, .getfield 71, []) := by decide +kernel
theorem r_PR_value_26 : P_PR_value 26 = (none, .iload_n 2, []) := by decide +kernel
theorem r_PR_value_27 : P_PR_value 27 = (none, .invokevirtual 80, []) := by decide +kernel
theorem r_PR_value_30 : P_PR_value 30 = (none, .iload_n 3, []) := by decide +kernel
theorem r_PR_value_31 : P_PR_value 31 = (none, .invokevirtual 84, []) := by decide +kernel
theorem r_PR_value_34 : P_PR_value 34 = (none, .lreturn, []) := by decide +kernel
def E_PR_value : List (Nat × Ent) := [(180, (2, 0, 0, 0, T_PR_pictureAt)), (320, (2, 2, 0, 0, T_Things_find)), (336, (3, 2, 0, 0, T_Things_valueOf))]
def X_PR_value : Cx := (llk (0, 0, 9) ftX10, llk 99 ntX10, llk none kcX10, llk none klX10, llk dEnt E_PR_value, 3, 2, false)
theorem xok_PR_value : Xok RX10 X_PR_value := xok_of ftX10_ok ntX10_ok kcX10_ok klX10_ok (E := E_PR_value) (List.forall_mem_cons.mpr ⟨co_X10_180, List.forall_mem_cons.mpr ⟨co_X10_320, List.forall_mem_cons.mpr ⟨co_X10_336, fun _ h => absurd h List.not_mem_nil⟩⟩⟩)
theorem xf_PR_value_71 : xfl X_PR_value 71 = (3, 1, 3) := by decide +kernel
theorem xe_PR_value_180 : xE X_PR_value (4 * 45 + 0) = (2, 0, 0, 0, T_PR_pictureAt) := rfl
theorem xe_PR_value_320 : xE X_PR_value (4 * 80 + 0) = (2, 2, 0, 0, T_Things_find) := rfl
theorem xe_PR_value_336 : xE X_PR_value (4 * 84 + 0) = (3, 2, 0, 0, T_Things_valueOf) := rfl
theorem xd_PR_value : xd X_PR_value = 3 := rfl
theorem xrb_PR_value : xrb X_PR_value = 2 := rfl
theorem xin_PR_value : xin X_PR_value = false := rfl
set_option maxHeartbeats 4000000 in
set_option maxRecDepth 100000 in
theorem S_PR_value : Snd yX10_value cX10_value 5 (some .long) T_PR_value 3 0 0 := by
  refine snd_of (X := X_PR_value) (P := P_PR_value) (tb := tb_PR_value) (own := RX10) (by decide) rfl rfl (by decide +kernel) xok_PR_value rfl rk2 (fun h => by first | rfl | cases h) ?_
  intro as M k has hM hT0
  obtain ⟨sz, sl, lay, ρ, σ, τ⟩ := M
  obtain ⟨o, as1, e, hlo, hT1⟩ := mkT_r hT0
  clear hT0
  subst e
  obtain ⟨p, as2, e, hT2⟩ := pI_x hT1
  clear hT1
  subst e
  obtain ⟨x, as3, e, hT3⟩ := pI_x hT2
  clear hT2
  subst e
  obtain ⟨j, as4, e, hT4⟩ := pI_x hT3
  clear hT3
  subst e
  obtain ⟨e, hT⟩ := hT4
  subst e
  replace hlo : lay o = (20, 0) := hlo
  have r_p : -2147483648 ≤ p ∧ p ≤ 2147483647 := has (vI p) (by simp)
  have r_x : -2147483648 ≤ x ∧ x ≤ 2147483647 := has (vI x) (by simp)
  have r_j : -2147483648 ≤ j ∧ j ≤ 2147483647 := has (vI j) (by simp)
  clear has
  replace hM : ∀ a i, -2147483648 ≤ σ a i ∧ σ a i ≤ 2147483647 := hM
  replace hT : TF_PR_value o p x j sz sl lay ρ σ τ k := hT
  unfold TF_PR_value at hT
  obtain ⟨U, len, st, hRP, h1, h0⟩ := hT
  obtain ⟨hR, hPR⟩ := (show RdP lay ρ σ τ o p U len st from hRP)
  have r0 : lay o = (20, 0) := hR.1
  refine ⟨Nat.le_of_ble_eq_true rfl, fun _ _ _ => False, fun _ _ _ => 0, 25, ?_, fun _ _ _ _ _ _ h => h.elim⟩
  by_cases hp : 0 ≤ p ∧ p < 3
  · have hpE : (0 ≤ p ∧ p < 3) = True := eq_true hp
    replace h1 := h1 hp
    obtain ⟨P, eP, -, hPc, hP0⟩ := hR.pic hp
    have hPe : o + 6 + 44 * p.toNat = P := eP.symm
    obtain ⟨hS, hV⟩ := hPR hp
    rw [hPe] at hV
    obtain ⟨hP, hKd, hTh, hRt, hHo, hWy, hSy, hLf, hTw⟩ := (show LPic lay ρ P from hPc)
    obtain ⟨w0, w1, w2, w3, w4, w5, w6, w7, w8, w9, w10, w11, w12, w13, w14⟩ := (show SW U len st from hS)
    obtain ⟨⟨v1, v2, v3, v4, v5⟩, v6, v7, v8, v9⟩ := (show PR σ τ P U len st from hV)
    have n12 := v3.1
    (obtain ⟨ph, pp0, pp1, pp2, pp3, pp4, pp5, pp6, pp7, pq0, pq1, pq2, pq3, pq4, pq5, pq6, pq7⟩ := (show LPicture lay ρ _ from hP); unfold wps; simp only [hpE, hPe, si_iload_n0, si_iload_n1, si_iload_n2, si_iload_n3, si_iload, si_lload_n0, si_lload_n1, si_lload_n2, si_lload_n3, si_lload, si_aload_n0, si_aload_n1, si_aload_n2, si_aload_n3, si_aload, si_istore_n0, si_istore_n1, si_istore_n2, si_istore_n3, si_istore, si_astore_n0, si_astore_n1, si_astore_n2, si_astore_n3, si_astore, si_lstore_n0, si_lstore_n1, si_lstore_n2, si_lstore_n3, si_lstore, si_iconst, si_bipush, si_sipush, si_ldc, si_ldc2_w, si_lconst0, si_lconst1, si_aconst_null, si_iinc, si_dup, si_dup2, si_iadd, si_isub, si_imul, si_idiv, si_irem, si_iand, si_ior, si_ishl, si_ishr, si_ladd, si_lmul, si_lor, si_lxor, si_lshl, si_lushr, si_lcmp, si_i2b, si_i2l, si_l2i, si_icmp_eq, si_icmp_ne, si_icmp_lt, si_icmp_ge, si_icmp_gt, si_icmp_le, si_if_eq, si_if_ne, si_if_lt, si_if_ge, si_if_gt, si_if_le, si_ifnull, si_ifnonnull, si_goto, si_tableswitch, si_lookupswitch, si_getfield, si_putfield, si_getstatic, si_iaload, si_baload, si_laload, si_aaload, si_iastore, si_bastore, si_lastore, si_aastore, si_arraylength, si_new, si_newarray, si_anewarray, si_invokevirtual, si_invokespecial, si_invokestatic, si_ireturn, si_lreturn, si_areturn, si_return_, pI_e, pL_e, pR_e, pA_r, pA_n, pN_n, pN_r, oI_e, oL_e, oA_r, oA_n, lget_e, lrm1_0, lrm2_0, lrm1_i, lrm1_r, lrm1_n, lrm1_l, lrm2_i, lrm2_r, lrm2_n, lrm2_l, popN_0, popN_s, acat_i, acat_l, acat_r, acat_n, stw_0, stw_s, psh_s, psh_n, wgf_r, wgf_i, wgf_b, wgf_n, wgf_m, wpf_i, wpf_r, wpf_b, wnew_e, callE_e, rbk_0, rbk_1, tsw_0, tsw_s, lsw_0, lsw_s, wp_s, wq_t, wq_f, oV_e, pick_0, pick_s, oZ_e, oY_e, r_PR_value_0, r_PR_value_1, r_PR_value_2, r_PR_value_5, r_PR_value_7, r_PR_value_9, r_PR_value_12, r_PR_value_13, r_PR_value_16, r_PR_value_18, r_PR_value_21, r_PR_value_23, r_PR_value_26, r_PR_value_27, r_PR_value_30, r_PR_value_31, r_PR_value_34, xf_PR_value_71, xe_PR_value_180, xe_PR_value_320, xe_PR_value_336, xd_PR_value, xrb_PR_value, xin_PR_value, T_PR_pictureAt_e, TF_PR_pictureAt, T_Things_find_e, TF_Things_find, T_Things_valueOf_e, TF_Things_valueOf, r0, ph, pp0, pp1, pp2, pp3, pp4, pp5, pp6, pp7, pq0, pq1, pq2, pq3, pq4, pq5, pq6, pq7, Nat.reduceAdd, Nat.reduceMul, Nat.reduceEqDiff, reduceIte, Int.reduceNeg, Int.reduceLE, Int.reduceLT, Int.reduceAdd, Int.reduceSub, Int.reduceToNat, true_and, and_true, inR_e, Nat.reduceLT, Nat.reduceLeDiff, reduceCtorEq, Nat.add_zero, Nat.zero_add, or_false, false_or, or_true, true_or, not_true_eq_false, not_false_eq_true, Classical.not_not, Nat.add_eq_zero_iff, and_false, false_and, Int.reduceEq, List.mem_cons, List.not_mem_nil, forall_eq_or_imp, forall_eq, false_implies, implies_true, forall_const, aargs_0, aargs_i, aargs_r, aargs_l, aargs_n, nfT_e, eq_self, and_self, Nat.le_refl, fu_s, fu_fu, iu_iu, iu_s, fu_am, fu_a0, fu_0a, iu_l, Nat.reduceBEq, Int.reduceBEq, T_objInit_e]; clear pp0 pp1 pp2 pp3 pp4 pp5 pp6 pp7)
    have hnn := w9.1
    rw [n12]
    have f1 : ∀ i, (0 ≤ i ∧ i < st 0 7) ∧ σ (P + 8 + 1) i = x → fn U st x = i := fun i hi => v3.fn1 w9.1 (by rw [n12]; exact hi)
    have f0 : (∀ i, 0 ≤ i ∧ i < st 0 7 → ¬ σ (P + 8 + 1) i = x) → fn U st x = -1 := fun hi => v3.fn0 w9.1 (by rw [n12]; exact hi)
    obtain ⟨q1, q2, q3, q4, q5⟩ := hV.life w9
    have vb : ∀ i, 0 ≤ i → i ≤ st 0 7 → 0 ≤ σ (P + 8 + 8) i ∧ σ (P + 8 + 8) i ≤ 8000 := fun i a b => (v3.2.2.2.1 i ⟨a, b⟩).1
    have rb : ∀ i, 0 ≤ i → i ≤ st 0 7 → 0 ≤ σ (P + 8 + 9) i ∧ σ (P + 8 + 9) i ≤ 4000 := fun i a b => (v3.2.2.2.1 i ⟨a, b⟩).2
    have nvs : ∀ i, 0 ≤ i ∧ i < st 0 7 → 0 ≤ nV U (st 1) (st 2 i) := fun i hi => ((w13 i hi).2.1.nv w0).1
    refine ⟨hR, hTh, w9, v3.2.1, fun i hi => ?_, fun hi => ⟨hTh, w9, vb, h1.2 (fun z => by rw [f0 hi] at z; omega)⟩⟩
    have e := f1 i hi
    obtain ⟨-, a7, a8, a9, -⟩ := v3.2.2.2.2.2.1 i hi.1
    rw [e] at h1
    refine ⟨hTh, w9, vb, fun z => ?_, fun z => h1.2 (fun y => z ⟨y.2.1, hi.1.1, hi.1.2, by omega⟩)⟩
    rw [a9 j (by omega)]
    exact h1.1 ⟨hi.1.1, by omega, by omega⟩
  · have hpE : (0 ≤ p ∧ p < 3) = False := eq_false hp
    (unfold wps; simp only [hpE, si_iload_n0, si_iload_n1, si_iload_n2, si_iload_n3, si_iload, si_lload_n0, si_lload_n1, si_lload_n2, si_lload_n3, si_lload, si_aload_n0, si_aload_n1, si_aload_n2, si_aload_n3, si_aload, si_istore_n0, si_istore_n1, si_istore_n2, si_istore_n3, si_istore, si_astore_n0, si_astore_n1, si_astore_n2, si_astore_n3, si_astore, si_lstore_n0, si_lstore_n1, si_lstore_n2, si_lstore_n3, si_lstore, si_iconst, si_bipush, si_sipush, si_ldc, si_ldc2_w, si_lconst0, si_lconst1, si_aconst_null, si_iinc, si_dup, si_dup2, si_iadd, si_isub, si_imul, si_idiv, si_irem, si_iand, si_ior, si_ishl, si_ishr, si_ladd, si_lmul, si_lor, si_lxor, si_lshl, si_lushr, si_lcmp, si_i2b, si_i2l, si_l2i, si_icmp_eq, si_icmp_ne, si_icmp_lt, si_icmp_ge, si_icmp_gt, si_icmp_le, si_if_eq, si_if_ne, si_if_lt, si_if_ge, si_if_gt, si_if_le, si_ifnull, si_ifnonnull, si_goto, si_tableswitch, si_lookupswitch, si_getfield, si_putfield, si_getstatic, si_iaload, si_baload, si_laload, si_aaload, si_iastore, si_bastore, si_lastore, si_aastore, si_arraylength, si_new, si_newarray, si_anewarray, si_invokevirtual, si_invokespecial, si_invokestatic, si_ireturn, si_lreturn, si_areturn, si_return_, pI_e, pL_e, pR_e, pA_r, pA_n, pN_n, pN_r, oI_e, oL_e, oA_r, oA_n, lget_e, lrm1_0, lrm2_0, lrm1_i, lrm1_r, lrm1_n, lrm1_l, lrm2_i, lrm2_r, lrm2_n, lrm2_l, popN_0, popN_s, acat_i, acat_l, acat_r, acat_n, stw_0, stw_s, psh_s, psh_n, wgf_r, wgf_i, wgf_b, wgf_n, wgf_m, wpf_i, wpf_r, wpf_b, wnew_e, callE_e, rbk_0, rbk_1, tsw_0, tsw_s, lsw_0, lsw_s, wp_s, wq_t, wq_f, oV_e, pick_0, pick_s, oZ_e, oY_e, r_PR_value_0, r_PR_value_1, r_PR_value_2, r_PR_value_5, r_PR_value_7, r_PR_value_9, r_PR_value_12, r_PR_value_13, r_PR_value_16, r_PR_value_18, r_PR_value_21, r_PR_value_23, r_PR_value_26, r_PR_value_27, r_PR_value_30, r_PR_value_31, r_PR_value_34, xf_PR_value_71, xe_PR_value_180, xe_PR_value_320, xe_PR_value_336, xd_PR_value, xrb_PR_value, xin_PR_value, T_PR_pictureAt_e, TF_PR_pictureAt, T_Things_find_e, TF_Things_find, T_Things_valueOf_e, TF_Things_valueOf, r0, Nat.reduceAdd, Nat.reduceMul, Nat.reduceEqDiff, reduceIte, Int.reduceNeg, Int.reduceLE, Int.reduceLT, Int.reduceAdd, Int.reduceSub, Int.reduceToNat, true_and, and_true, inR_e, Nat.reduceLT, Nat.reduceLeDiff, reduceCtorEq, Nat.add_zero, Nat.zero_add, or_false, false_or, or_true, true_or, not_true_eq_false, not_false_eq_true, Classical.not_not, Nat.add_eq_zero_iff, and_false, false_and, Int.reduceEq, List.mem_cons, List.not_mem_nil, forall_eq_or_imp, forall_eq, false_implies, implies_true, forall_const, aargs_0, aargs_i, aargs_r, aargs_l, aargs_n, nfT_e, eq_self, and_self, Nat.le_refl, fu_s, fu_fu, iu_iu, iu_s, fu_am, fu_a0, fu_0a, iu_l, Nat.reduceBEq, Int.reduceBEq, T_objInit_e])
    exact ⟨hR, h0 hp⟩
theorem co_X10_352 : CallOK RX10 (.invokevirtual 88) (3, 2, 0, 0, T_Things_refOf) := call_V S_Things_refOf (by decide) (ci := 7) rfl (by decide +kernel) (by decide +kernel) (by decide +kernel) (by decide +kernel) (by decide +kernel) (by decide +kernel) T_Things_refOf_r
def TF_PR_ref (o : Nat) (p : Int) (x : Int) (j : Int) (sz sl : Nat) (lay : Nat → Nat × Int) (ρ : Nat → Int → Nat) (σ : Nat → Int → Int) (τ : Nat → Int → Int64) (k : Option AV → Mm → Prop) : Prop := ∃ (U : Int → Int) (len : Int) (st : Nat → Int → Int), RdP lay ρ σ τ o p U len st ∧ (0 ≤ p ∧ p < 3 → (0 ≤ fn U st x → ∀ i : Nat, i < nV U (st 1) (st 2 (fn U st x)) → sA U (st 1) (st 2 (fn U st x)) i = 5 → r5 U (st 1) (st 2 (fn U st x)) i = j → k (some (vI (vZ U (st 1) (st 2 (fn U st x)) i))) (sz, sl, lay, ρ, σ, τ)) ∧ (¬ (0 ≤ fn U st x ∧ 0 ≤ j ∧ j < r5 U (st 1) (st 2 (fn U st x)) (nV U (st 1) (st 2 (fn U st x))).toNat) → k (some (vI (-1))) (sz, sl, lay, ρ, σ, τ))) ∧ (¬ (0 ≤ p ∧ p < 3) → k (some (vI (-1))) (sz, sl, lay, ρ, σ, τ))
def T_PR_ref : Tr := mkT 10 fun o as M k => pI as fun p as => pI as fun x as => pI as fun j as => as = [] ∧ TF_PR_ref o p x j M.1 M.2.1 M.2.2.1 M.2.2.2.1 M.2.2.2.2.1 M.2.2.2.2.2 k
theorem T_PR_ref_e {o : Nat} {p : Int} {x : Int} {j : Int} {sz sl : Nat} {lay : Nat → Nat × Int} {ρ : Nat → Int → Nat} {σ : Nat → Int → Int} {τ : Nat → Int → Int64} {k : Option AV → Mm → Prop} : T_PR_ref [vR o, vI p, vI x, vI j] (sz, sl, lay, ρ, σ, τ) k = (lay o = (20, 0) ∧ TF_PR_ref o p x j sz sl lay ρ σ τ k) := by simp [T_PR_ref, mkT_e, pI_e, pR_e, pL_e]
theorem T_PR_ref_r (as : List AV) (M : Mm) (k : Option AV → Mm → Prop) (h : T_PR_ref as M k) : ∃ b As, as = vR b :: As ∧ M.2.2.1 b = (10 + 10, 0) := by
  obtain ⟨b, As, h1, h2, -⟩ := mkT_r h
  exact ⟨b, As, h1, h2⟩
def tb_PR_ref : List (Nat × Option (List Nat) × Instr × List Nat) := [(0, none, .aload_n 0, []), (1, none, .iload_n 1, []), (2, none, .invokevirtual 45, []), (5, none, .astore 4, []), (7, none, .aload 4, []), (9, none, .ifnonnull 7, [16]), (12, none, .iconst (-1), []), (13, none, .goto 21, [34]), (16, none, .aload 4, []), (18, none, .getfield 71, []), (21, none, .aload 4, []), (23, none, .getfield 71, []), (26, none, .iload_n 2, []), (27, none, .invokevirtual 80, []), (30, none, .iload_n 3, []), (31, none, .invokevirtual 88, []), (34, none, .ireturn, [])]
def P_PR_ref : Nat → Option (List Nat) × Instr × List Nat := plk tb_PR_ref
theorem r_PR_ref_0 : P_PR_ref 0 = (none, .aload_n 0, []) := by decide +kernel
theorem r_PR_ref_1 : P_PR_ref 1 = (none, .iload_n 1, []) := by decide +kernel
theorem r_PR_ref_2 : P_PR_ref 2 = (none, .invokevirtual 45, []) := by decide +kernel
theorem r_PR_ref_5 : P_PR_ref 5 = (none, .astore 4, []) := by decide +kernel
theorem r_PR_ref_7 : P_PR_ref 7 = (none, .aload 4, []) := by decide +kernel
theorem r_PR_ref_9 : P_PR_ref 9 = (none, .ifnonnull 7, [16]) := by decide +kernel
theorem r_PR_ref_12 : P_PR_ref 12 = (none, .iconst (-1), []) := by decide +kernel
theorem r_PR_ref_13 : P_PR_ref 13 = (none, .goto 21, [34]) := by decide +kernel
theorem r_PR_ref_16 : P_PR_ref 16 = (none, .aload 4, []) := by decide +kernel
theorem r_PR_ref_18 : P_PR_ref 18 = (none, .getfield 71, []) := by decide +kernel
theorem r_PR_ref_21 : P_PR_ref 21 = (none, .aload 4, []) := by decide +kernel
theorem r_PR_ref_23 : P_PR_ref 23 = (none, .getfield 71, []) := by decide +kernel
theorem r_PR_ref_26 : P_PR_ref 26 = (none, .iload_n 2, []) := by decide +kernel
theorem r_PR_ref_27 : P_PR_ref 27 = (none, .invokevirtual 80, []) := by decide +kernel
theorem r_PR_ref_30 : P_PR_ref 30 = (none, .iload_n 3, []) := by decide +kernel
theorem r_PR_ref_31 : P_PR_ref 31 = (none, .invokevirtual 88, []) := by decide +kernel
theorem r_PR_ref_34 : P_PR_ref 34 = (none, .ireturn, []) := by decide +kernel
def E_PR_ref : List (Nat × Ent) := [(180, (2, 0, 0, 0, T_PR_pictureAt)), (320, (2, 2, 0, 0, T_Things_find)), (352, (3, 2, 0, 0, T_Things_refOf))]
def X_PR_ref : Cx := (llk (0, 0, 9) ftX10, llk 99 ntX10, llk none kcX10, llk none klX10, llk dEnt E_PR_ref, 3, 0, false)
theorem xok_PR_ref : Xok RX10 X_PR_ref := xok_of ftX10_ok ntX10_ok kcX10_ok klX10_ok (E := E_PR_ref) (List.forall_mem_cons.mpr ⟨co_X10_180, List.forall_mem_cons.mpr ⟨co_X10_320, List.forall_mem_cons.mpr ⟨co_X10_352, fun _ h => absurd h List.not_mem_nil⟩⟩⟩)
theorem xf_PR_ref_71 : xfl X_PR_ref 71 = (3, 1, 3) := by decide +kernel
theorem xe_PR_ref_180 : xE X_PR_ref (4 * 45 + 0) = (2, 0, 0, 0, T_PR_pictureAt) := rfl
theorem xe_PR_ref_320 : xE X_PR_ref (4 * 80 + 0) = (2, 2, 0, 0, T_Things_find) := rfl
theorem xe_PR_ref_352 : xE X_PR_ref (4 * 88 + 0) = (3, 2, 0, 0, T_Things_refOf) := rfl
theorem xd_PR_ref : xd X_PR_ref = 3 := rfl
theorem xrb_PR_ref : xrb X_PR_ref = 0 := rfl
theorem xin_PR_ref : xin X_PR_ref = false := rfl
set_option maxHeartbeats 4000000 in
set_option maxRecDepth 100000 in
theorem S_PR_ref : Snd yX10_ref cX10_ref 5 (some .int) T_PR_ref 3 0 0 := by
  refine snd_of (X := X_PR_ref) (P := P_PR_ref) (tb := tb_PR_ref) (own := RX10) (by decide) rfl rfl (by decide +kernel) xok_PR_ref rfl rk0 (fun h => by first | rfl | cases h) ?_
  intro as M k has hM hT0
  obtain ⟨sz, sl, lay, ρ, σ, τ⟩ := M
  obtain ⟨o, as1, e, hlo, hT1⟩ := mkT_r hT0
  clear hT0
  subst e
  obtain ⟨p, as2, e, hT2⟩ := pI_x hT1
  clear hT1
  subst e
  obtain ⟨x, as3, e, hT3⟩ := pI_x hT2
  clear hT2
  subst e
  obtain ⟨j, as4, e, hT4⟩ := pI_x hT3
  clear hT3
  subst e
  obtain ⟨e, hT⟩ := hT4
  subst e
  replace hlo : lay o = (20, 0) := hlo
  have r_p : -2147483648 ≤ p ∧ p ≤ 2147483647 := has (vI p) (by simp)
  have r_x : -2147483648 ≤ x ∧ x ≤ 2147483647 := has (vI x) (by simp)
  have r_j : -2147483648 ≤ j ∧ j ≤ 2147483647 := has (vI j) (by simp)
  clear has
  replace hM : ∀ a i, -2147483648 ≤ σ a i ∧ σ a i ≤ 2147483647 := hM
  replace hT : TF_PR_ref o p x j sz sl lay ρ σ τ k := hT
  unfold TF_PR_ref at hT
  obtain ⟨U, len, st, hRP, h1, h0⟩ := hT
  obtain ⟨hR, hPR⟩ := (show RdP lay ρ σ τ o p U len st from hRP)
  have r0 : lay o = (20, 0) := hR.1
  refine ⟨Nat.le_of_ble_eq_true rfl, fun _ _ _ => False, fun _ _ _ => 0, 25, ?_, fun _ _ _ _ _ _ h => h.elim⟩
  by_cases hp : 0 ≤ p ∧ p < 3
  · have hpE : (0 ≤ p ∧ p < 3) = True := eq_true hp
    replace h1 := h1 hp
    obtain ⟨P, eP, -, hPc, hP0⟩ := hR.pic hp
    have hPe : o + 6 + 44 * p.toNat = P := eP.symm
    obtain ⟨hS, hV⟩ := hPR hp
    rw [hPe] at hV
    obtain ⟨hP, hKd, hTh, hRt, hHo, hWy, hSy, hLf, hTw⟩ := (show LPic lay ρ P from hPc)
    obtain ⟨w0, w1, w2, w3, w4, w5, w6, w7, w8, w9, w10, w11, w12, w13, w14⟩ := (show SW U len st from hS)
    obtain ⟨⟨v1, v2, v3, v4, v5⟩, v6, v7, v8, v9⟩ := (show PR σ τ P U len st from hV)
    have n12 := v3.1
    (obtain ⟨ph, pp0, pp1, pp2, pp3, pp4, pp5, pp6, pp7, pq0, pq1, pq2, pq3, pq4, pq5, pq6, pq7⟩ := (show LPicture lay ρ _ from hP); unfold wps; simp only [hpE, hPe, si_iload_n0, si_iload_n1, si_iload_n2, si_iload_n3, si_iload, si_lload_n0, si_lload_n1, si_lload_n2, si_lload_n3, si_lload, si_aload_n0, si_aload_n1, si_aload_n2, si_aload_n3, si_aload, si_istore_n0, si_istore_n1, si_istore_n2, si_istore_n3, si_istore, si_astore_n0, si_astore_n1, si_astore_n2, si_astore_n3, si_astore, si_lstore_n0, si_lstore_n1, si_lstore_n2, si_lstore_n3, si_lstore, si_iconst, si_bipush, si_sipush, si_ldc, si_ldc2_w, si_lconst0, si_lconst1, si_aconst_null, si_iinc, si_dup, si_dup2, si_iadd, si_isub, si_imul, si_idiv, si_irem, si_iand, si_ior, si_ishl, si_ishr, si_ladd, si_lmul, si_lor, si_lxor, si_lshl, si_lushr, si_lcmp, si_i2b, si_i2l, si_l2i, si_icmp_eq, si_icmp_ne, si_icmp_lt, si_icmp_ge, si_icmp_gt, si_icmp_le, si_if_eq, si_if_ne, si_if_lt, si_if_ge, si_if_gt, si_if_le, si_ifnull, si_ifnonnull, si_goto, si_tableswitch, si_lookupswitch, si_getfield, si_putfield, si_getstatic, si_iaload, si_baload, si_laload, si_aaload, si_iastore, si_bastore, si_lastore, si_aastore, si_arraylength, si_new, si_newarray, si_anewarray, si_invokevirtual, si_invokespecial, si_invokestatic, si_ireturn, si_lreturn, si_areturn, si_return_, pI_e, pL_e, pR_e, pA_r, pA_n, pN_n, pN_r, oI_e, oL_e, oA_r, oA_n, lget_e, lrm1_0, lrm2_0, lrm1_i, lrm1_r, lrm1_n, lrm1_l, lrm2_i, lrm2_r, lrm2_n, lrm2_l, popN_0, popN_s, acat_i, acat_l, acat_r, acat_n, stw_0, stw_s, psh_s, psh_n, wgf_r, wgf_i, wgf_b, wgf_n, wgf_m, wpf_i, wpf_r, wpf_b, wnew_e, callE_e, rbk_0, rbk_1, tsw_0, tsw_s, lsw_0, lsw_s, wp_s, wq_t, wq_f, oV_e, pick_0, pick_s, oZ_e, oY_e, r_PR_ref_0, r_PR_ref_1, r_PR_ref_2, r_PR_ref_5, r_PR_ref_7, r_PR_ref_9, r_PR_ref_12, r_PR_ref_13, r_PR_ref_16, r_PR_ref_18, r_PR_ref_21, r_PR_ref_23, r_PR_ref_26, r_PR_ref_27, r_PR_ref_30, r_PR_ref_31, r_PR_ref_34, xf_PR_ref_71, xe_PR_ref_180, xe_PR_ref_320, xe_PR_ref_352, xd_PR_ref, xrb_PR_ref, xin_PR_ref, T_PR_pictureAt_e, TF_PR_pictureAt, T_Things_find_e, TF_Things_find, T_Things_refOf_e, TF_Things_refOf, r0, ph, pp0, pp1, pp2, pp3, pp4, pp5, pp6, pp7, pq0, pq1, pq2, pq3, pq4, pq5, pq6, pq7, Nat.reduceAdd, Nat.reduceMul, Nat.reduceEqDiff, reduceIte, Int.reduceNeg, Int.reduceLE, Int.reduceLT, Int.reduceAdd, Int.reduceSub, Int.reduceToNat, true_and, and_true, inR_e, Nat.reduceLT, Nat.reduceLeDiff, reduceCtorEq, Nat.add_zero, Nat.zero_add, or_false, false_or, or_true, true_or, not_true_eq_false, not_false_eq_true, Classical.not_not, Nat.add_eq_zero_iff, and_false, false_and, Int.reduceEq, List.mem_cons, List.not_mem_nil, forall_eq_or_imp, forall_eq, false_implies, implies_true, forall_const, aargs_0, aargs_i, aargs_r, aargs_l, aargs_n, nfT_e, eq_self, and_self, Nat.le_refl, fu_s, fu_fu, iu_iu, iu_s, fu_am, fu_a0, fu_0a, iu_l, Nat.reduceBEq, Int.reduceBEq, T_objInit_e]; clear pp0 pp1 pp2 pp3 pp4 pp5 pp6 pp7)
    have hnn := w9.1
    rw [n12]
    have f1 : ∀ i, (0 ≤ i ∧ i < st 0 7) ∧ σ (P + 8 + 1) i = x → fn U st x = i := fun i hi => v3.fn1 w9.1 (by rw [n12]; exact hi)
    have f0 : (∀ i, 0 ≤ i ∧ i < st 0 7 → ¬ σ (P + 8 + 1) i = x) → fn U st x = -1 := fun hi => v3.fn0 w9.1 (by rw [n12]; exact hi)
    obtain ⟨q1, q2, q3, q4, q5⟩ := hV.life w9
    have vb : ∀ i, 0 ≤ i → i ≤ st 0 7 → 0 ≤ σ (P + 8 + 8) i ∧ σ (P + 8 + 8) i ≤ 8000 := fun i a b => (v3.2.2.2.1 i ⟨a, b⟩).1
    have rb : ∀ i, 0 ≤ i → i ≤ st 0 7 → 0 ≤ σ (P + 8 + 9) i ∧ σ (P + 8 + 9) i ≤ 4000 := fun i a b => (v3.2.2.2.1 i ⟨a, b⟩).2
    have nvs : ∀ i, 0 ≤ i ∧ i < st 0 7 → 0 ≤ nV U (st 1) (st 2 i) := fun i hi => ((w13 i hi).2.1.nv w0).1
    refine ⟨hR, hTh, w9, v3.2.1, fun i hi => ?_, fun hi => ⟨hTh, w9, rb, h1.2 (fun z => by rw [f0 hi] at z; omega)⟩⟩
    have e := f1 i hi
    obtain ⟨-, a7, a8, a9, a10⟩ := v3.2.2.2.2.2.1 i hi.1
    rw [e] at h1
    refine ⟨hTh, w9, rb, fun z => ?_, fun z => h1.2 (fun y => z ⟨y.2.1, hi.1.1, hi.1.2, by omega⟩)⟩
    obtain ⟨y, y1, y2, y3⟩ := r5_hit (i := j) _ (show 0 ≤ j ∧ j < r5 U (st 1) (st 2 i) (nV U (st 1) (st 2 i)).toNat by omega)
    have nvi := nvs i hi.1
    rw [← y3, a10 y (by omega) y2]
    exact h1.1 hi.1.1 y (by omega) y2 y3
  · have hpE : (0 ≤ p ∧ p < 3) = False := eq_false hp
    (unfold wps; simp only [hpE, si_iload_n0, si_iload_n1, si_iload_n2, si_iload_n3, si_iload, si_lload_n0, si_lload_n1, si_lload_n2, si_lload_n3, si_lload, si_aload_n0, si_aload_n1, si_aload_n2, si_aload_n3, si_aload, si_istore_n0, si_istore_n1, si_istore_n2, si_istore_n3, si_istore, si_astore_n0, si_astore_n1, si_astore_n2, si_astore_n3, si_astore, si_lstore_n0, si_lstore_n1, si_lstore_n2, si_lstore_n3, si_lstore, si_iconst, si_bipush, si_sipush, si_ldc, si_ldc2_w, si_lconst0, si_lconst1, si_aconst_null, si_iinc, si_dup, si_dup2, si_iadd, si_isub, si_imul, si_idiv, si_irem, si_iand, si_ior, si_ishl, si_ishr, si_ladd, si_lmul, si_lor, si_lxor, si_lshl, si_lushr, si_lcmp, si_i2b, si_i2l, si_l2i, si_icmp_eq, si_icmp_ne, si_icmp_lt, si_icmp_ge, si_icmp_gt, si_icmp_le, si_if_eq, si_if_ne, si_if_lt, si_if_ge, si_if_gt, si_if_le, si_ifnull, si_ifnonnull, si_goto, si_tableswitch, si_lookupswitch, si_getfield, si_putfield, si_getstatic, si_iaload, si_baload, si_laload, si_aaload, si_iastore, si_bastore, si_lastore, si_aastore, si_arraylength, si_new, si_newarray, si_anewarray, si_invokevirtual, si_invokespecial, si_invokestatic, si_ireturn, si_lreturn, si_areturn, si_return_, pI_e, pL_e, pR_e, pA_r, pA_n, pN_n, pN_r, oI_e, oL_e, oA_r, oA_n, lget_e, lrm1_0, lrm2_0, lrm1_i, lrm1_r, lrm1_n, lrm1_l, lrm2_i, lrm2_r, lrm2_n, lrm2_l, popN_0, popN_s, acat_i, acat_l, acat_r, acat_n, stw_0, stw_s, psh_s, psh_n, wgf_r, wgf_i, wgf_b, wgf_n, wgf_m, wpf_i, wpf_r, wpf_b, wnew_e, callE_e, rbk_0, rbk_1, tsw_0, tsw_s, lsw_0, lsw_s, wp_s, wq_t, wq_f, oV_e, pick_0, pick_s, oZ_e, oY_e, r_PR_ref_0, r_PR_ref_1, r_PR_ref_2, r_PR_ref_5, r_PR_ref_7, r_PR_ref_9, r_PR_ref_12, r_PR_ref_13, r_PR_ref_16, r_PR_ref_18, r_PR_ref_21, r_PR_ref_23, r_PR_ref_26, r_PR_ref_27, r_PR_ref_30, r_PR_ref_31, r_PR_ref_34, xf_PR_ref_71, xe_PR_ref_180, xe_PR_ref_320, xe_PR_ref_352, xd_PR_ref, xrb_PR_ref, xin_PR_ref, T_PR_pictureAt_e, TF_PR_pictureAt, T_Things_find_e, TF_Things_find, T_Things_refOf_e, TF_Things_refOf, r0, Nat.reduceAdd, Nat.reduceMul, Nat.reduceEqDiff, reduceIte, Int.reduceNeg, Int.reduceLE, Int.reduceLT, Int.reduceAdd, Int.reduceSub, Int.reduceToNat, true_and, and_true, inR_e, Nat.reduceLT, Nat.reduceLeDiff, reduceCtorEq, Nat.add_zero, Nat.zero_add, or_false, false_or, or_true, true_or, not_true_eq_false, not_false_eq_true, Classical.not_not, Nat.add_eq_zero_iff, and_false, false_and, Int.reduceEq, List.mem_cons, List.not_mem_nil, forall_eq_or_imp, forall_eq, false_implies, implies_true, forall_const, aargs_0, aargs_i, aargs_r, aargs_l, aargs_n, nfT_e, eq_self, and_self, Nat.le_refl, fu_s, fu_fu, iu_iu, iu_s, fu_am, fu_a0, fu_0a, iu_l, Nat.reduceBEq, Int.reduceBEq, T_objInit_e])
    exact ⟨hR, h0 hp⟩

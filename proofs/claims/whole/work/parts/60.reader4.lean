/-- rows alike -/
def LkP (U : Int → Int) (st : Nat → Int → Int) (i j : Int) : Prop := kdv U (st 2 i) = kdv U (st 2 j) ∧ nV U (st 1) (st 2 i) = nV U (st 1) (st 2 j) ∧ ∀ k, 0 ≤ k ∧ k < nV U (st 1) (st 2 i) → Int64.ofInt (vZ U (st 1) (st 2 i) k) = Int64.ofInt (vZ U (st 1) (st 2 j) k)
def rwP (U : Int → Int) (st : Nat → Int → Int) (i : Int) : Prop := srt U (st 2 i) = 1
def fsP (U : Int → Int) (st : Nat → Int → Int) (x : Int) : Prop := rwP U st x ∧ ∀ y, 0 ≤ y ∧ y < x → rwP U st y → ¬ LkP U st y x
noncomputable def mmP (U : Int → Int) (st : Nat → Int → Int) (x : Int) : Int := cntP (fun y => rwP U st y ∧ LkP U st x y) (st 0 7).toNat
def gpP (U : Int → Int) (st : Nat → Int → Int) (x : Int) : Prop := fsP U st x ∧ 2 ≤ mmP U st x
theorem PT.lk {σ : Nat → Int → Int} {τ : Nat → Int → Int64} {t : Nat} {U : Int → Int} {st : Nat → Int → Int} (h : PTs σ τ t U st) {i j : Int} (hi : 0 ≤ i ∧ i < st 0 7) (hj : 0 ≤ j ∧ j < st 0 7) (ri : rwP U st i) (rj : rwP U st j) : LkT σ τ t i j ↔ LkP U st i j := by
  obtain ⟨⟨a1, a2, a3, a4, a5⟩, a7, a8, a9, a10⟩ := h.2.2.2.2.2.1 i hi
  obtain ⟨⟨b1, b2, b3, b4, b5⟩, b7, b8, b9, b10⟩ := h.2.2.2.2.2.1 j hj
  unfold LkT LkP
  rw [a2, a3, b2, b3, show srt U (st 2 i) = 1 from ri, show srt U (st 2 j) = 1 from rj, show σ (t + 8) (i + 1) - σ (t + 8) i = nV U (st 1) (st 2 i) by omega, show σ (t + 8) (j + 1) - σ (t + 8) j = nV U (st 1) (st 2 j) by omega]
  constructor
  · intro ⟨⟨_, z1⟩, z2, z3⟩
    refine ⟨z1, z2, fun k hk => ?_⟩
    rw [← a9 k hk, ← b9 k (by omega)]
    exact z3 k hk
  · intro ⟨z1, z2, z3⟩
    refine ⟨⟨rfl, z1⟩, z2, fun k hk => ?_⟩
    rw [a9 k hk, b9 k (by omega)]
    exact z3 k hk
theorem PT.gp {σ : Nat → Int → Int} {τ : Nat → Int → Int64} {t : Nat} {U : Int → Int} {st : Nat → Int → Int} (h : PTs σ τ t U st) {x : Int} (hx : 0 ≤ x ∧ x < st 0 7) : (rwP U st x → Mem σ τ t x (st 0 7).toNat = mmP U st x) ∧ (GpT σ τ t x ↔ gpP U st x) := by
  have e2 : ∀ i, 0 ≤ i ∧ i < st 0 7 → (σ (t + 2) i = 1 ↔ rwP U st i) := fun i hi => by rw [(h.2.2.2.2.2.1 i hi).1.2.1]; exact Iff.rfl
  have hm : rwP U st x → Mem σ τ t x (st 0 7).toNat = mmP U st x := by
    intro rx
    refine cntP_c (fun y hy => ?_)
    rw [e2 y (by omega)]
    constructor
    · intro ⟨z1, z2⟩
      exact ⟨z1, (h.lk hx (by omega) rx z1).mp z2⟩
    · intro ⟨z1, z2⟩
      exact ⟨z1, (h.lk hx (by omega) rx z1).mpr z2⟩
  refine ⟨hm, ?_⟩
  unfold GpT gpP Fst fsP
  rw [h.1, e2 x hx]
  constructor
  · intro ⟨⟨z1, z2⟩, z3⟩
    rw [hm z1] at z3
    exact ⟨⟨z1, fun y hy ry hl => z2 y hy ((e2 y (by omega)).mpr ry) ((h.lk (by omega) hx ry z1).mpr hl)⟩, z3⟩
  · intro ⟨⟨z1, z2⟩, z3⟩
    rw [← hm z1] at z3
    exact ⟨⟨z1, fun y hy ry hl => z2 y hy ((e2 y (by omega)).mp ry) ((h.lk (by omega) hx ((e2 y (by omega)).mp ry) z1).mp hl)⟩, z3⟩
theorem TwS.p {σ : Nat → Int → Int} {τ : Nat → Int → Int64} {t o : Nat} {U : Int → Int} {st : Nat → Int → Int} (h : TwS σ σ τ t o) (g : PTs σ τ t U st) (hn : 0 ≤ st 0 7) : σ o 3 = cntP (gpP U st) (st 0 7).toNat ∧ ∀ i, 0 ≤ i ∧ i < σ o 3 → ∃ x, (0 ≤ x ∧ x < st 0 7) ∧ gpP U st x ∧ cntP (gpP U st) x.toNat = i ∧ σ (o + 1) i = x ∧ σ (o + 2) i = mmP U st x := by
  obtain ⟨h1, h2⟩ := h
  rw [g.1] at h1 h2
  have ce : ∀ N : Nat, N ≤ st 0 7 → cntP (GpT σ τ t) N = cntP (gpP U st) N := fun N hN => cntP_c (fun x hx => (g.gp (by omega)).2)
  rw [ce _ (by omega)] at h1
  refine ⟨h1, fun i hi => ?_⟩
  obtain ⟨x, x1, x2, x3⟩ := cntP_hit (P := gpP U st) (i := i) (st 0 7).toNat (by omega)
  have hx : 0 ≤ (x : Int) ∧ (x : Int) < st 0 7 := by omega
  obtain ⟨y1, y2⟩ := h2 x (by omega) ((g.gp hx).2.mpr x2)
  rw [ce x (by omega), x3] at y1 y2
  refine ⟨x, hx, x2, by rw [show ((x : Int)).toNat = x by omega]; exact x3, y1, ?_⟩
  rw [y2]
  exact (g.gp hx).1 x2.1.1
theorem co_X10_564 : CallOK RX10 (.invokevirtual 141) (1, 0, 0, 0, T_Twins_size) := call_V S_Twins_size (by decide) (ci := 9) rfl (by decide +kernel) (by decide +kernel) (by decide +kernel) (by decide +kernel) (by decide +kernel) (by decide +kernel) T_Twins_size_r
def TF_PR_groups (o : Nat) (p : Int) (sz sl : Nat) (lay : Nat → Nat × Int) (ρ : Nat → Int → Nat) (σ : Nat → Int → Int) (τ : Nat → Int → Int64) (k : Option AV → Mm → Prop) : Prop := ∃ (U : Int → Int) (len : Int) (st : Nat → Int → Int), RdP lay ρ σ τ o p U len st ∧ (0 ≤ p ∧ p < 3 → k (some (vI (cntP (gpP U st) (st 0 7).toNat))) (sz, sl, lay, ρ, σ, τ)) ∧ (¬ (0 ≤ p ∧ p < 3) → k (some (vI (-1))) (sz, sl, lay, ρ, σ, τ))
def T_PR_groups : Tr := mkT 10 fun o as M k => pI as fun p as => as = [] ∧ TF_PR_groups o p M.1 M.2.1 M.2.2.1 M.2.2.2.1 M.2.2.2.2.1 M.2.2.2.2.2 k
theorem T_PR_groups_e {o : Nat} {p : Int} {sz sl : Nat} {lay : Nat → Nat × Int} {ρ : Nat → Int → Nat} {σ : Nat → Int → Int} {τ : Nat → Int → Int64} {k : Option AV → Mm → Prop} : T_PR_groups [vR o, vI p] (sz, sl, lay, ρ, σ, τ) k = (lay o = (20, 0) ∧ TF_PR_groups o p sz sl lay ρ σ τ k) := by simp [T_PR_groups, mkT_e, pI_e, pR_e, pL_e]
theorem T_PR_groups_r (as : List AV) (M : Mm) (k : Option AV → Mm → Prop) (h : T_PR_groups as M k) : ∃ b As, as = vR b :: As ∧ M.2.2.1 b = (10 + 10, 0) := by
  obtain ⟨b, As, h1, h2, -⟩ := mkT_r h
  exact ⟨b, As, h1, h2⟩
def tb_PR_groups : List (Nat × Option (List Nat) × Instr × List Nat) := [(0, none, .aload_n 0, []), (1, none, .iload_n 1, []), (2, none, .invokevirtual 45, []), (5, none, .astore_n 2, []), (6, none, .aload_n 2, []), (7, none, .ifnonnull 7, [14]), (10, none, .iconst (-1), []), (11, none, .goto 10, [21]), (14, none, .aload_n 2, []), (15, none, .getfield 137, []), (18, none, .invokevirtual 141, []), (21, none, .ireturn, [])]
def P_PR_groups : Nat → Option (List Nat) × Instr × List Nat := plk tb_PR_groups
theorem r_PR_groups_0 : P_PR_groups 0 = (none, .aload_n 0, []) := by decide +kernel
theorem r_PR_groups_1 : P_PR_groups 1 = (none, .iload_n 1, []) := by decide +kernel
theorem r_PR_groups_2 : P_PR_groups 2 = (none, .invokevirtual 45, []) := by decide +kernel
theorem r_PR_groups_5 : P_PR_groups 5 = (none, .astore_n 2, []) := by decide +kernel
theorem r_PR_groups_6 : P_PR_groups 6 = (none, .aload_n 2, []) := by decide +kernel
theorem r_PR_groups_7 : P_PR_groups 7 = (none, .ifnonnull 7, [14]) := by decide +kernel
theorem r_PR_groups_10 : P_PR_groups 10 = (none, .iconst (-1), []) := by decide +kernel
theorem r_PR_groups_11 : P_PR_groups 11 = (none, .goto 10, [21]) := by decide +kernel
theorem r_PR_groups_14 : P_PR_groups 14 = (none, .aload_n 2, []) := by decide +kernel
theorem r_PR_groups_15 : P_PR_groups 15 = (none, .getfield 137, []) := by decide +kernel
theorem r_PR_groups_18 : P_PR_groups 18 = (none, .invokevirtual 141, []) := by decide +kernel
theorem r_PR_groups_21 : P_PR_groups 21 = (none, .ireturn, []) := by decide +kernel
def E_PR_groups : List (Nat × Ent) := [(564, (1, 0, 0, 0, T_Twins_size)), (180, (2, 0, 0, 0, T_PR_pictureAt))]
def X_PR_groups : Cx := (llk (0, 0, 9) ftX10, llk 99 ntX10, llk none kcX10, llk none klX10, llk dEnt E_PR_groups, 1, 0, false)
theorem xok_PR_groups : Xok RX10 X_PR_groups := xok_of ftX10_ok ntX10_ok kcX10_ok klX10_ok (E := E_PR_groups) (List.forall_mem_cons.mpr ⟨co_X10_564, List.forall_mem_cons.mpr ⟨co_X10_180, fun _ h => absurd h List.not_mem_nil⟩⟩)
theorem xf_PR_groups_137 : xfl X_PR_groups 137 = (3, 7, 3) := by decide +kernel
theorem xe_PR_groups_564 : xE X_PR_groups (4 * 141 + 0) = (1, 0, 0, 0, T_Twins_size) := rfl
theorem xe_PR_groups_180 : xE X_PR_groups (4 * 45 + 0) = (2, 0, 0, 0, T_PR_pictureAt) := rfl
theorem xd_PR_groups : xd X_PR_groups = 1 := rfl
theorem xrb_PR_groups : xrb X_PR_groups = 0 := rfl
theorem xin_PR_groups : xin X_PR_groups = false := rfl
set_option maxHeartbeats 4000000 in
set_option maxRecDepth 100000 in
theorem S_PR_groups : Snd yX10_groups cX10_groups 3 (some .int) T_PR_groups 1 0 0 := by
  refine snd_of (X := X_PR_groups) (P := P_PR_groups) (tb := tb_PR_groups) (own := RX10) (by decide) rfl rfl (by decide +kernel) xok_PR_groups rfl rk0 (fun h => by first | rfl | cases h) ?_
  intro as M k has hM hT0
  obtain ⟨sz, sl, lay, ρ, σ, τ⟩ := M
  obtain ⟨o, as1, e, hlo, hT1⟩ := mkT_r hT0
  clear hT0
  subst e
  obtain ⟨p, as2, e, hT2⟩ := pI_x hT1
  clear hT1
  subst e
  obtain ⟨e, hT⟩ := hT2
  subst e
  replace hlo : lay o = (20, 0) := hlo
  have r_p : -2147483648 ≤ p ∧ p ≤ 2147483647 := has (vI p) (by simp)
  clear has
  replace hM : ∀ a i, -2147483648 ≤ σ a i ∧ σ a i ≤ 2147483647 := hM
  replace hT : TF_PR_groups o p sz sl lay ρ σ τ k := hT
  unfold TF_PR_groups at hT
  obtain ⟨U, len, st, hRP, h1, h0⟩ := hT
  obtain ⟨hR, hPR⟩ := (show RdP lay ρ σ τ o p U len st from hRP)
  have r0 : lay o = (20, 0) := hR.1
  refine ⟨Nat.le_of_ble_eq_true rfl, fun _ _ _ => False, fun _ _ _ => 0, 20, ?_, fun _ _ _ _ _ _ h => h.elim⟩
  by_cases hp : 0 ≤ p ∧ p < 3
  · have hpE : (0 ≤ p ∧ p < 3) = True := eq_true hp
    replace h1 := h1 hp
    obtain ⟨P, eP, -, hPc, hP0⟩ := hR.pic hp
    have hPe : o + 6 + 44 * p.toNat = P := eP.symm
    obtain ⟨hS, hV⟩ := hPR hp
    rw [hPe] at hV
    obtain ⟨hP, hKd, hTh, hRt, hHo, hWy, hSy, hLf, hTw⟩ := (show LPic lay ρ P from hPc)
    obtain ⟨w0, w1, w2, w3, w4, w5, w6, w7, w8, w9, w10, w11, w12, w13, w14⟩ := (show SW U len st from hS)
    obtain ⟨⟨v1, v2, v3, v4, v5⟩, v6, v7, v8, v9⟩ := (show PR σ τ P U len st from hV)
    have n12 := v3.1
    (obtain ⟨ph, pp0, pp1, pp2, pp3, pp4, pp5, pp6, pp7, pq0, pq1, pq2, pq3, pq4, pq5, pq6, pq7⟩ := (show LPicture lay ρ _ from hP); unfold wps; simp only [hpE, hPe, si_iload_n0, si_iload_n1, si_iload_n2, si_iload_n3, si_iload, si_lload_n0, si_lload_n1, si_lload_n2, si_lload_n3, si_lload, si_aload_n0, si_aload_n1, si_aload_n2, si_aload_n3, si_aload, si_istore_n0, si_istore_n1, si_istore_n2, si_istore_n3, si_istore, si_astore_n0, si_astore_n1, si_astore_n2, si_astore_n3, si_astore, si_lstore_n0, si_lstore_n1, si_lstore_n2, si_lstore_n3, si_lstore, si_iconst, si_bipush, si_sipush, si_ldc, si_ldc2_w, si_lconst0, si_lconst1, si_aconst_null, si_iinc, si_dup, si_dup2, si_iadd, si_isub, si_imul, si_idiv, si_irem, si_iand, si_ior, si_ishl, si_ishr, si_ladd, si_lmul, si_lor, si_lxor, si_lshl, si_lushr, si_lcmp, si_i2b, si_i2l, si_l2i, si_icmp_eq, si_icmp_ne, si_icmp_lt, si_icmp_ge, si_icmp_gt, si_icmp_le, si_if_eq, si_if_ne, si_if_lt, si_if_ge, si_if_gt, si_if_le, si_ifnull, si_ifnonnull, si_goto, si_tableswitch, si_lookupswitch, si_getfield, si_putfield, si_getstatic, si_iaload, si_baload, si_laload, si_aaload, si_iastore, si_bastore, si_lastore, si_aastore, si_arraylength, si_new, si_newarray, si_anewarray, si_invokevirtual, si_invokespecial, si_invokestatic, si_ireturn, si_lreturn, si_areturn, si_return_, pI_e, pL_e, pR_e, pA_r, pA_n, pN_n, pN_r, oI_e, oL_e, oA_r, oA_n, lget_e, lrm1_0, lrm2_0, lrm1_i, lrm1_r, lrm1_n, lrm1_l, lrm2_i, lrm2_r, lrm2_n, lrm2_l, popN_0, popN_s, acat_i, acat_l, acat_r, acat_n, stw_0, stw_s, psh_s, psh_n, wgf_r, wgf_i, wgf_b, wgf_n, wgf_m, wpf_i, wpf_r, wpf_b, wnew_e, callE_e, rbk_0, rbk_1, tsw_0, tsw_s, lsw_0, lsw_s, wp_s, wq_t, wq_f, oV_e, pick_0, pick_s, oZ_e, oY_e, r_PR_groups_0, r_PR_groups_1, r_PR_groups_2, r_PR_groups_5, r_PR_groups_6, r_PR_groups_7, r_PR_groups_10, r_PR_groups_11, r_PR_groups_14, r_PR_groups_15, r_PR_groups_18, r_PR_groups_21, xf_PR_groups_137, xe_PR_groups_564, xe_PR_groups_180, xd_PR_groups, xrb_PR_groups, xin_PR_groups, T_Twins_size_e, TF_Twins_size, T_PR_pictureAt_e, TF_PR_pictureAt, r0, ph, pp0, pp1, pp2, pp3, pp4, pp5, pp6, pp7, pq0, pq1, pq2, pq3, pq4, pq5, pq6, pq7, Nat.reduceAdd, Nat.reduceMul, Nat.reduceEqDiff, reduceIte, Int.reduceNeg, Int.reduceLE, Int.reduceLT, Int.reduceAdd, Int.reduceSub, Int.reduceToNat, true_and, and_true, inR_e, Nat.reduceLT, Nat.reduceLeDiff, reduceCtorEq, Nat.add_zero, Nat.zero_add, or_false, false_or, or_true, true_or, not_true_eq_false, not_false_eq_true, Classical.not_not, Nat.add_eq_zero_iff, and_false, false_and, Int.reduceEq, List.mem_cons, List.not_mem_nil, forall_eq_or_imp, forall_eq, false_implies, implies_true, forall_const, aargs_0, aargs_i, aargs_r, aargs_l, aargs_n, nfT_e, eq_self, and_self, Nat.le_refl, fu_s, fu_fu, iu_iu, iu_s, fu_am, fu_a0, fu_0a, iu_l, Nat.reduceBEq, Int.reduceBEq, T_objInit_e]; clear pp0 pp1 pp2 pp3 pp4 pp5 pp6 pp7)
    rw [← (v9.p v3 w9.1).1] at h1
    exact ⟨hR, h1⟩
  · have hpE : (0 ≤ p ∧ p < 3) = False := eq_false hp
    (unfold wps; simp only [hpE, si_iload_n0, si_iload_n1, si_iload_n2, si_iload_n3, si_iload, si_lload_n0, si_lload_n1, si_lload_n2, si_lload_n3, si_lload, si_aload_n0, si_aload_n1, si_aload_n2, si_aload_n3, si_aload, si_istore_n0, si_istore_n1, si_istore_n2, si_istore_n3, si_istore, si_astore_n0, si_astore_n1, si_astore_n2, si_astore_n3, si_astore, si_lstore_n0, si_lstore_n1, si_lstore_n2, si_lstore_n3, si_lstore, si_iconst, si_bipush, si_sipush, si_ldc, si_ldc2_w, si_lconst0, si_lconst1, si_aconst_null, si_iinc, si_dup, si_dup2, si_iadd, si_isub, si_imul, si_idiv, si_irem, si_iand, si_ior, si_ishl, si_ishr, si_ladd, si_lmul, si_lor, si_lxor, si_lshl, si_lushr, si_lcmp, si_i2b, si_i2l, si_l2i, si_icmp_eq, si_icmp_ne, si_icmp_lt, si_icmp_ge, si_icmp_gt, si_icmp_le, si_if_eq, si_if_ne, si_if_lt, si_if_ge, si_if_gt, si_if_le, si_ifnull, si_ifnonnull, si_goto, si_tableswitch, si_lookupswitch, si_getfield, si_putfield, si_getstatic, si_iaload, si_baload, si_laload, si_aaload, si_iastore, si_bastore, si_lastore, si_aastore, si_arraylength, si_new, si_newarray, si_anewarray, si_invokevirtual, si_invokespecial, si_invokestatic, si_ireturn, si_lreturn, si_areturn, si_return_, pI_e, pL_e, pR_e, pA_r, pA_n, pN_n, pN_r, oI_e, oL_e, oA_r, oA_n, lget_e, lrm1_0, lrm2_0, lrm1_i, lrm1_r, lrm1_n, lrm1_l, lrm2_i, lrm2_r, lrm2_n, lrm2_l, popN_0, popN_s, acat_i, acat_l, acat_r, acat_n, stw_0, stw_s, psh_s, psh_n, wgf_r, wgf_i, wgf_b, wgf_n, wgf_m, wpf_i, wpf_r, wpf_b, wnew_e, callE_e, rbk_0, rbk_1, tsw_0, tsw_s, lsw_0, lsw_s, wp_s, wq_t, wq_f, oV_e, pick_0, pick_s, oZ_e, oY_e, r_PR_groups_0, r_PR_groups_1, r_PR_groups_2, r_PR_groups_5, r_PR_groups_6, r_PR_groups_7, r_PR_groups_10, r_PR_groups_11, r_PR_groups_14, r_PR_groups_15, r_PR_groups_18, r_PR_groups_21, xf_PR_groups_137, xe_PR_groups_564, xe_PR_groups_180, xd_PR_groups, xrb_PR_groups, xin_PR_groups, T_Twins_size_e, TF_Twins_size, T_PR_pictureAt_e, TF_PR_pictureAt, r0, Nat.reduceAdd, Nat.reduceMul, Nat.reduceEqDiff, reduceIte, Int.reduceNeg, Int.reduceLE, Int.reduceLT, Int.reduceAdd, Int.reduceSub, Int.reduceToNat, true_and, and_true, inR_e, Nat.reduceLT, Nat.reduceLeDiff, reduceCtorEq, Nat.add_zero, Nat.zero_add, or_false, false_or, or_true, true_or, not_true_eq_false, not_false_eq_true, Classical.not_not, Nat.add_eq_zero_iff, and_false, false_and, Int.reduceEq, List.mem_cons, List.not_mem_nil, forall_eq_or_imp, forall_eq, false_implies, implies_true, forall_const, aargs_0, aargs_i, aargs_r, aargs_l, aargs_n, nfT_e, eq_self, and_self, Nat.le_refl, fu_s, fu_fu, iu_iu, iu_s, fu_am, fu_a0, fu_0a, iu_l, Nat.reduceBEq, Int.reduceBEq, T_objInit_e])
    exact ⟨hR, h0 hp⟩
theorem co_X10_576 : CallOK RX10 (.invokevirtual 144) (4, 2, 0, 0, T_Twins_tell) := call_V S_Twins_tell (by decide) (ci := 9) rfl (by decide +kernel) (by decide +kernel) (by decide +kernel) (by decide +kernel) (by decide +kernel) (by decide +kernel) T_Twins_tell_r
def TF_PR_group (o : Nat) (p : Int) (i : Int) (w : Int) (sz sl : Nat) (lay : Nat → Nat × Int) (ρ : Nat → Int → Nat) (σ : Nat → Int → Int) (τ : Nat → Int → Int64) (k : Option AV → Mm → Prop) : Prop := ∃ (U : Int → Int) (len : Int) (st : Nat → Int → Int), RdP lay ρ σ τ o p U len st ∧ (0 ≤ p ∧ p < 3 → (∀ x, (0 ≤ x ∧ x < st 0 7) → gpP U st x → cntP (gpP U st) x.toNat = i → (w = 0 → k (some (vI (numA U (st 2) x))) (sz, sl, lay, ρ, σ, τ)) ∧ (w = 1 → k (some (vI (mmP U st x))) (sz, sl, lay, ρ, σ, τ)) ∧ (w = 2 → k (some (vI ((mmP U st x - 1) * szP U st x))) (sz, sl, lay, ρ, σ, τ))) ∧ (¬ (0 ≤ i ∧ i < cntP (gpP U st) (st 0 7).toNat ∧ 0 ≤ w ∧ w ≤ 2) → k (some (vI (-1))) (sz, sl, lay, ρ, σ, τ))) ∧ (¬ (0 ≤ p ∧ p < 3) → k (some (vI (-1))) (sz, sl, lay, ρ, σ, τ))
def T_PR_group : Tr := mkT 10 fun o as M k => pI as fun p as => pI as fun i as => pI as fun w as => as = [] ∧ TF_PR_group o p i w M.1 M.2.1 M.2.2.1 M.2.2.2.1 M.2.2.2.2.1 M.2.2.2.2.2 k
theorem T_PR_group_e {o : Nat} {p : Int} {i : Int} {w : Int} {sz sl : Nat} {lay : Nat → Nat × Int} {ρ : Nat → Int → Nat} {σ : Nat → Int → Int} {τ : Nat → Int → Int64} {k : Option AV → Mm → Prop} : T_PR_group [vR o, vI p, vI i, vI w] (sz, sl, lay, ρ, σ, τ) k = (lay o = (20, 0) ∧ TF_PR_group o p i w sz sl lay ρ σ τ k) := by simp [T_PR_group, mkT_e, pI_e, pR_e, pL_e]
theorem T_PR_group_r (as : List AV) (M : Mm) (k : Option AV → Mm → Prop) (h : T_PR_group as M k) : ∃ b As, as = vR b :: As ∧ M.2.2.1 b = (10 + 10, 0) := by
  obtain ⟨b, As, h1, h2, -⟩ := mkT_r h
  exact ⟨b, As, h1, h2⟩
def tb_PR_group : List (Nat × Option (List Nat) × Instr × List Nat) := [(0, none, .aload_n 0, []), (1, none, .iload_n 1, []), (2, none, .invokevirtual 45, []), (5, none, .astore 4, []), (7, none, .aload 4, []), (9, none, .ifnonnull 7, [16]), (12, none, .iconst (-1), []), (13, none, .goto 18, [31]), (16, none, .aload 4, []), (18, none, .getfield 137, []), (21, none, .aload 4, []), (23, none, .getfield 71, []), (26, none, .iload_n 2, []), (27, none, .iload_n 3, []), (28, none, .invokevirtual 144, []), (31, none, .ireturn, [])]
def P_PR_group : Nat → Option (List Nat) × Instr × List Nat := plk tb_PR_group
theorem r_PR_group_0 : P_PR_group 0 = (none, .aload_n 0, []) := by decide +kernel
theorem r_PR_group_1 : P_PR_group 1 = (none, .iload_n 1, []) := by decide +kernel
theorem r_PR_group_2 : P_PR_group 2 = (none, .invokevirtual 45, []) := by decide +kernel
theorem r_PR_group_5 : P_PR_group 5 = (none, .astore 4, []) := by decide +kernel
theorem r_PR_group_7 : P_PR_group 7 = (none, .aload 4, []) := by decide +kernel
theorem r_PR_group_9 : P_PR_group 9 = (none, .ifnonnull 7, [16]) := by decide +kernel
theorem r_PR_group_12 : P_PR_group 12 = (none, .iconst (-1), []) := by decide +kernel
theorem r_PR_group_13 : P_PR_group 13 = (none, .goto 18, [31]) := by decide +kernel
theorem r_PR_group_16 : P_PR_group 16 = (none, .aload 4, []) := by decide +kernel
theorem r_PR_group_18 : P_PR_group 18 = (none, .getfield 137, []) := by decide +kernel
theorem r_PR_group_21 : P_PR_group 21 = (none, .aload 4, []) := by decide +kernel
theorem r_PR_group_23 : P_PR_group 23 = (none, .getfield 71, []) := by decide +kernel
theorem r_PR_group_26 : P_PR_group 26 = (none, .iload_n 2, []) := by decide +kernel
theorem r_PR_group_27 : P_PR_group 27 = (none, .iload_n 3, []) := by decide +kernel
theorem r_PR_group_28 : P_PR_group 28 = (none, .invokevirtual 144, []) := by decide +kernel
theorem r_PR_group_31 : P_PR_group 31 = (none, .ireturn, []) := by decide +kernel
def E_PR_group : List (Nat × Ent) := [(576, (4, 2, 0, 0, T_Twins_tell)), (180, (2, 0, 0, 0, T_PR_pictureAt))]
def X_PR_group : Cx := (llk (0, 0, 9) ftX10, llk 99 ntX10, llk none kcX10, llk none klX10, llk dEnt E_PR_group, 3, 0, false)
theorem xok_PR_group : Xok RX10 X_PR_group := xok_of ftX10_ok ntX10_ok kcX10_ok klX10_ok (E := E_PR_group) (List.forall_mem_cons.mpr ⟨co_X10_576, List.forall_mem_cons.mpr ⟨co_X10_180, fun _ h => absurd h List.not_mem_nil⟩⟩)
theorem xf_PR_group_71 : xfl X_PR_group 71 = (3, 1, 3) := by decide +kernel
theorem xf_PR_group_137 : xfl X_PR_group 137 = (3, 7, 3) := by decide +kernel
theorem xe_PR_group_576 : xE X_PR_group (4 * 144 + 0) = (4, 2, 0, 0, T_Twins_tell) := rfl
theorem xe_PR_group_180 : xE X_PR_group (4 * 45 + 0) = (2, 0, 0, 0, T_PR_pictureAt) := rfl
theorem xd_PR_group : xd X_PR_group = 3 := rfl
theorem xrb_PR_group : xrb X_PR_group = 0 := rfl
theorem xin_PR_group : xin X_PR_group = false := rfl
set_option maxHeartbeats 4000000 in
set_option maxRecDepth 100000 in
theorem S_PR_group : Snd yX10_group cX10_group 5 (some .int) T_PR_group 3 0 0 := by
  refine snd_of (X := X_PR_group) (P := P_PR_group) (tb := tb_PR_group) (own := RX10) (by decide) rfl rfl (by decide +kernel) xok_PR_group rfl rk0 (fun h => by first | rfl | cases h) ?_
  intro as M k has hM hT0
  obtain ⟨sz, sl, lay, ρ, σ, τ⟩ := M
  obtain ⟨o, as1, e, hlo, hT1⟩ := mkT_r hT0
  clear hT0
  subst e
  obtain ⟨p, as2, e, hT2⟩ := pI_x hT1
  clear hT1
  subst e
  obtain ⟨i, as3, e, hT3⟩ := pI_x hT2
  clear hT2
  subst e
  obtain ⟨w, as4, e, hT4⟩ := pI_x hT3
  clear hT3
  subst e
  obtain ⟨e, hT⟩ := hT4
  subst e
  replace hlo : lay o = (20, 0) := hlo
  have r_p : -2147483648 ≤ p ∧ p ≤ 2147483647 := has (vI p) (by simp)
  have r_i : -2147483648 ≤ i ∧ i ≤ 2147483647 := has (vI i) (by simp)
  have r_w : -2147483648 ≤ w ∧ w ≤ 2147483647 := has (vI w) (by simp)
  clear has
  replace hM : ∀ a i, -2147483648 ≤ σ a i ∧ σ a i ≤ 2147483647 := hM
  replace hT : TF_PR_group o p i w sz sl lay ρ σ τ k := hT
  unfold TF_PR_group at hT
  obtain ⟨U, len, st, hRP, h1, h0⟩ := hT
  obtain ⟨hR, hPR⟩ := (show RdP lay ρ σ τ o p U len st from hRP)
  have r0 : lay o = (20, 0) := hR.1
  refine ⟨Nat.le_of_ble_eq_true rfl, fun _ _ _ => False, fun _ _ _ => 0, 24, ?_, fun _ _ _ _ _ _ h => h.elim⟩
  by_cases hp : 0 ≤ p ∧ p < 3
  · have hpE : (0 ≤ p ∧ p < 3) = True := eq_true hp
    replace h1 := h1 hp
    obtain ⟨P, eP, -, hPc, hP0⟩ := hR.pic hp
    have hPe : o + 6 + 44 * p.toNat = P := eP.symm
    obtain ⟨hS, hV⟩ := hPR hp
    rw [hPe] at hV
    obtain ⟨hP, hKd, hTh, hRt, hHo, hWy, hSy, hLf, hTw⟩ := (show LPic lay ρ P from hPc)
    obtain ⟨w0, w1, w2, w3, w4, w5, w6, w7, w8, w9, w10, w11, w12, w13, w14⟩ := (show SW U len st from hS)
    obtain ⟨⟨v1, v2, v3, v4, v5⟩, v6, v7, v8, v9⟩ := (show PR σ τ P U len st from hV)
    have n12 := v3.1
    (obtain ⟨ph, pp0, pp1, pp2, pp3, pp4, pp5, pp6, pp7, pq0, pq1, pq2, pq3, pq4, pq5, pq6, pq7⟩ := (show LPicture lay ρ _ from hP); unfold wps; simp only [hpE, hPe, si_iload_n0, si_iload_n1, si_iload_n2, si_iload_n3, si_iload, si_lload_n0, si_lload_n1, si_lload_n2, si_lload_n3, si_lload, si_aload_n0, si_aload_n1, si_aload_n2, si_aload_n3, si_aload, si_istore_n0, si_istore_n1, si_istore_n2, si_istore_n3, si_istore, si_astore_n0, si_astore_n1, si_astore_n2, si_astore_n3, si_astore, si_lstore_n0, si_lstore_n1, si_lstore_n2, si_lstore_n3, si_lstore, si_iconst, si_bipush, si_sipush, si_ldc, si_ldc2_w, si_lconst0, si_lconst1, si_aconst_null, si_iinc, si_dup, si_dup2, si_iadd, si_isub, si_imul, si_idiv, si_irem, si_iand, si_ior, si_ishl, si_ishr, si_ladd, si_lmul, si_lor, si_lxor, si_lshl, si_lushr, si_lcmp, si_i2b, si_i2l, si_l2i, si_icmp_eq, si_icmp_ne, si_icmp_lt, si_icmp_ge, si_icmp_gt, si_icmp_le, si_if_eq, si_if_ne, si_if_lt, si_if_ge, si_if_gt, si_if_le, si_ifnull, si_ifnonnull, si_goto, si_tableswitch, si_lookupswitch, si_getfield, si_putfield, si_getstatic, si_iaload, si_baload, si_laload, si_aaload, si_iastore, si_bastore, si_lastore, si_aastore, si_arraylength, si_new, si_newarray, si_anewarray, si_invokevirtual, si_invokespecial, si_invokestatic, si_ireturn, si_lreturn, si_areturn, si_return_, pI_e, pL_e, pR_e, pA_r, pA_n, pN_n, pN_r, oI_e, oL_e, oA_r, oA_n, lget_e, lrm1_0, lrm2_0, lrm1_i, lrm1_r, lrm1_n, lrm1_l, lrm2_i, lrm2_r, lrm2_n, lrm2_l, popN_0, popN_s, acat_i, acat_l, acat_r, acat_n, stw_0, stw_s, psh_s, psh_n, wgf_r, wgf_i, wgf_b, wgf_n, wgf_m, wpf_i, wpf_r, wpf_b, wnew_e, callE_e, rbk_0, rbk_1, tsw_0, tsw_s, lsw_0, lsw_s, wp_s, wq_t, wq_f, oV_e, pick_0, pick_s, oZ_e, oY_e, r_PR_group_0, r_PR_group_1, r_PR_group_2, r_PR_group_5, r_PR_group_7, r_PR_group_9, r_PR_group_12, r_PR_group_13, r_PR_group_16, r_PR_group_18, r_PR_group_21, r_PR_group_23, r_PR_group_26, r_PR_group_27, r_PR_group_28, r_PR_group_31, xf_PR_group_71, xf_PR_group_137, xe_PR_group_576, xe_PR_group_180, xd_PR_group, xrb_PR_group, xin_PR_group, T_Twins_tell_e, TF_Twins_tell, T_PR_pictureAt_e, TF_PR_pictureAt, r0, ph, pp0, pp1, pp2, pp3, pp4, pp5, pp6, pp7, pq0, pq1, pq2, pq3, pq4, pq5, pq6, pq7, Nat.reduceAdd, Nat.reduceMul, Nat.reduceEqDiff, reduceIte, Int.reduceNeg, Int.reduceLE, Int.reduceLT, Int.reduceAdd, Int.reduceSub, Int.reduceToNat, true_and, and_true, inR_e, Nat.reduceLT, Nat.reduceLeDiff, reduceCtorEq, Nat.add_zero, Nat.zero_add, or_false, false_or, or_true, true_or, not_true_eq_false, not_false_eq_true, Classical.not_not, Nat.add_eq_zero_iff, and_false, false_and, Int.reduceEq, List.mem_cons, List.not_mem_nil, forall_eq_or_imp, forall_eq, false_implies, implies_true, forall_const, aargs_0, aargs_i, aargs_r, aargs_l, aargs_n, nfT_e, eq_self, and_self, Nat.le_refl, fu_s, fu_fu, iu_iu, iu_s, fu_am, fu_a0, fu_0a, iu_l, Nat.reduceBEq, Int.reduceBEq, T_objInit_e]; clear pp0 pp1 pp2 pp3 pp4 pp5 pp6 pp7)
    obtain ⟨t1, t2⟩ := v9.p v3 w9.1
    have tR := @cntP_R (gpP U st) (st 0 7).toNat
    rw [n12]
    have gi : 0 ≤ i ∧ i < σ (P + 40) 3 → ∃ x, (0 ≤ x ∧ x < st 0 7) ∧ σ (P + 40 + 1) i = x ∧ σ (P + 40 + 2) i = mmP U st x ∧ σ (P + 8 + 5) x = szP U st x ∧ σ (P + 8 + 1) x = numA U (st 2) x ∧ (0 ≤ szP U st x ∧ szP U st x ≤ 100000) ∧ (0 ≤ mmP U st x ∧ mmP U st x ≤ 600) ∧ ((w = 0 → k (some (vI (numA U (st 2) x))) (sz, sl, lay, ρ, σ, τ)) ∧ (w = 1 → k (some (vI (mmP U st x))) (sz, sl, lay, ρ, σ, τ)) ∧ (w = 2 → k (some (vI ((mmP U st x - 1) * szP U st x))) (sz, sl, lay, ρ, σ, τ))) := by
      intro hi
      obtain ⟨x, x1, x2, x3, x4, x5⟩ := t2 i hi
      obtain ⟨s1, s2, s3, -⟩ := w13 x x1
      have sz := szv_R w0 s2 s1.1 s3 (by omega)
      have mr := @cntP_R (fun y => rwP U st y ∧ LkP U st x y) (st 0 7).toNat
      have mr2 : 0 ≤ mmP U st x ∧ mmP U st x ≤ 600 := by unfold mmP; omega
      exact ⟨x, x1, x4, x5, (v3.2.2.2.2.2.1 x x1).1.2.2.2.2, (v3.2.2.2.2.2.1 x x1).1.1, sz, mr2, h1.1 x x1 x2 x3⟩
    refine ⟨hR, hTw, hTh, w9, by omega, fun hi => ?_, fun hi => ?_, fun hi => ?_, fun hi => ?_, fun hi => h1.2 (by rw [← t1]; omega)⟩
    · obtain ⟨x, x1, x2, x3, x4, x5, x6, x7, -⟩ := gi hi
      rw [x2, x3, x4]
      exact ⟨x1, x7, x6⟩
    · obtain ⟨x, x1, x2, x3, x4, x5, x6, x7, x8⟩ := gi (by omega)
      rw [x2, x5]
      exact x8.1 hi.2.2
    · obtain ⟨x, x1, x2, x3, x4, x5, x6, x7, x8⟩ := gi (by omega)
      rw [x3]
      exact x8.2.1 hi.2.2
    · obtain ⟨x, x1, x2, x3, x4, x5, x6, x7, x8⟩ := gi (by omega)
      rw [x3, x2, x4]
      exact x8.2.2 hi.2.2
  · have hpE : (0 ≤ p ∧ p < 3) = False := eq_false hp
    (unfold wps; simp only [hpE, si_iload_n0, si_iload_n1, si_iload_n2, si_iload_n3, si_iload, si_lload_n0, si_lload_n1, si_lload_n2, si_lload_n3, si_lload, si_aload_n0, si_aload_n1, si_aload_n2, si_aload_n3, si_aload, si_istore_n0, si_istore_n1, si_istore_n2, si_istore_n3, si_istore, si_astore_n0, si_astore_n1, si_astore_n2, si_astore_n3, si_astore, si_lstore_n0, si_lstore_n1, si_lstore_n2, si_lstore_n3, si_lstore, si_iconst, si_bipush, si_sipush, si_ldc, si_ldc2_w, si_lconst0, si_lconst1, si_aconst_null, si_iinc, si_dup, si_dup2, si_iadd, si_isub, si_imul, si_idiv, si_irem, si_iand, si_ior, si_ishl, si_ishr, si_ladd, si_lmul, si_lor, si_lxor, si_lshl, si_lushr, si_lcmp, si_i2b, si_i2l, si_l2i, si_icmp_eq, si_icmp_ne, si_icmp_lt, si_icmp_ge, si_icmp_gt, si_icmp_le, si_if_eq, si_if_ne, si_if_lt, si_if_ge, si_if_gt, si_if_le, si_ifnull, si_ifnonnull, si_goto, si_tableswitch, si_lookupswitch, si_getfield, si_putfield, si_getstatic, si_iaload, si_baload, si_laload, si_aaload, si_iastore, si_bastore, si_lastore, si_aastore, si_arraylength, si_new, si_newarray, si_anewarray, si_invokevirtual, si_invokespecial, si_invokestatic, si_ireturn, si_lreturn, si_areturn, si_return_, pI_e, pL_e, pR_e, pA_r, pA_n, pN_n, pN_r, oI_e, oL_e, oA_r, oA_n, lget_e, lrm1_0, lrm2_0, lrm1_i, lrm1_r, lrm1_n, lrm1_l, lrm2_i, lrm2_r, lrm2_n, lrm2_l, popN_0, popN_s, acat_i, acat_l, acat_r, acat_n, stw_0, stw_s, psh_s, psh_n, wgf_r, wgf_i, wgf_b, wgf_n, wgf_m, wpf_i, wpf_r, wpf_b, wnew_e, callE_e, rbk_0, rbk_1, tsw_0, tsw_s, lsw_0, lsw_s, wp_s, wq_t, wq_f, oV_e, pick_0, pick_s, oZ_e, oY_e, r_PR_group_0, r_PR_group_1, r_PR_group_2, r_PR_group_5, r_PR_group_7, r_PR_group_9, r_PR_group_12, r_PR_group_13, r_PR_group_16, r_PR_group_18, r_PR_group_21, r_PR_group_23, r_PR_group_26, r_PR_group_27, r_PR_group_28, r_PR_group_31, xf_PR_group_71, xf_PR_group_137, xe_PR_group_576, xe_PR_group_180, xd_PR_group, xrb_PR_group, xin_PR_group, T_Twins_tell_e, TF_Twins_tell, T_PR_pictureAt_e, TF_PR_pictureAt, r0, Nat.reduceAdd, Nat.reduceMul, Nat.reduceEqDiff, reduceIte, Int.reduceNeg, Int.reduceLE, Int.reduceLT, Int.reduceAdd, Int.reduceSub, Int.reduceToNat, true_and, and_true, inR_e, Nat.reduceLT, Nat.reduceLeDiff, reduceCtorEq, Nat.add_zero, Nat.zero_add, or_false, false_or, or_true, true_or, not_true_eq_false, not_false_eq_true, Classical.not_not, Nat.add_eq_zero_iff, and_false, false_and, Int.reduceEq, List.mem_cons, List.not_mem_nil, forall_eq_or_imp, forall_eq, false_implies, implies_true, forall_const, aargs_0, aargs_i, aargs_r, aargs_l, aargs_n, nfT_e, eq_self, and_self, Nat.le_refl, fu_s, fu_fu, iu_iu, iu_s, fu_am, fu_a0, fu_0a, iu_l, Nat.reduceBEq, Int.reduceBEq, T_objInit_e])
    exact ⟨hR, h0 hp⟩
theorem co_X10_588 : CallOK RX10 (.invokevirtual 147) (2, 0, 0, 0, T_Life_ranked) := call_V S_Life_ranked (by decide) (ci := 2) rfl (by decide +kernel) (by decide +kernel) (by decide +kernel) (by decide +kernel) (by decide +kernel) (by decide +kernel) T_Life_ranked_r
def TF_PR_top (o : Nat) (p : Int) (i : Int) (sz sl : Nat) (lay : Nat → Nat × Int) (ρ : Nat → Int → Nat) (σ : Nat → Int → Int) (τ : Nat → Int → Int64) (k : Option AV → Mm → Prop) : Prop := ∃ (U : Int → Int) (len : Int) (st : Nat → Int → Int), RdP lay ρ σ τ o p U len st ∧ (0 ≤ p ∧ p < 3 → (∀ x, (0 ≤ x ∧ x < st 0 7) → lvP U st x → cntP (fun y => lvP U st y ∧ Ahd (numA U (st 2)) (ktP U st) y x) (st 0 7).toNat = i → k (some (vI (numA U (st 2) x))) (sz, sl, lay, ρ, σ, τ)) ∧ (¬ (0 ≤ i ∧ i < cntP (fun y => lvP U st y) (st 0 7).toNat) → k (some (vI (-1))) (sz, sl, lay, ρ, σ, τ))) ∧ (¬ (0 ≤ p ∧ p < 3) → k (some (vI (-1))) (sz, sl, lay, ρ, σ, τ))
def T_PR_top : Tr := mkT 10 fun o as M k => pI as fun p as => pI as fun i as => as = [] ∧ TF_PR_top o p i M.1 M.2.1 M.2.2.1 M.2.2.2.1 M.2.2.2.2.1 M.2.2.2.2.2 k
theorem T_PR_top_e {o : Nat} {p : Int} {i : Int} {sz sl : Nat} {lay : Nat → Nat × Int} {ρ : Nat → Int → Nat} {σ : Nat → Int → Int} {τ : Nat → Int → Int64} {k : Option AV → Mm → Prop} : T_PR_top [vR o, vI p, vI i] (sz, sl, lay, ρ, σ, τ) k = (lay o = (20, 0) ∧ TF_PR_top o p i sz sl lay ρ σ τ k) := by simp [T_PR_top, mkT_e, pI_e, pR_e, pL_e]
theorem T_PR_top_r (as : List AV) (M : Mm) (k : Option AV → Mm → Prop) (h : T_PR_top as M k) : ∃ b As, as = vR b :: As ∧ M.2.2.1 b = (10 + 10, 0) := by
  obtain ⟨b, As, h1, h2, -⟩ := mkT_r h
  exact ⟨b, As, h1, h2⟩
def tb_PR_top : List (Nat × Option (List Nat) × Instr × List Nat) := [(0, none, .aload_n 0, []), (1, none, .iload_n 1, []), (2, none, .invokevirtual 45, []), (5, none, .astore_n 3, []), (6, none, .aload_n 3, []), (7, none, .ifnonnull 7, [14]), (10, none, .iconst (-1), []), (11, none, .goto 18, [29]), (14, none, .aload_n 3, []), (15, none, .getfield 71, []), (18, none, .aload_n 3, []), (19, none, .getfield 104, []), (22, none, .iload_n 2, []), (23, none, .invokevirtual 147, []), (26, none, .invokevirtual 75, []), (29, none, .ireturn, [])]
def P_PR_top : Nat → Option (List Nat) × Instr × List Nat := plk tb_PR_top
theorem r_PR_top_0 : P_PR_top 0 = (none, .aload_n 0, []) := by decide +kernel
theorem r_PR_top_1 : P_PR_top 1 = (none, .iload_n 1, []) := by decide +kernel
theorem r_PR_top_2 : P_PR_top 2 = (none, .invokevirtual 45, []) := by decide +kernel
theorem r_PR_top_5 : P_PR_top 5 = (none, .astore_n 3, []) := by decide +kernel
theorem r_PR_top_6 : P_PR_top 6 = (none, .aload_n 3, []) := by decide +kernel
theorem r_PR_top_7 : P_PR_top 7 = (none, .ifnonnull 7, [14]) := by decide +kernel
theorem r_PR_top_10 : P_PR_top 10 = (none, .iconst (-1), []) := by decide +kernel
theorem r_PR_top_11 : P_PR_top 11 = (none, .goto 18, [29]) := by decide +kernel
theorem r_PR_top_14 : P_PR_top 14 = (none, .aload_n 3, []) := by decide +kernel
theorem r_PR_top_15 : P_PR_top 15 = (none, .getfield 71, []) := by decide +kernel
theorem r_PR_top_18 : P_PR_top 18 = (none, .aload_n 3, []) := by decide +kernel
theorem r_PR_top_19 : P_PR_top 19 = (none, .getfield 104, []) := by decide +kernel
theorem r_PR_top_22 : P_PR_top 22 = (none, .iload_n 2, []) := by decide +kernel
theorem r_PR_top_23 : P_PR_top 23 = (none, .invokevirtual 147, []) := by decide +kernel
theorem r_PR_top_26 : P_PR_top 26 = (none, .invokevirtual 75, []) := by decide +kernel
theorem r_PR_top_29 : P_PR_top 29 = (none, .ireturn, []) := by decide +kernel
def E_PR_top : List (Nat × Ent) := [(588, (2, 0, 0, 0, T_Life_ranked)), (180, (2, 0, 0, 0, T_PR_pictureAt)), (300, (2, 1, 0, 0, T_Things_numberOf))]
def X_PR_top : Cx := (llk (0, 0, 9) ftX10, llk 99 ntX10, llk none kcX10, llk none klX10, llk dEnt E_PR_top, 2, 0, false)
theorem xok_PR_top : Xok RX10 X_PR_top := xok_of ftX10_ok ntX10_ok kcX10_ok klX10_ok (E := E_PR_top) (List.forall_mem_cons.mpr ⟨co_X10_588, List.forall_mem_cons.mpr ⟨co_X10_180, List.forall_mem_cons.mpr ⟨co_X10_300, fun _ h => absurd h List.not_mem_nil⟩⟩⟩)
theorem xf_PR_top_71 : xfl X_PR_top 71 = (3, 1, 3) := by decide +kernel
theorem xf_PR_top_104 : xfl X_PR_top 104 = (3, 6, 3) := by decide +kernel
theorem xe_PR_top_588 : xE X_PR_top (4 * 147 + 0) = (2, 0, 0, 0, T_Life_ranked) := rfl
theorem xe_PR_top_180 : xE X_PR_top (4 * 45 + 0) = (2, 0, 0, 0, T_PR_pictureAt) := rfl
theorem xe_PR_top_300 : xE X_PR_top (4 * 75 + 0) = (2, 1, 0, 0, T_Things_numberOf) := rfl
theorem xd_PR_top : xd X_PR_top = 2 := rfl
theorem xrb_PR_top : xrb X_PR_top = 0 := rfl
theorem xin_PR_top : xin X_PR_top = false := rfl
set_option maxHeartbeats 4000000 in
set_option maxRecDepth 100000 in
theorem S_PR_top : Snd yX10_top cX10_top 4 (some .int) T_PR_top 2 0 0 := by
  refine snd_of (X := X_PR_top) (P := P_PR_top) (tb := tb_PR_top) (own := RX10) (by decide) rfl rfl (by decide +kernel) xok_PR_top rfl rk0 (fun h => by first | rfl | cases h) ?_
  intro as M k has hM hT0
  obtain ⟨sz, sl, lay, ρ, σ, τ⟩ := M
  obtain ⟨o, as1, e, hlo, hT1⟩ := mkT_r hT0
  clear hT0
  subst e
  obtain ⟨p, as2, e, hT2⟩ := pI_x hT1
  clear hT1
  subst e
  obtain ⟨i, as3, e, hT3⟩ := pI_x hT2
  clear hT2
  subst e
  obtain ⟨e, hT⟩ := hT3
  subst e
  replace hlo : lay o = (20, 0) := hlo
  have r_p : -2147483648 ≤ p ∧ p ≤ 2147483647 := has (vI p) (by simp)
  have r_i : -2147483648 ≤ i ∧ i ≤ 2147483647 := has (vI i) (by simp)
  clear has
  replace hM : ∀ a i, -2147483648 ≤ σ a i ∧ σ a i ≤ 2147483647 := hM
  replace hT : TF_PR_top o p i sz sl lay ρ σ τ k := hT
  unfold TF_PR_top at hT
  obtain ⟨U, len, st, hRP, h1, h0⟩ := hT
  obtain ⟨hR, hPR⟩ := (show RdP lay ρ σ τ o p U len st from hRP)
  have r0 : lay o = (20, 0) := hR.1
  refine ⟨Nat.le_of_ble_eq_true rfl, fun _ _ _ => False, fun _ _ _ => 0, 24, ?_, fun _ _ _ _ _ _ h => h.elim⟩
  by_cases hp : 0 ≤ p ∧ p < 3
  · have hpE : (0 ≤ p ∧ p < 3) = True := eq_true hp
    replace h1 := h1 hp
    obtain ⟨P, eP, -, hPc, hP0⟩ := hR.pic hp
    have hPe : o + 6 + 44 * p.toNat = P := eP.symm
    obtain ⟨hS, hV⟩ := hPR hp
    rw [hPe] at hV
    obtain ⟨hP, hKd, hTh, hRt, hHo, hWy, hSy, hLf, hTw⟩ := (show LPic lay ρ P from hPc)
    obtain ⟨w0, w1, w2, w3, w4, w5, w6, w7, w8, w9, w10, w11, w12, w13, w14⟩ := (show SW U len st from hS)
    obtain ⟨⟨v1, v2, v3, v4, v5⟩, v6, v7, v8, v9⟩ := (show PR σ τ P U len st from hV)
    have n12 := v3.1
    (obtain ⟨ph, pp0, pp1, pp2, pp3, pp4, pp5, pp6, pp7, pq0, pq1, pq2, pq3, pq4, pq5, pq6, pq7⟩ := (show LPicture lay ρ _ from hP); unfold wps; simp only [hpE, hPe, si_iload_n0, si_iload_n1, si_iload_n2, si_iload_n3, si_iload, si_lload_n0, si_lload_n1, si_lload_n2, si_lload_n3, si_lload, si_aload_n0, si_aload_n1, si_aload_n2, si_aload_n3, si_aload, si_istore_n0, si_istore_n1, si_istore_n2, si_istore_n3, si_istore, si_astore_n0, si_astore_n1, si_astore_n2, si_astore_n3, si_astore, si_lstore_n0, si_lstore_n1, si_lstore_n2, si_lstore_n3, si_lstore, si_iconst, si_bipush, si_sipush, si_ldc, si_ldc2_w, si_lconst0, si_lconst1, si_aconst_null, si_iinc, si_dup, si_dup2, si_iadd, si_isub, si_imul, si_idiv, si_irem, si_iand, si_ior, si_ishl, si_ishr, si_ladd, si_lmul, si_lor, si_lxor, si_lshl, si_lushr, si_lcmp, si_i2b, si_i2l, si_l2i, si_icmp_eq, si_icmp_ne, si_icmp_lt, si_icmp_ge, si_icmp_gt, si_icmp_le, si_if_eq, si_if_ne, si_if_lt, si_if_ge, si_if_gt, si_if_le, si_ifnull, si_ifnonnull, si_goto, si_tableswitch, si_lookupswitch, si_getfield, si_putfield, si_getstatic, si_iaload, si_baload, si_laload, si_aaload, si_iastore, si_bastore, si_lastore, si_aastore, si_arraylength, si_new, si_newarray, si_anewarray, si_invokevirtual, si_invokespecial, si_invokestatic, si_ireturn, si_lreturn, si_areturn, si_return_, pI_e, pL_e, pR_e, pA_r, pA_n, pN_n, pN_r, oI_e, oL_e, oA_r, oA_n, lget_e, lrm1_0, lrm2_0, lrm1_i, lrm1_r, lrm1_n, lrm1_l, lrm2_i, lrm2_r, lrm2_n, lrm2_l, popN_0, popN_s, acat_i, acat_l, acat_r, acat_n, stw_0, stw_s, psh_s, psh_n, wgf_r, wgf_i, wgf_b, wgf_n, wgf_m, wpf_i, wpf_r, wpf_b, wnew_e, callE_e, rbk_0, rbk_1, tsw_0, tsw_s, lsw_0, lsw_s, wp_s, wq_t, wq_f, oV_e, pick_0, pick_s, oZ_e, oY_e, r_PR_top_0, r_PR_top_1, r_PR_top_2, r_PR_top_5, r_PR_top_6, r_PR_top_7, r_PR_top_10, r_PR_top_11, r_PR_top_14, r_PR_top_15, r_PR_top_18, r_PR_top_19, r_PR_top_22, r_PR_top_23, r_PR_top_26, r_PR_top_29, xf_PR_top_71, xf_PR_top_104, xe_PR_top_588, xe_PR_top_180, xe_PR_top_300, xd_PR_top, xrb_PR_top, xin_PR_top, T_Life_ranked_e, TF_Life_ranked, T_PR_pictureAt_e, TF_PR_pictureAt, T_Things_numberOf_e, TF_Things_numberOf, r0, ph, pp0, pp1, pp2, pp3, pp4, pp5, pp6, pp7, pq0, pq1, pq2, pq3, pq4, pq5, pq6, pq7, Nat.reduceAdd, Nat.reduceMul, Nat.reduceEqDiff, reduceIte, Int.reduceNeg, Int.reduceLE, Int.reduceLT, Int.reduceAdd, Int.reduceSub, Int.reduceToNat, true_and, and_true, inR_e, Nat.reduceLT, Nat.reduceLeDiff, reduceCtorEq, Nat.add_zero, Nat.zero_add, or_false, false_or, or_true, true_or, not_true_eq_false, not_false_eq_true, Classical.not_not, Nat.add_eq_zero_iff, and_false, false_and, Int.reduceEq, List.mem_cons, List.not_mem_nil, forall_eq_or_imp, forall_eq, false_implies, implies_true, forall_const, aargs_0, aargs_i, aargs_r, aargs_l, aargs_n, nfT_e, eq_self, and_self, Nat.le_refl, fu_s, fu_fu, iu_iu, iu_s, fu_am, fu_a0, fu_0a, iu_l, Nat.reduceBEq, Int.reduceBEq, T_objInit_e]; clear pp0 pp1 pp2 pp3 pp4 pp5 pp6 pp7)
    obtain ⟨t1, t2⟩ := hV.rank w9
    have tR := @cntP_R (fun y => lvP U st y) (st 0 7).toNat
    rw [n12]
    refine ⟨hR, hLf, by omega, fun hi => ⟨hTh, w9, fun z => ?_, fun z => absurd (t2 i hi).1 z⟩, fun hi => ⟨hTh, w9, h1.2 (by rw [← t1]; exact hi)⟩⟩
    obtain ⟨x1, x2, x3⟩ := t2 i hi
    rw [(v3.2.2.2.2.2.1 _ x1).1.1]
    exact h1.1 _ x1 x2 x3
  · have hpE : (0 ≤ p ∧ p < 3) = False := eq_false hp
    (unfold wps; simp only [hpE, si_iload_n0, si_iload_n1, si_iload_n2, si_iload_n3, si_iload, si_lload_n0, si_lload_n1, si_lload_n2, si_lload_n3, si_lload, si_aload_n0, si_aload_n1, si_aload_n2, si_aload_n3, si_aload, si_istore_n0, si_istore_n1, si_istore_n2, si_istore_n3, si_istore, si_astore_n0, si_astore_n1, si_astore_n2, si_astore_n3, si_astore, si_lstore_n0, si_lstore_n1, si_lstore_n2, si_lstore_n3, si_lstore, si_iconst, si_bipush, si_sipush, si_ldc, si_ldc2_w, si_lconst0, si_lconst1, si_aconst_null, si_iinc, si_dup, si_dup2, si_iadd, si_isub, si_imul, si_idiv, si_irem, si_iand, si_ior, si_ishl, si_ishr, si_ladd, si_lmul, si_lor, si_lxor, si_lshl, si_lushr, si_lcmp, si_i2b, si_i2l, si_l2i, si_icmp_eq, si_icmp_ne, si_icmp_lt, si_icmp_ge, si_icmp_gt, si_icmp_le, si_if_eq, si_if_ne, si_if_lt, si_if_ge, si_if_gt, si_if_le, si_ifnull, si_ifnonnull, si_goto, si_tableswitch, si_lookupswitch, si_getfield, si_putfield, si_getstatic, si_iaload, si_baload, si_laload, si_aaload, si_iastore, si_bastore, si_lastore, si_aastore, si_arraylength, si_new, si_newarray, si_anewarray, si_invokevirtual, si_invokespecial, si_invokestatic, si_ireturn, si_lreturn, si_areturn, si_return_, pI_e, pL_e, pR_e, pA_r, pA_n, pN_n, pN_r, oI_e, oL_e, oA_r, oA_n, lget_e, lrm1_0, lrm2_0, lrm1_i, lrm1_r, lrm1_n, lrm1_l, lrm2_i, lrm2_r, lrm2_n, lrm2_l, popN_0, popN_s, acat_i, acat_l, acat_r, acat_n, stw_0, stw_s, psh_s, psh_n, wgf_r, wgf_i, wgf_b, wgf_n, wgf_m, wpf_i, wpf_r, wpf_b, wnew_e, callE_e, rbk_0, rbk_1, tsw_0, tsw_s, lsw_0, lsw_s, wp_s, wq_t, wq_f, oV_e, pick_0, pick_s, oZ_e, oY_e, r_PR_top_0, r_PR_top_1, r_PR_top_2, r_PR_top_5, r_PR_top_6, r_PR_top_7, r_PR_top_10, r_PR_top_11, r_PR_top_14, r_PR_top_15, r_PR_top_18, r_PR_top_19, r_PR_top_22, r_PR_top_23, r_PR_top_26, r_PR_top_29, xf_PR_top_71, xf_PR_top_104, xe_PR_top_588, xe_PR_top_180, xe_PR_top_300, xd_PR_top, xrb_PR_top, xin_PR_top, T_Life_ranked_e, TF_Life_ranked, T_PR_pictureAt_e, TF_PR_pictureAt, T_Things_numberOf_e, TF_Things_numberOf, r0, Nat.reduceAdd, Nat.reduceMul, Nat.reduceEqDiff, reduceIte, Int.reduceNeg, Int.reduceLE, Int.reduceLT, Int.reduceAdd, Int.reduceSub, Int.reduceToNat, true_and, and_true, inR_e, Nat.reduceLT, Nat.reduceLeDiff, reduceCtorEq, Nat.add_zero, Nat.zero_add, or_false, false_or, or_true, true_or, not_true_eq_false, not_false_eq_true, Classical.not_not, Nat.add_eq_zero_iff, and_false, false_and, Int.reduceEq, List.mem_cons, List.not_mem_nil, forall_eq_or_imp, forall_eq, false_implies, implies_true, forall_const, aargs_0, aargs_i, aargs_r, aargs_l, aargs_n, nfT_e, eq_self, and_self, Nat.le_refl, fu_s, fu_fu, iu_iu, iu_s, fu_am, fu_a0, fu_0a, iu_l, Nat.reduceBEq, Int.reduceBEq, T_objInit_e])
    exact ⟨hR, h0 hp⟩
theorem co_X10_400 : CallOK RX10 (.invokevirtual 100) (3, 1, 0, 0, T_Kinds_descends) := call_V S_Kinds_descends (by decide) (ci := 1) rfl (by decide +kernel) (by decide +kernel) (by decide +kernel) (by decide +kernel) (by decide +kernel) (by decide +kernel) T_Kinds_descends_r
theorem co_X10_380 : CallOK RX10 (.invokevirtual 95) (2, 0, 0, 0, T_Kinds_knows) := call_V S_Kinds_knows (by decide) (ci := 1) rfl (by decide +kernel) (by decide +kernel) (by decide +kernel) (by decide +kernel) (by decide +kernel) (by decide +kernel) T_Kinds_knows_r
def TF_PR_under (o : Nat) (p : Int) (a : Int) (b : Int) (sz sl : Nat) (lay : Nat → Nat × Int) (ρ : Nat → Int → Nat) (σ : Nat → Int → Int) (τ : Nat → Int → Int64) (k : Option AV → Mm → Prop) : Prop := ∃ (U : Int → Int) (len : Int) (st : Nat → Int → Int), RdP lay ρ σ τ o p U len st ∧ (0 ≤ p ∧ p < 3 → (((0 ≤ a ∧ a < 40) ∧ 0 ≤ st 1 a) → ((0 ≤ b ∧ b < 40) ∧ 0 ≤ st 1 b) → (b ∈ ch U (st 1) a → k (some (vI (1))) (sz, sl, lay, ρ, σ, τ)) ∧ (¬ b ∈ ch U (st 1) a → k (some (vI (0))) (sz, sl, lay, ρ, σ, τ))) ∧ (¬ (((0 ≤ a ∧ a < 40) ∧ 0 ≤ st 1 a) ∧ ((0 ≤ b ∧ b < 40) ∧ 0 ≤ st 1 b)) → k (some (vI (-1))) (sz, sl, lay, ρ, σ, τ))) ∧ (¬ (0 ≤ p ∧ p < 3) → k (some (vI (-1))) (sz, sl, lay, ρ, σ, τ))
def T_PR_under : Tr := mkT 10 fun o as M k => pI as fun p as => pI as fun a as => pI as fun b as => as = [] ∧ TF_PR_under o p a b M.1 M.2.1 M.2.2.1 M.2.2.2.1 M.2.2.2.2.1 M.2.2.2.2.2 k
theorem T_PR_under_e {o : Nat} {p : Int} {a : Int} {b : Int} {sz sl : Nat} {lay : Nat → Nat × Int} {ρ : Nat → Int → Nat} {σ : Nat → Int → Int} {τ : Nat → Int → Int64} {k : Option AV → Mm → Prop} : T_PR_under [vR o, vI p, vI a, vI b] (sz, sl, lay, ρ, σ, τ) k = (lay o = (20, 0) ∧ TF_PR_under o p a b sz sl lay ρ σ τ k) := by simp [T_PR_under, mkT_e, pI_e, pR_e, pL_e]
theorem T_PR_under_r (as : List AV) (M : Mm) (k : Option AV → Mm → Prop) (h : T_PR_under as M k) : ∃ b As, as = vR b :: As ∧ M.2.2.1 b = (10 + 10, 0) := by
  obtain ⟨b, As, h1, h2, -⟩ := mkT_r h
  exact ⟨b, As, h1, h2⟩
def tb_PR_under : List (Nat × Option (List Nat) × Instr × List Nat) := [(0, none, .aload_n 0, []), (1, none, .iload_n 1, []), (2, none, .invokevirtual 45, []), (5, none, .astore 4, []), (7, none, .aload 4, []), (9, none, .ifnull 27, [36]), (12, none, .aload 4, []), (14, none, .getfield 91, []), (17, none, .iload_n 2, []), (18, none, .invokevirtual 95, []), (21, none, .ifCond .eq 15, [36]), (24, none, .aload 4, []), (26, none, .getfield 91, []), (29, none, .iload_n 3, []), (30, none, .invokevirtual 95, []), (33, none, .ifCond .ne 5, [38]), (36, none, .iconst (-1), []), (37, none, .ireturn, []), (38, none, .aload 4, []), (40, none, .getfield 91, []), (43, none, .iload_n 2, []), (44, none, .iload_n 3, []), (45, none, .invokevirtual 100, []), (48, none, .ifCond .eq 7, [55]), (51, none, .iconst 1, []), (52, none, .goto 4, [56]), (55, none, .iconst 0, []), (56, none, .ireturn, [])]
def P_PR_under : Nat → Option (List Nat) × Instr × List Nat := plk tb_PR_under
theorem r_PR_under_0 : P_PR_under 0 = (none, .aload_n 0, []) := by decide +kernel
theorem r_PR_under_1 : P_PR_under 1 = (none, .iload_n 1, []) := by decide +kernel
theorem r_PR_under_2 : P_PR_under 2 = (none, .invokevirtual 45, []) := by decide +kernel
theorem r_PR_under_5 : P_PR_under 5 = (none, .astore 4, []) := by decide +kernel
theorem r_PR_under_7 : P_PR_under 7 = (none, .aload 4, []) := by decide +kernel
theorem r_PR_under_9 : P_PR_under 9 = (none, .ifnull 27, [36]) := by decide +kernel
theorem r_PR_under_12 : P_PR_under 12 = (none, .aload 4, []) := by decide +kernel
theorem r_PR_under_14 : P_PR_under 14 = (none, .getfield 91, []) := by decide +kernel
theorem r_PR_under_17 : P_PR_under 17 = (none, .iload_n 2, []) := by decide +kernel
theorem r_PR_under_18 : P_PR_under 18 = (none, .invokevirtual 95, []) := by decide +kernel
theorem r_PR_under_21 : P_PR_under 21 = (none, .ifCond .eq 15, [36]) := by decide +kernel
theorem r_PR_under_24 : P_PR_under 24 = (none, .aload 4, []) := by decide +kernel
theorem r_PR_under_26 : P_PR_under 26 = (none, .getfield 91, []) := by decide +kernel
theorem r_PR_under_29 : P_PR_under 29 = (none, .iload_n 3, []) := by decide +kernel
theorem r_PR_under_30 : P_PR_under 30 = (none, .invokevirtual 95, []) := by decide +kernel
theorem r_PR_under_33 : P_PR_under 33 = (none, .ifCond .ne 5, [38]) := by decide +kernel
theorem r_PR_under_36 : P_PR_under 36 = (none, .iconst (-1), []) := by decide +kernel
theorem r_PR_under_37 : P_PR_under 37 = (none, .ireturn, []) := by decide +kernel
theorem r_PR_under_38 : P_PR_under 38 = (none, .aload 4, []) := by decide +kernel
theorem r_PR_under_40 : P_PR_under 40 = (none, .getfield 91, []) := by decide +kernel
theorem r_PR_under_43 : P_PR_under 43 = (none, .iload_n 2, []) := by decide +kernel
theorem r_PR_under_44 : P_PR_under 44 = (none, .iload_n 3, []) := by decide +kernel
theorem r_PR_under_45 : P_PR_under 45 = (none, .invokevirtual 100, []) := by decide +kernel
theorem r_PR_under_48 : P_PR_under 48 = (none, .ifCond .eq 7, [55]) := by decide +kernel
theorem r_PR_under_51 : P_PR_under 51 = (none, .iconst 1, []) := by decide +kernel
theorem r_PR_under_52 : P_PR_under 52 = (none, .goto 4, [56]) := by decide +kernel
theorem r_PR_under_55 : P_PR_under 55 = (none, .iconst 0, []) := by decide +kernel
theorem r_PR_under_56 : P_PR_under 56 = (none, .ireturn, []) := by decide +kernel
def E_PR_under : List (Nat × Ent) := [(400, (3, 1, 0, 0, T_Kinds_descends)), (180, (2, 0, 0, 0, T_PR_pictureAt)), (380, (2, 0, 0, 0, T_Kinds_knows))]
def X_PR_under : Cx := (llk (0, 0, 9) ftX10, llk 99 ntX10, llk none kcX10, llk none klX10, llk dEnt E_PR_under, 2, 0, false)
theorem xok_PR_under : Xok RX10 X_PR_under := xok_of ftX10_ok ntX10_ok kcX10_ok klX10_ok (E := E_PR_under) (List.forall_mem_cons.mpr ⟨co_X10_400, List.forall_mem_cons.mpr ⟨co_X10_180, List.forall_mem_cons.mpr ⟨co_X10_380, fun _ h => absurd h List.not_mem_nil⟩⟩⟩)
theorem xf_PR_under_91 : xfl X_PR_under 91 = (3, 0, 3) := by decide +kernel
theorem xe_PR_under_400 : xE X_PR_under (4 * 100 + 0) = (3, 1, 0, 0, T_Kinds_descends) := rfl
theorem xe_PR_under_180 : xE X_PR_under (4 * 45 + 0) = (2, 0, 0, 0, T_PR_pictureAt) := rfl
theorem xe_PR_under_380 : xE X_PR_under (4 * 95 + 0) = (2, 0, 0, 0, T_Kinds_knows) := rfl
theorem xd_PR_under : xd X_PR_under = 2 := rfl
theorem xrb_PR_under : xrb X_PR_under = 0 := rfl
theorem xin_PR_under : xin X_PR_under = false := rfl
set_option maxHeartbeats 4000000 in
set_option maxRecDepth 100000 in
theorem S_PR_under : Snd yX10_under cX10_under 5 (some .int) T_PR_under 2 0 0 := by
  refine snd_of (X := X_PR_under) (P := P_PR_under) (tb := tb_PR_under) (own := RX10) (by decide) rfl rfl (by decide +kernel) xok_PR_under rfl rk0 (fun h => by first | rfl | cases h) ?_
  intro as M k has hM hT0
  obtain ⟨sz, sl, lay, ρ, σ, τ⟩ := M
  obtain ⟨o, as1, e, hlo, hT1⟩ := mkT_r hT0
  clear hT0
  subst e
  obtain ⟨p, as2, e, hT2⟩ := pI_x hT1
  clear hT1
  subst e
  obtain ⟨a, as3, e, hT3⟩ := pI_x hT2
  clear hT2
  subst e
  obtain ⟨b, as4, e, hT4⟩ := pI_x hT3
  clear hT3
  subst e
  obtain ⟨e, hT⟩ := hT4
  subst e
  replace hlo : lay o = (20, 0) := hlo
  have r_p : -2147483648 ≤ p ∧ p ≤ 2147483647 := has (vI p) (by simp)
  have r_a : -2147483648 ≤ a ∧ a ≤ 2147483647 := has (vI a) (by simp)
  have r_b : -2147483648 ≤ b ∧ b ≤ 2147483647 := has (vI b) (by simp)
  clear has
  replace hM : ∀ a i, -2147483648 ≤ σ a i ∧ σ a i ≤ 2147483647 := hM
  replace hT : TF_PR_under o p a b sz sl lay ρ σ τ k := hT
  unfold TF_PR_under at hT
  obtain ⟨U, len, st, hRP, h1, h0⟩ := hT
  obtain ⟨hR, hPR⟩ := (show RdP lay ρ σ τ o p U len st from hRP)
  have r0 : lay o = (20, 0) := hR.1
  refine ⟨Nat.le_of_ble_eq_true rfl, fun _ _ _ => False, fun _ _ _ => 0, 36, ?_, fun _ _ _ _ _ _ h => h.elim⟩
  by_cases hp : 0 ≤ p ∧ p < 3
  · have hpE : (0 ≤ p ∧ p < 3) = True := eq_true hp
    replace h1 := h1 hp
    obtain ⟨P, eP, -, hPc, hP0⟩ := hR.pic hp
    have hPe : o + 6 + 44 * p.toNat = P := eP.symm
    obtain ⟨hS, hV⟩ := hPR hp
    rw [hPe] at hV
    obtain ⟨hP, hKd, hTh, hRt, hHo, hWy, hSy, hLf, hTw⟩ := (show LPic lay ρ P from hPc)
    obtain ⟨w0, w1, w2, w3, w4, w5, w6, w7, w8, w9, w10, w11, w12, w13, w14⟩ := (show SW U len st from hS)
    obtain ⟨⟨v1, v2, v3, v4, v5⟩, v6, v7, v8, v9⟩ := (show PR σ τ P U len st from hV)
    have n12 := v3.1
    (obtain ⟨ph, pp0, pp1, pp2, pp3, pp4, pp5, pp6, pp7, pq0, pq1, pq2, pq3, pq4, pq5, pq6, pq7⟩ := (show LPicture lay ρ _ from hP); unfold wps; simp only [hpE, hPe, si_iload_n0, si_iload_n1, si_iload_n2, si_iload_n3, si_iload, si_lload_n0, si_lload_n1, si_lload_n2, si_lload_n3, si_lload, si_aload_n0, si_aload_n1, si_aload_n2, si_aload_n3, si_aload, si_istore_n0, si_istore_n1, si_istore_n2, si_istore_n3, si_istore, si_astore_n0, si_astore_n1, si_astore_n2, si_astore_n3, si_astore, si_lstore_n0, si_lstore_n1, si_lstore_n2, si_lstore_n3, si_lstore, si_iconst, si_bipush, si_sipush, si_ldc, si_ldc2_w, si_lconst0, si_lconst1, si_aconst_null, si_iinc, si_dup, si_dup2, si_iadd, si_isub, si_imul, si_idiv, si_irem, si_iand, si_ior, si_ishl, si_ishr, si_ladd, si_lmul, si_lor, si_lxor, si_lshl, si_lushr, si_lcmp, si_i2b, si_i2l, si_l2i, si_icmp_eq, si_icmp_ne, si_icmp_lt, si_icmp_ge, si_icmp_gt, si_icmp_le, si_if_eq, si_if_ne, si_if_lt, si_if_ge, si_if_gt, si_if_le, si_ifnull, si_ifnonnull, si_goto, si_tableswitch, si_lookupswitch, si_getfield, si_putfield, si_getstatic, si_iaload, si_baload, si_laload, si_aaload, si_iastore, si_bastore, si_lastore, si_aastore, si_arraylength, si_new, si_newarray, si_anewarray, si_invokevirtual, si_invokespecial, si_invokestatic, si_ireturn, si_lreturn, si_areturn, si_return_, pI_e, pL_e, pR_e, pA_r, pA_n, pN_n, pN_r, oI_e, oL_e, oA_r, oA_n, lget_e, lrm1_0, lrm2_0, lrm1_i, lrm1_r, lrm1_n, lrm1_l, lrm2_i, lrm2_r, lrm2_n, lrm2_l, popN_0, popN_s, acat_i, acat_l, acat_r, acat_n, stw_0, stw_s, psh_s, psh_n, wgf_r, wgf_i, wgf_b, wgf_n, wgf_m, wpf_i, wpf_r, wpf_b, wnew_e, callE_e, rbk_0, rbk_1, tsw_0, tsw_s, lsw_0, lsw_s, wp_s, wq_t, wq_f, oV_e, pick_0, pick_s, oZ_e, oY_e, r_PR_under_0, r_PR_under_1, r_PR_under_2, r_PR_under_5, r_PR_under_7, r_PR_under_9, r_PR_under_12, r_PR_under_14, r_PR_under_17, r_PR_under_18, r_PR_under_21, r_PR_under_24, r_PR_under_26, r_PR_under_29, r_PR_under_30, r_PR_under_33, r_PR_under_36, r_PR_under_37, r_PR_under_38, r_PR_under_40, r_PR_under_43, r_PR_under_44, r_PR_under_45, r_PR_under_48, r_PR_under_51, r_PR_under_52, r_PR_under_55, r_PR_under_56, xf_PR_under_91, xe_PR_under_400, xe_PR_under_180, xe_PR_under_380, xd_PR_under, xrb_PR_under, xin_PR_under, T_Kinds_descends_e, TF_Kinds_descends, T_PR_pictureAt_e, TF_PR_pictureAt, T_Kinds_knows_e, TF_Kinds_knows, r0, ph, pp0, pp1, pp2, pp3, pp4, pp5, pp6, pp7, pq0, pq1, pq2, pq3, pq4, pq5, pq6, pq7, Nat.reduceAdd, Nat.reduceMul, Nat.reduceEqDiff, reduceIte, Int.reduceNeg, Int.reduceLE, Int.reduceLT, Int.reduceAdd, Int.reduceSub, Int.reduceToNat, true_and, and_true, inR_e, Nat.reduceLT, Nat.reduceLeDiff, reduceCtorEq, Nat.add_zero, Nat.zero_add, or_false, false_or, or_true, true_or, not_true_eq_false, not_false_eq_true, Classical.not_not, Nat.add_eq_zero_iff, and_false, false_and, Int.reduceEq, List.mem_cons, List.not_mem_nil, forall_eq_or_imp, forall_eq, false_implies, implies_true, forall_const, aargs_0, aargs_i, aargs_r, aargs_l, aargs_n, nfT_e, eq_self, and_self, Nat.le_refl, fu_s, fu_fu, iu_iu, iu_s, fu_am, fu_a0, fu_0a, iu_l, Nat.reduceBEq, Int.reduceBEq, T_objInit_e]; clear pp0 pp1 pp2 pp3 pp4 pp5 pp6 pp7)
    have ka := v2.1.kno (k := a)
    have kb := v2.1.kno (k := b)
    refine ⟨hR, hKd, fun y => ⟨hKd, fun z => ⟨hKd, ?_⟩, fun z => h1.2 (fun x => z (kb.mpr x.2))⟩, fun y => h1.2 (fun x => y (ka.mpr x.1))⟩
    have ya := ka.mp y
    have h2 := h1.1 ya (kb.mp z)
    have kd := kDesc_e w0 v2.1 (y := b) 40 a (Or.inr ya) (ch_len w0 (Or.inr ya))
    rw [if_neg (by omega)] at kd
    by_cases g : b ∈ ch U (st 1) a
    · rw [if_pos (kd.mpr g)]
      exact ⟨fun x => by omega, fun _ => h2.1 g⟩
    · rw [if_neg (fun x => g (kd.mp x))]
      exact ⟨fun _ => h2.2 g, fun x => absurd rfl x⟩
  · have hpE : (0 ≤ p ∧ p < 3) = False := eq_false hp
    (unfold wps; simp only [hpE, si_iload_n0, si_iload_n1, si_iload_n2, si_iload_n3, si_iload, si_lload_n0, si_lload_n1, si_lload_n2, si_lload_n3, si_lload, si_aload_n0, si_aload_n1, si_aload_n2, si_aload_n3, si_aload, si_istore_n0, si_istore_n1, si_istore_n2, si_istore_n3, si_istore, si_astore_n0, si_astore_n1, si_astore_n2, si_astore_n3, si_astore, si_lstore_n0, si_lstore_n1, si_lstore_n2, si_lstore_n3, si_lstore, si_iconst, si_bipush, si_sipush, si_ldc, si_ldc2_w, si_lconst0, si_lconst1, si_aconst_null, si_iinc, si_dup, si_dup2, si_iadd, si_isub, si_imul, si_idiv, si_irem, si_iand, si_ior, si_ishl, si_ishr, si_ladd, si_lmul, si_lor, si_lxor, si_lshl, si_lushr, si_lcmp, si_i2b, si_i2l, si_l2i, si_icmp_eq, si_icmp_ne, si_icmp_lt, si_icmp_ge, si_icmp_gt, si_icmp_le, si_if_eq, si_if_ne, si_if_lt, si_if_ge, si_if_gt, si_if_le, si_ifnull, si_ifnonnull, si_goto, si_tableswitch, si_lookupswitch, si_getfield, si_putfield, si_getstatic, si_iaload, si_baload, si_laload, si_aaload, si_iastore, si_bastore, si_lastore, si_aastore, si_arraylength, si_new, si_newarray, si_anewarray, si_invokevirtual, si_invokespecial, si_invokestatic, si_ireturn, si_lreturn, si_areturn, si_return_, pI_e, pL_e, pR_e, pA_r, pA_n, pN_n, pN_r, oI_e, oL_e, oA_r, oA_n, lget_e, lrm1_0, lrm2_0, lrm1_i, lrm1_r, lrm1_n, lrm1_l, lrm2_i, lrm2_r, lrm2_n, lrm2_l, popN_0, popN_s, acat_i, acat_l, acat_r, acat_n, stw_0, stw_s, psh_s, psh_n, wgf_r, wgf_i, wgf_b, wgf_n, wgf_m, wpf_i, wpf_r, wpf_b, wnew_e, callE_e, rbk_0, rbk_1, tsw_0, tsw_s, lsw_0, lsw_s, wp_s, wq_t, wq_f, oV_e, pick_0, pick_s, oZ_e, oY_e, r_PR_under_0, r_PR_under_1, r_PR_under_2, r_PR_under_5, r_PR_under_7, r_PR_under_9, r_PR_under_12, r_PR_under_14, r_PR_under_17, r_PR_under_18, r_PR_under_21, r_PR_under_24, r_PR_under_26, r_PR_under_29, r_PR_under_30, r_PR_under_33, r_PR_under_36, r_PR_under_37, r_PR_under_38, r_PR_under_40, r_PR_under_43, r_PR_under_44, r_PR_under_45, r_PR_under_48, r_PR_under_51, r_PR_under_52, r_PR_under_55, r_PR_under_56, xf_PR_under_91, xe_PR_under_400, xe_PR_under_180, xe_PR_under_380, xd_PR_under, xrb_PR_under, xin_PR_under, T_Kinds_descends_e, TF_Kinds_descends, T_PR_pictureAt_e, TF_PR_pictureAt, T_Kinds_knows_e, TF_Kinds_knows, r0, Nat.reduceAdd, Nat.reduceMul, Nat.reduceEqDiff, reduceIte, Int.reduceNeg, Int.reduceLE, Int.reduceLT, Int.reduceAdd, Int.reduceSub, Int.reduceToNat, true_and, and_true, inR_e, Nat.reduceLT, Nat.reduceLeDiff, reduceCtorEq, Nat.add_zero, Nat.zero_add, or_false, false_or, or_true, true_or, not_true_eq_false, not_false_eq_true, Classical.not_not, Nat.add_eq_zero_iff, and_false, false_and, Int.reduceEq, List.mem_cons, List.not_mem_nil, forall_eq_or_imp, forall_eq, false_implies, implies_true, forall_const, aargs_0, aargs_i, aargs_r, aargs_l, aargs_n, nfT_e, eq_self, and_self, Nat.le_refl, fu_s, fu_fu, iu_iu, iu_s, fu_am, fu_a0, fu_0a, iu_l, Nat.reduceBEq, Int.reduceBEq, T_objInit_e])
    exact ⟨hR, h0 hp⟩

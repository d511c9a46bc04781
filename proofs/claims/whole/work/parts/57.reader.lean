/-- the reader's own objects -/
def LRd (lay : Nat → Nat × Int) (ρ : Nat → Int → Nat) (B : Nat) : Prop := lay B = (20, 0) ∧ (ρ B 0 = B + 1 ∧ ρ B 1 = B + 5 ∧ ρ B 2 = B + 3) ∧ lay (B + 1) = (16, 0) ∧ lay (B + 3) = (18, 0) ∧ lay (B + 5) = (5, 3) ∧ LTape lay ρ (B + 1) ∧ LTrail lay ρ (B + 3) ∧ ∀ p : Int, 0 ≤ p ∧ p < 3 → ρ (B + 5) p = B + 6 + 44 * p.toNat ∧ LPic lay ρ (B + 6 + 44 * p.toNat)
/-- a picture of the reader -/
def RdP (lay : Nat → Nat × Int) (ρ : Nat → Int → Nat) (σ : Nat → Int → Int) (τ : Nat → Int → Int64) (B : Nat) (p : Int) (U : Int → Int) (len : Int) (st : Nat → Int → Int) : Prop := LRd lay ρ B ∧ (0 ≤ p ∧ p < 3 → SW U len st ∧ PR σ τ (B + 6 + 44 * p.toNat) U len st)
theorem LRd.pic {lay : Nat → Nat × Int} {ρ : Nat → Int → Nat} {B : Nat} (h : LRd lay ρ B) {p : Int} (hp : 0 ≤ p ∧ p < 3) : ∃ P : Nat, P = B + 6 + 44 * p.toNat ∧ ρ (B + 5) p = P ∧ LPic lay ρ P ∧ (0 < P ∧ B + 6 ≤ P) := ⟨_, rfl, (h.2.2.2.2.2.2.2 p hp).1, (h.2.2.2.2.2.2.2 p hp).2, by omega⟩
def TF_PR_pictureAt (o : Nat) (p : Int) (sz sl : Nat) (lay : Nat → Nat × Int) (ρ : Nat → Int → Nat) (σ : Nat → Int → Int) (τ : Nat → Int → Int64) (k : Option AV → Mm → Prop) : Prop := LRd lay ρ o ∧ (0 ≤ p ∧ p < 3 → k (some (vR (o + 6 + 44 * p.toNat))) (sz, sl, lay, ρ, σ, τ)) ∧ (¬ (0 ≤ p ∧ p < 3) → k (some vN) (sz, sl, lay, ρ, σ, τ))
def T_PR_pictureAt : Tr := mkT 10 fun o as M k => pI as fun p as => as = [] ∧ TF_PR_pictureAt o p M.1 M.2.1 M.2.2.1 M.2.2.2.1 M.2.2.2.2.1 M.2.2.2.2.2 k
theorem T_PR_pictureAt_e {o : Nat} {p : Int} {sz sl : Nat} {lay : Nat → Nat × Int} {ρ : Nat → Int → Nat} {σ : Nat → Int → Int} {τ : Nat → Int → Int64} {k : Option AV → Mm → Prop} : T_PR_pictureAt [vR o, vI p] (sz, sl, lay, ρ, σ, τ) k = (lay o = (20, 0) ∧ TF_PR_pictureAt o p sz sl lay ρ σ τ k) := by simp [T_PR_pictureAt, mkT_e, pI_e, pR_e, pL_e]
theorem T_PR_pictureAt_r (as : List AV) (M : Mm) (k : Option AV → Mm → Prop) (h : T_PR_pictureAt as M k) : ∃ b As, as = vR b :: As ∧ M.2.2.1 b = (10 + 10, 0) := by
  obtain ⟨b, As, h1, h2, -⟩ := mkT_r h
  exact ⟨b, As, h1, h2⟩
def tb_PR_pictureAt : List (Nat × Option (List Nat) × Instr × List Nat) := [(0, none, .iload_n 1, []), (1, none, .ifCond .lt 8, [9]), (4, none, .iload_n 1, []), (5, none, .iconst 3, []), (6, none, .if_icmp .lt 7, [13]), (9, none, .aconst_null, []), (10, none, .goto 9, [19]), (13, none, .aload_n 0, []), (14, none, .getfield 25, []), (17, none, .iload_n 1, []), (18, none, .aaload, []), (19, none, .areturn, [])]
def P_PR_pictureAt : Nat → Option (List Nat) × Instr × List Nat := plk tb_PR_pictureAt
theorem r_PR_pictureAt_0 : P_PR_pictureAt 0 = (none, .iload_n 1, []) := by decide +kernel
theorem r_PR_pictureAt_1 : P_PR_pictureAt 1 = (none, .ifCond .lt 8, [9]) := by decide +kernel
theorem r_PR_pictureAt_4 : P_PR_pictureAt 4 = (none, .iload_n 1, []) := by decide +kernel
theorem r_PR_pictureAt_5 : P_PR_pictureAt 5 = (none, .iconst 3, []) := by decide +kernel
theorem r_PR_pictureAt_6 : P_PR_pictureAt 6 = (none, .if_icmp .lt 7, [13]) := by decide +kernel
theorem r_PR_pictureAt_9 : P_PR_pictureAt 9 = (none, .aconst_null, []) := by decide +kernel
theorem r_PR_pictureAt_10 : P_PR_pictureAt 10 = (none, .goto 9, [19]) := by decide +kernel
theorem r_PR_pictureAt_13 : P_PR_pictureAt 13 = (none, .aload_n 0, []) := by decide +kernel
theorem r_PR_pictureAt_14 : P_PR_pictureAt 14 = (none, .getfield 25, []) := by decide +kernel
theorem r_PR_pictureAt_17 : P_PR_pictureAt 17 = (none, .iload_n 1, []) := by decide +kernel
theorem r_PR_pictureAt_18 : P_PR_pictureAt 18 = (none, .aaload, []) := by decide +kernel
theorem r_PR_pictureAt_19 : P_PR_pictureAt 19 = (none, .areturn, []) := by decide +kernel
def E_PR_pictureAt : List (Nat × Ent) := []
def X_PR_pictureAt : Cx := (llk (0, 0, 9) ftX10, llk 99 ntX10, llk none kcX10, llk none klX10, llk dEnt E_PR_pictureAt, 0, 4, false)
theorem xok_PR_pictureAt : Xok RX10 X_PR_pictureAt := xok_of ftX10_ok ntX10_ok kcX10_ok klX10_ok (E := E_PR_pictureAt) (fun _ h => absurd h List.not_mem_nil)
theorem xf_PR_pictureAt_25 : xfl X_PR_pictureAt 25 = (10, 1, 1) := by decide +kernel
theorem xd_PR_pictureAt : xd X_PR_pictureAt = 0 := rfl
theorem xrb_PR_pictureAt : xrb X_PR_pictureAt = 4 := rfl
theorem xin_PR_pictureAt : xin X_PR_pictureAt = false := rfl
set_option maxHeartbeats 4000000 in
set_option maxRecDepth 100000 in
theorem S_PR_pictureAt : Snd yX10_pictureAt cX10_pictureAt 2 (some (.object "PictureReader$Picture")) T_PR_pictureAt 0 0 0 := by
  refine snd_of (X := X_PR_pictureAt) (P := P_PR_pictureAt) (tb := tb_PR_pictureAt) (own := RX10) (by decide) rfl rfl (by decide +kernel) xok_PR_pictureAt rfl rk4 (fun h => by first | rfl | cases h) ?_
  intro as M k has hM hT0
  obtain ⟨sz, sl, lay, ρ, σ, τ⟩ := M
  obtain ⟨o, as1, e, hlo, hT1⟩ := mkT_r hT0
  clear hT0
  subst e
  obtain ⟨p, as2, e, hT2⟩ := pI_x hT1
  clear hT1
  subst e
  obtain ⟨e, hT⟩ := hT2
  subst e
  replace hlo : lay o = (20, 0) := hlo
  have r_p : -2147483648 ≤ p ∧ p ≤ 2147483647 := has (vI p) (by simp)
  clear has
  replace hM : ∀ a i, -2147483648 ≤ σ a i ∧ σ a i ≤ 2147483647 := hM
  replace hT : TF_PR_pictureAt o p sz sl lay ρ σ τ k := hT
  unfold TF_PR_pictureAt at hT
  obtain ⟨hR, h1, h0⟩ := hT
  obtain ⟨r0, ⟨r1, r2, r3⟩, r4, r5, r6, r7, r8, r9⟩ := (show LRd lay ρ o from hR)
  refine ⟨Nat.le_of_ble_eq_true rfl, fun _ _ _ => False, fun _ _ _ => 0, 20, ?_, fun _ _ _ _ _ _ h => h.elim⟩
  unfold wps
  simp only [si_iload_n0, si_iload_n1, si_iload_n2, si_iload_n3, si_iload, si_lload_n0, si_lload_n1, si_lload_n2, si_lload_n3, si_lload, si_aload_n0, si_aload_n1, si_aload_n2, si_aload_n3, si_aload, si_istore_n0, si_istore_n1, si_istore_n2, si_istore_n3, si_istore, si_astore_n0, si_astore_n1, si_astore_n2, si_astore_n3, si_astore, si_lstore_n0, si_lstore_n1, si_lstore_n2, si_lstore_n3, si_lstore, si_iconst, si_bipush, si_sipush, si_ldc, si_ldc2_w, si_lconst0, si_lconst1, si_aconst_null, si_iinc, si_dup, si_dup2, si_iadd, si_isub, si_imul, si_idiv, si_irem, si_iand, si_ior, si_ishl, si_ishr, si_ladd, si_lmul, si_lor, si_lxor, si_lshl, si_lushr, si_lcmp, si_i2b, si_i2l, si_l2i, si_icmp_eq, si_icmp_ne, si_icmp_lt, si_icmp_ge, si_icmp_gt, si_icmp_le, si_if_eq, si_if_ne, si_if_lt, si_if_ge, si_if_gt, si_if_le, si_ifnull, si_ifnonnull, si_goto, si_tableswitch, si_lookupswitch, si_getfield, si_putfield, si_getstatic, si_iaload, si_baload, si_laload, si_aaload, si_iastore, si_bastore, si_lastore, si_aastore, si_arraylength, si_new, si_newarray, si_anewarray, si_invokevirtual, si_invokespecial, si_invokestatic, si_ireturn, si_lreturn, si_areturn, si_return_, pI_e, pL_e, pR_e, pA_r, pA_n, pN_n, pN_r, oI_e, oL_e, oA_r, oA_n, lget_e, lrm1_0, lrm2_0, lrm1_i, lrm1_r, lrm1_n, lrm1_l, lrm2_i, lrm2_r, lrm2_n, lrm2_l, popN_0, popN_s, acat_i, acat_l, acat_r, acat_n, stw_0, stw_s, psh_s, psh_n, wgf_r, wgf_i, wgf_b, wgf_n, wgf_m, wpf_i, wpf_r, wpf_b, wnew_e, callE_e, rbk_0, rbk_1, tsw_0, tsw_s, lsw_0, lsw_s, wp_s, wq_t, wq_f, oV_e, pick_0, pick_s, oZ_e, oY_e, r_PR_pictureAt_0, r_PR_pictureAt_1, r_PR_pictureAt_4, r_PR_pictureAt_5, r_PR_pictureAt_6, r_PR_pictureAt_9, r_PR_pictureAt_10, r_PR_pictureAt_13, r_PR_pictureAt_14, r_PR_pictureAt_17, r_PR_pictureAt_18, r_PR_pictureAt_19, xf_PR_pictureAt_25, xd_PR_pictureAt, xrb_PR_pictureAt, xin_PR_pictureAt, r0, r2, r6, Nat.reduceAdd, Nat.reduceMul, Nat.reduceEqDiff, reduceIte, Int.reduceNeg, Int.reduceLE, Int.reduceLT, Int.reduceAdd, Int.reduceSub, Int.reduceToNat, true_and, and_true, inR_e, Nat.reduceLT, Nat.reduceLeDiff, reduceCtorEq, Nat.add_zero, Nat.zero_add, or_false, false_or, or_true, true_or, not_true_eq_false, not_false_eq_true, Classical.not_not, Nat.add_eq_zero_iff, and_false, false_and, Int.reduceEq, List.mem_cons, List.not_mem_nil, forall_eq_or_imp, forall_eq, false_implies, implies_true, forall_const, aargs_0, aargs_i, aargs_r, aargs_l, aargs_n, nfT_e, eq_self, and_self, Nat.le_refl, fu_s, fu_fu, iu_iu, iu_s, fu_am, fu_a0, fu_0a, iu_l, Nat.reduceBEq, Int.reduceBEq, T_objInit_e]
  refine ⟨fun a => h0 (by omega), fun a => ⟨fun b => ⟨by omega, b, ?_, ?_⟩, fun b => h0 (by omega)⟩⟩
  · rw [(r9 p ⟨by omega, b⟩).1]; omega
  · rw [(r9 p ⟨by omega, b⟩).1]; exact h1 ⟨by omega, b⟩

theorem akd_i : akd .int = 1 := rfl
theorem akd_b : akd .byte = 2 := rfl
theorem akd_z : akd .boolean = 3 := rfl
theorem akd_l : akd .long = 4 := rfl
theorem nfA_0 : nfA 0 = 4 := rfl
theorem nfA_1 : nfA 1 = 7 := rfl
theorem nfA_2 : nfA 2 = 6 := rfl
theorem nfA_3 : nfA 3 = 12 := rfl
theorem nfA_4 : nfA 4 = 4 := rfl
theorem nfA_5 : nfA 5 = 4 := rfl
theorem nfA_6 : nfA 6 = 2 := rfl
theorem nfA_7 : nfA 7 = 18 := rfl
theorem nfA_8 : nfA 8 = 2 := rfl
theorem nfA_9 : nfA 9 = 4 := rfl
theorem nfA_10 : nfA 10 = 3 := rfl
theorem nfA_11 : nfA 11 = 28 := rfl
/-- nothing below has changed -/
def NF (lay lay2 : Nat → Nat × Int) (ρ ρ2 : Nat → Int → Nat) (σ σ2 : Nat → Int → Int) (τ τ2 : Nat → Int → Int64) (o : Nat) : Prop := ∀ a, a < o → lay2 a = lay a ∧ ρ2 a = ρ a ∧ σ2 a = σ a ∧ τ2 a = τ a
/-- all ints are 0 -/
def Zr (σ : Nat → Int → Int) (o n : Nat) : Prop := ∀ a, o ≤ a ∧ a ≤ o + n → ∀ i, σ a i = 0
theorem iu_z {f : Int → Int} {k i : Int} (h : ∀ i, f i = 0) : iu f k 0 i = 0 := by
  by_cases e : i = k
  · rw [e, iu_s]
  · rw [iu_n e]; exact h i
theorem LHoles.cg {lay lay2 : Nat → Nat × Int} {ρ ρ2 : Nat → Int → Nat} {o : Nat} (h : LHoles lay ρ o) (e : ∀ a, o ≤ a ∧ a ≤ o + 2 → lay2 a = lay a) (e2 : ρ2 o = ρ o) : LHoles lay2 ρ2 o := by
  unfold LHoles
  rw [e2, e o (by omega), e (o + 1) (by omega), e (o + 2) (by omega)]
  exact h
theorem LKinds.cg {lay lay2 : Nat → Nat × Int} {ρ ρ2 : Nat → Int → Nat} {o : Nat} (h : LKinds lay ρ o) (e : ∀ a, o ≤ a ∧ a ≤ o + 6 → lay2 a = lay a) (e2 : ρ2 o = ρ o) : LKinds lay2 ρ2 o := by
  unfold LKinds
  rw [e2, e o (by omega), e (o + 1) (by omega), e (o + 2) (by omega), e (o + 3) (by omega), e (o + 4) (by omega), e (o + 5) (by omega), e (o + 6) (by omega)]
  exact h
theorem LLife.cg {lay lay2 : Nat → Nat × Int} {ρ ρ2 : Nat → Int → Nat} {o : Nat} (h : LLife lay ρ o) (e : ∀ a, o ≤ a ∧ a ≤ o + 4 → lay2 a = lay a) (e2 : ρ2 o = ρ o) : LLife lay2 ρ2 o := by
  unfold LLife
  rw [e2, e o (by omega), e (o + 1) (by omega), e (o + 2) (by omega), e (o + 3) (by omega), e (o + 4) (by omega)]
  exact h
theorem LRoots.cg {lay lay2 : Nat → Nat × Int} {ρ ρ2 : Nat → Int → Nat} {o : Nat} (h : LRoots lay ρ o) (e : ∀ a, o ≤ a ∧ a ≤ o + 2 → lay2 a = lay a) (e2 : ρ2 o = ρ o) : LRoots lay2 ρ2 o := by
  unfold LRoots
  rw [e2, e o (by omega), e (o + 1) (by omega), e (o + 2) (by omega)]
  exact h
theorem LSpread.cg {lay lay2 : Nat → Nat × Int} {ρ ρ2 : Nat → Int → Nat} {o : Nat} (h : LSpread lay ρ o) (e : ∀ a, o ≤ a ∧ a ≤ o + 3 → lay2 a = lay a) (e2 : ρ2 o = ρ o) : LSpread lay2 ρ2 o := by
  unfold LSpread
  rw [e2, e o (by omega), e (o + 1) (by omega), e (o + 2) (by omega), e (o + 3) (by omega)]
  exact h
theorem LTape.cg {lay lay2 : Nat → Nat × Int} {ρ ρ2 : Nat → Int → Nat} {o : Nat} (h : LTape lay ρ o) (e : ∀ a, o ≤ a ∧ a ≤ o + 1 → lay2 a = lay a) (e2 : ρ2 o = ρ o) : LTape lay2 ρ2 o := by
  unfold LTape
  rw [e2, e o (by omega), e (o + 1) (by omega)]
  exact h
theorem LThings.cg {lay lay2 : Nat → Nat × Int} {ρ ρ2 : Nat → Int → Nat} {o : Nat} (h : LThings lay ρ o) (e : ∀ a, o ≤ a ∧ a ≤ o + 12 → lay2 a = lay a) (e2 : ρ2 o = ρ o) : LThings lay2 ρ2 o := by
  unfold LThings
  rw [e2, e o (by omega), e (o + 1) (by omega), e (o + 2) (by omega), e (o + 3) (by omega), e (o + 4) (by omega), e (o + 5) (by omega), e (o + 6) (by omega), e (o + 7) (by omega), e (o + 8) (by omega), e (o + 9) (by omega), e (o + 10) (by omega), e (o + 11) (by omega), e (o + 12) (by omega)]
  exact h
theorem LTrail.cg {lay lay2 : Nat → Nat × Int} {ρ ρ2 : Nat → Int → Nat} {o : Nat} (h : LTrail lay ρ o) (e : ∀ a, o ≤ a ∧ a ≤ o + 1 → lay2 a = lay a) (e2 : ρ2 o = ρ o) : LTrail lay2 ρ2 o := by
  unfold LTrail
  rw [e2, e o (by omega), e (o + 1) (by omega)]
  exact h
theorem LTwins.cg {lay lay2 : Nat → Nat × Int} {ρ ρ2 : Nat → Int → Nat} {o : Nat} (h : LTwins lay ρ o) (e : ∀ a, o ≤ a ∧ a ≤ o + 3 → lay2 a = lay a) (e2 : ρ2 o = ρ o) : LTwins lay2 ρ2 o := by
  unfold LTwins
  rw [e2, e o (by omega), e (o + 1) (by omega), e (o + 2) (by omega), e (o + 3) (by omega)]
  exact h
theorem co_X0_13 : CallOK RX0 (.invokespecial 3) (1, 0, 0, 0, T_objInit) := call_objInit (by decide +kernel) (by decide +kernel) (by decide +kernel)
def TF_Holes_init (o : Nat) (sz sl : Nat) (lay : Nat → Nat × Int) (ρ : Nat → Int → Nat) (σ : Nat → Int → Int) (τ : Nat → Int → Int64) (k : Option AV → Mm → Prop) : Prop := (sz = o + 1 ∧ 1 ≤ o ∧ ∀ i, σ o i = 0) ∧ (∀ (lay2 : Nat → Nat × Int) (ρ2 : Nat → Int → Nat) (σ2 : Nat → Int → Int) (τ2 : Nat → Int → Int64), NF lay lay2 ρ ρ2 σ σ2 τ τ2 o → LHoles lay2 ρ2 o → Zr σ2 o 2 → k none (o + 3, sl + 8000, lay2, ρ2, σ2, τ2))
def T_Holes_init : Tr := mkT 0 fun o as M k => as = [] ∧ TF_Holes_init o M.1 M.2.1 M.2.2.1 M.2.2.2.1 M.2.2.2.2.1 M.2.2.2.2.2 k
theorem T_Holes_init_e {o : Nat} {sz sl : Nat} {lay : Nat → Nat × Int} {ρ : Nat → Int → Nat} {σ : Nat → Int → Int} {τ : Nat → Int → Int64} {k : Option AV → Mm → Prop} : T_Holes_init [vR o] (sz, sl, lay, ρ, σ, τ) k = (lay o = (10, 0) ∧ TF_Holes_init o sz sl lay ρ σ τ k) := by simp [T_Holes_init, mkT_e, pI_e, pR_e, pL_e]
theorem T_Holes_init_r (as : List AV) (M : Mm) (k : Option AV → Mm → Prop) (h : T_Holes_init as M k) : ∃ b As, as = vR b :: As ∧ M.2.2.1 b = (10 + 0, 0) := by
  obtain ⟨b, As, h1, h2, -⟩ := mkT_r h
  exact ⟨b, As, h1, h2⟩
def tb_Holes_init : List (Nat × Option (List Nat) × Instr × List Nat) := [(0, none, .aload_n 0, []), (1, none, .invokespecial 3, []), (4, none, .aload_n 0, []), (5, none, .sipush 4000, []), (8, none, .newarray .int, []), (10, none, .putfield 9, []), (13, none, .aload_n 0, []), (14, none, .sipush 4000, []), (17, none, .newarray .int, []), (19, none, .putfield 15, []), (22, none, .aload_n 0, []), (23, none, .iconst 0, []), (24, none, .putfield 18, []), (27, none, .aload_n 0, []), (28, none, .iconst 0, []), (29, none, .putfield 22, []), (32, none, .return_, [])]
def P_Holes_init : Nat → Option (List Nat) × Instr × List Nat := plk tb_Holes_init
theorem r_Holes_init_0 : P_Holes_init 0 = (none, .aload_n 0, []) := by decide +kernel
theorem r_Holes_init_1 : P_Holes_init 1 = (none, .invokespecial 3, []) := by decide +kernel
theorem r_Holes_init_4 : P_Holes_init 4 = (none, .aload_n 0, []) := by decide +kernel
theorem r_Holes_init_5 : P_Holes_init 5 = (none, .sipush 4000, []) := by decide +kernel
theorem r_Holes_init_8 : P_Holes_init 8 = (none, .newarray .int, []) := by decide +kernel
theorem r_Holes_init_10 : P_Holes_init 10 = (none, .putfield 9, []) := by decide +kernel
theorem r_Holes_init_13 : P_Holes_init 13 = (none, .aload_n 0, []) := by decide +kernel
theorem r_Holes_init_14 : P_Holes_init 14 = (none, .sipush 4000, []) := by decide +kernel
theorem r_Holes_init_17 : P_Holes_init 17 = (none, .newarray .int, []) := by decide +kernel
theorem r_Holes_init_19 : P_Holes_init 19 = (none, .putfield 15, []) := by decide +kernel
theorem r_Holes_init_22 : P_Holes_init 22 = (none, .aload_n 0, []) := by decide +kernel
theorem r_Holes_init_23 : P_Holes_init 23 = (none, .iconst 0, []) := by decide +kernel
theorem r_Holes_init_24 : P_Holes_init 24 = (none, .putfield 18, []) := by decide +kernel
theorem r_Holes_init_27 : P_Holes_init 27 = (none, .aload_n 0, []) := by decide +kernel
theorem r_Holes_init_28 : P_Holes_init 28 = (none, .iconst 0, []) := by decide +kernel
theorem r_Holes_init_29 : P_Holes_init 29 = (none, .putfield 22, []) := by decide +kernel
theorem r_Holes_init_32 : P_Holes_init 32 = (none, .return_, []) := by decide +kernel
def E_Holes_init : List (Nat × Ent) := [(13, (1, 0, 0, 0, T_objInit))]
def X_Holes_init : Cx := (llk (0, 0, 9) ftX0, llk 99 ntX0, llk none kcX0, llk none klX0, llk dEnt E_Holes_init, 1, 3, true)
theorem xok_Holes_init : Xok RX0 X_Holes_init := xok_of ftX0_ok ntX0_ok kcX0_ok klX0_ok (E := E_Holes_init) (List.forall_mem_cons.mpr ⟨co_X0_13, fun _ h => absurd h List.not_mem_nil⟩)
theorem xf_Holes_init_9 : xfl X_Holes_init 9 = (0, 0, 1) := by decide +kernel
theorem xf_Holes_init_15 : xfl X_Holes_init 15 = (0, 1, 1) := by decide +kernel
theorem xf_Holes_init_18 : xfl X_Holes_init 18 = (0, 2, 0) := by decide +kernel
theorem xf_Holes_init_22 : xfl X_Holes_init 22 = (0, 3, 0) := by decide +kernel
theorem xe_Holes_init_13 : xE X_Holes_init (4 * 3 + 1) = (1, 0, 0, 0, T_objInit) := rfl
theorem xd_Holes_init : xd X_Holes_init = 1 := rfl
theorem xrb_Holes_init : xrb X_Holes_init = 3 := rfl
theorem xin_Holes_init : xin X_Holes_init = true := rfl
set_option maxHeartbeats 4000000 in
set_option maxRecDepth 100000 in
theorem S_Holes_init : Snd yX0_init cX0_init 1 none T_Holes_init 1 2 8000 := by
  refine snd_of (X := X_Holes_init) (P := P_Holes_init) (tb := tb_Holes_init) (own := RX0) (by decide) rfl rfl (by decide +kernel) xok_Holes_init rfl rk3 (fun h => by first | rfl | cases h) ?_
  intro as M k has hM hT0
  obtain ⟨sz, sl, lay, ρ, σ, τ⟩ := M
  obtain ⟨o, as1, e, hlo, hT1⟩ := mkT_r hT0
  clear hT0
  subst e
  obtain ⟨e, hT⟩ := hT1
  subst e
  replace hlo : lay o = (10, 0) := hlo
  clear has
  replace hM : ∀ a i, -2147483648 ≤ σ a i ∧ σ a i ≤ 2147483647 := hM
  replace hT : TF_Holes_init o sz sl lay ρ σ τ k := hT
  unfold TF_Holes_init at hT
  obtain ⟨⟨hsz, ho, hz⟩, hT⟩ := hT
  subst hsz
  refine ⟨Nat.le_of_ble_eq_true rfl, fun _ _ _ => False, fun _ _ _ => 0, 25, ?_, fun _ _ _ _ _ _ h => h.elim⟩
  unfold wps
  simp only [si_iload_n0, si_iload_n1, si_iload_n2, si_iload_n3, si_iload, si_lload_n0, si_lload_n1, si_lload_n2, si_lload_n3, si_lload, si_aload_n0, si_aload_n1, si_aload_n2, si_aload_n3, si_aload, si_istore_n0, si_istore_n1, si_istore_n2, si_istore_n3, si_istore, si_astore_n0, si_astore_n1, si_astore_n2, si_astore_n3, si_astore, si_lstore_n0, si_lstore_n1, si_lstore_n2, si_lstore_n3, si_lstore, si_iconst, si_bipush, si_sipush, si_ldc, si_ldc2_w, si_lconst0, si_lconst1, si_aconst_null, si_iinc, si_dup, si_dup2, si_iadd, si_isub, si_imul, si_idiv, si_irem, si_iand, si_ior, si_ishl, si_ishr, si_ladd, si_lmul, si_lor, si_lxor, si_lshl, si_lushr, si_lcmp, si_i2b, si_i2l, si_l2i, si_icmp_eq, si_icmp_ne, si_icmp_lt, si_icmp_ge, si_icmp_gt, si_icmp_le, si_if_eq, si_if_ne, si_if_lt, si_if_ge, si_if_gt, si_if_le, si_ifnull, si_ifnonnull, si_goto, si_tableswitch, si_lookupswitch, si_getfield, si_putfield, si_getstatic, si_iaload, si_baload, si_laload, si_aaload, si_iastore, si_bastore, si_lastore, si_aastore, si_arraylength, si_new, si_newarray, si_anewarray, si_invokevirtual, si_invokespecial, si_invokestatic, si_ireturn, si_lreturn, si_areturn, si_return_, pI_e, pL_e, pR_e, pA_r, pA_n, pN_n, pN_r, oI_e, oL_e, oA_r, oA_n, lget_e, lrm1_0, lrm2_0, lrm1_i, lrm1_r, lrm1_n, lrm1_l, lrm2_i, lrm2_r, lrm2_n, lrm2_l, popN_0, popN_s, acat_i, acat_l, acat_r, acat_n, stw_0, stw_s, psh_s, psh_n, wgf_r, wgf_i, wgf_b, wgf_n, wgf_m, wpf_i, wpf_r, wpf_b, wnew_e, callE_e, rbk_0, rbk_1, tsw_0, tsw_s, lsw_0, lsw_s, wp_s, wq_t, wq_f, oV_e, pick_0, pick_s, oZ_e, oY_e, r_Holes_init_0, r_Holes_init_1, r_Holes_init_4, r_Holes_init_5, r_Holes_init_8, r_Holes_init_10, r_Holes_init_13, r_Holes_init_14, r_Holes_init_17, r_Holes_init_19, r_Holes_init_22, r_Holes_init_23, r_Holes_init_24, r_Holes_init_27, r_Holes_init_28, r_Holes_init_29, r_Holes_init_32, xf_Holes_init_9, xf_Holes_init_15, xf_Holes_init_18, xf_Holes_init_22, xe_Holes_init_13, xd_Holes_init, xrb_Holes_init, xin_Holes_init, akd_i, akd_b, akd_z, akd_l, Nat.add_assoc, Nat.le_add_right, hlo, Nat.reduceAdd, Nat.reduceMul, Nat.reduceEqDiff, reduceIte, Int.reduceNeg, Int.reduceLE, Int.reduceLT, Int.reduceAdd, Int.reduceSub, Int.reduceToNat, true_and, and_true, inR_e, Nat.reduceLT, Nat.reduceLeDiff, reduceCtorEq, Nat.add_zero, Nat.zero_add, or_false, false_or, or_true, true_or, not_true_eq_false, not_false_eq_true, Classical.not_not, Nat.add_eq_zero_iff, and_false, false_and, Int.reduceEq, List.mem_cons, List.not_mem_nil, forall_eq_or_imp, forall_eq, false_implies, implies_true, forall_const, aargs_0, aargs_i, aargs_r, aargs_l, aargs_n, nfT_e, eq_self, and_self, Nat.le_refl, fu_s, fu_fu, iu_iu, iu_s, fu_am, fu_a0, fu_0a, iu_l, Nat.reduceBEq, Int.reduceBEq, T_objInit_e]
  refine hT _ _ _ _ (fun a ha => ⟨?_, ?_, ?_, ?_⟩) ?_ ?_
  · repeat rw [fu_n (by omega)]
  · repeat rw [fu_n (by omega)]
  · repeat rw [fu_n (by omega)]
  · repeat rw [fu_n (by omega)]
  · unfold LHoles
    simp only [fu_s, fu_am, fu_a0, fu_0a, iu_s, iu_l, Nat.reduceBEq, Int.reduceBEq]
    simp only [hlo, true_and, and_true]
  · intro a ha i
    have h : a = o ∨ a = o + 1 ∨ a = o + 2 := by omega
    rcases h with rfl | rfl | rfl
    · simp only [fu_s, fu_am, fu_a0, fu_0a, iu_s, iu_l, Nat.reduceBEq, Int.reduceBEq]
      repeat (first | exact hz i | refine iu_z (fun i => ?_))
    · simp only [fu_s, fu_am, fu_a0, fu_0a, iu_s, iu_l, Nat.reduceBEq, Int.reduceBEq]
    · simp only [fu_s, fu_am, fu_a0, fu_0a, iu_s, iu_l, Nat.reduceBEq, Int.reduceBEq]
theorem co_X1_13 : CallOK RX1 (.invokespecial 3) (1, 0, 0, 0, T_objInit) := call_objInit (by decide +kernel) (by decide +kernel) (by decide +kernel)
def TF_Kinds_init (o : Nat) (sz sl : Nat) (lay : Nat → Nat × Int) (ρ : Nat → Int → Nat) (σ : Nat → Int → Int) (τ : Nat → Int → Int64) (k : Option AV → Mm → Prop) : Prop := (sz = o + 1 ∧ 1 ≤ o ∧ ∀ i, σ o i = 0) ∧ (∀ (lay2 : Nat → Nat × Int) (ρ2 : Nat → Int → Nat) (σ2 : Nat → Int → Int) (τ2 : Nat → Int → Int64), NF lay lay2 ρ ρ2 σ σ2 τ τ2 o → LKinds lay2 ρ2 o → Zr σ2 o 6 → k none (o + 7, sl + 680, lay2, ρ2, σ2, τ2))
def T_Kinds_init : Tr := mkT 1 fun o as M k => as = [] ∧ TF_Kinds_init o M.1 M.2.1 M.2.2.1 M.2.2.2.1 M.2.2.2.2.1 M.2.2.2.2.2 k
theorem T_Kinds_init_e {o : Nat} {sz sl : Nat} {lay : Nat → Nat × Int} {ρ : Nat → Int → Nat} {σ : Nat → Int → Int} {τ : Nat → Int → Int64} {k : Option AV → Mm → Prop} : T_Kinds_init [vR o] (sz, sl, lay, ρ, σ, τ) k = (lay o = (11, 0) ∧ TF_Kinds_init o sz sl lay ρ σ τ k) := by simp [T_Kinds_init, mkT_e, pI_e, pR_e, pL_e]
theorem T_Kinds_init_r (as : List AV) (M : Mm) (k : Option AV → Mm → Prop) (h : T_Kinds_init as M k) : ∃ b As, as = vR b :: As ∧ M.2.2.1 b = (10 + 1, 0) := by
  obtain ⟨b, As, h1, h2, -⟩ := mkT_r h
  exact ⟨b, As, h1, h2⟩
def tb_Kinds_init : List (Nat × Option (List Nat) × Instr × List Nat) := [(0, none, .aload_n 0, []), (1, none, .invokespecial 3, []), (4, none, .aload_n 0, []), (5, none, .bipush 40, []), (7, none, .newarray .boolean, []), (9, none, .putfield 9, []), (12, none, .aload_n 0, []), (13, none, .bipush 40, []), (15, none, .newarray .int, []), (17, none, .putfield 15, []), (20, none, .aload_n 0, []), (21, none, .bipush 40, []), (23, none, .newarray .int, []), (25, none, .putfield 19, []), (28, none, .aload_n 0, []), (29, none, .bipush 40, []), (31, none, .newarray .int, []), (33, none, .putfield 22, []), (36, none, .aload_n 0, []), (37, none, .bipush 40, []), (39, none, .newarray .int, []), (41, none, .putfield 25, []), (44, none, .aload_n 0, []), (45, none, .sipush 480, []), (48, none, .newarray .int, []), (50, none, .putfield 28, []), (53, none, .aload_n 0, []), (54, none, .iconst 0, []), (55, none, .putfield 31, []), (58, none, .return_, [])]
def P_Kinds_init : Nat → Option (List Nat) × Instr × List Nat := plk tb_Kinds_init
theorem r_Kinds_init_0 : P_Kinds_init 0 = (none, .aload_n 0, []) := by decide +kernel
theorem r_Kinds_init_1 : P_Kinds_init 1 = (none, .invokespecial 3, []) := by decide +kernel
theorem r_Kinds_init_4 : P_Kinds_init 4 = (none, .aload_n 0, []) := by decide +kernel
theorem r_Kinds_init_5 : P_Kinds_init 5 = (none, .bipush 40, []) := by decide +kernel
theorem r_Kinds_init_7 : P_Kinds_init 7 = (none, .newarray .boolean, []) := by decide +kernel
theorem r_Kinds_init_9 : P_Kinds_init 9 = (none, .putfield 9, []) := by decide +kernel
theorem r_Kinds_init_12 : P_Kinds_init 12 = (none, .aload_n 0, []) := by decide +kernel
theorem r_Kinds_init_13 : P_Kinds_init 13 = (none, .bipush 40, []) := by decide +kernel
theorem r_Kinds_init_15 : P_Kinds_init 15 = (none, .newarray .int, []) := by decide +kernel
theorem r_Kinds_init_17 : P_Kinds_init 17 = (none, .putfield 15, []) := by decide +kernel
theorem r_Kinds_init_20 : P_Kinds_init 20 = (none, .aload_n 0, []) := by decide +kernel
theorem r_Kinds_init_21 : P_Kinds_init 21 = (none, .bipush 40, []) := by decide +kernel
theorem r_Kinds_init_23 : P_Kinds_init 23 = (none, .newarray .int, []) := by decide +kernel
theorem r_Kinds_init_25 : P_Kinds_init 25 = (none, .putfield 19, []) := by decide +kernel
theorem r_Kinds_init_28 : P_Kinds_init 28 = (none, .aload_n 0, []) := by decide +kernel
theorem r_Kinds_init_29 : P_Kinds_init 29 = (none, .bipush 40, []) := by decide +kernel
theorem r_Kinds_init_31 : P_Kinds_init 31 = (none, .newarray .int, []) := by decide +kernel
theorem r_Kinds_init_33 : P_Kinds_init 33 = (none, .putfield 22, []) := by decide +kernel
theorem r_Kinds_init_36 : P_Kinds_init 36 = (none, .aload_n 0, []) := by decide +kernel
theorem r_Kinds_init_37 : P_Kinds_init 37 = (none, .bipush 40, []) := by decide +kernel
theorem r_Kinds_init_39 : P_Kinds_init 39 = (none, .newarray .int, []) := by decide +kernel
theorem r_Kinds_init_41 : P_Kinds_init 41 = (none, .putfield 25, []) := by decide +kernel
theorem r_Kinds_init_44 : P_Kinds_init 44 = (none, .aload_n 0, []) := by decide +kernel
theorem r_Kinds_init_45 : P_Kinds_init 45 = (none, .sipush 480, []) := by decide +kernel
theorem r_Kinds_init_48 : P_Kinds_init 48 = (none, .newarray .int, []) := by decide +kernel
theorem r_Kinds_init_50 : P_Kinds_init 50 = (none, .putfield 28, []) := by decide +kernel
theorem r_Kinds_init_53 : P_Kinds_init 53 = (none, .aload_n 0, []) := by decide +kernel
theorem r_Kinds_init_54 : P_Kinds_init 54 = (none, .iconst 0, []) := by decide +kernel
theorem r_Kinds_init_55 : P_Kinds_init 55 = (none, .putfield 31, []) := by decide +kernel
theorem r_Kinds_init_58 : P_Kinds_init 58 = (none, .return_, []) := by decide +kernel
def E_Kinds_init : List (Nat × Ent) := [(13, (1, 0, 0, 0, T_objInit))]
def X_Kinds_init : Cx := (llk (0, 0, 9) ftX1, llk 99 ntX1, llk none kcX1, llk none klX1, llk dEnt E_Kinds_init, 1, 3, true)
theorem xok_Kinds_init : Xok RX1 X_Kinds_init := xok_of ftX1_ok ntX1_ok kcX1_ok klX1_ok (E := E_Kinds_init) (List.forall_mem_cons.mpr ⟨co_X1_13, fun _ h => absurd h List.not_mem_nil⟩)
theorem xf_Kinds_init_9 : xfl X_Kinds_init 9 = (1, 0, 1) := by decide +kernel
theorem xf_Kinds_init_15 : xfl X_Kinds_init 15 = (1, 1, 1) := by decide +kernel
theorem xf_Kinds_init_19 : xfl X_Kinds_init 19 = (1, 2, 1) := by decide +kernel
theorem xf_Kinds_init_22 : xfl X_Kinds_init 22 = (1, 3, 1) := by decide +kernel
theorem xf_Kinds_init_25 : xfl X_Kinds_init 25 = (1, 4, 1) := by decide +kernel
theorem xf_Kinds_init_28 : xfl X_Kinds_init 28 = (1, 5, 1) := by decide +kernel
theorem xf_Kinds_init_31 : xfl X_Kinds_init 31 = (1, 6, 0) := by decide +kernel
theorem xe_Kinds_init_13 : xE X_Kinds_init (4 * 3 + 1) = (1, 0, 0, 0, T_objInit) := rfl
theorem xd_Kinds_init : xd X_Kinds_init = 1 := rfl
theorem xrb_Kinds_init : xrb X_Kinds_init = 3 := rfl
theorem xin_Kinds_init : xin X_Kinds_init = true := rfl
set_option maxHeartbeats 4000000 in
set_option maxRecDepth 100000 in
theorem S_Kinds_init : Snd yX1_init cX1_init 1 none T_Kinds_init 1 6 680 := by
  refine snd_of (X := X_Kinds_init) (P := P_Kinds_init) (tb := tb_Kinds_init) (own := RX1) (by decide) rfl rfl (by decide +kernel) xok_Kinds_init rfl rk3 (fun h => by first | rfl | cases h) ?_
  intro as M k has hM hT0
  obtain ⟨sz, sl, lay, ρ, σ, τ⟩ := M
  obtain ⟨o, as1, e, hlo, hT1⟩ := mkT_r hT0
  clear hT0
  subst e
  obtain ⟨e, hT⟩ := hT1
  subst e
  replace hlo : lay o = (11, 0) := hlo
  clear has
  replace hM : ∀ a i, -2147483648 ≤ σ a i ∧ σ a i ≤ 2147483647 := hM
  replace hT : TF_Kinds_init o sz sl lay ρ σ τ k := hT
  unfold TF_Kinds_init at hT
  obtain ⟨⟨hsz, ho, hz⟩, hT⟩ := hT
  subst hsz
  refine ⟨Nat.le_of_ble_eq_true rfl, fun _ _ _ => False, fun _ _ _ => 0, 38, ?_, fun _ _ _ _ _ _ h => h.elim⟩
  unfold wps
  simp only [si_iload_n0, si_iload_n1, si_iload_n2, si_iload_n3, si_iload, si_lload_n0, si_lload_n1, si_lload_n2, si_lload_n3, si_lload, si_aload_n0, si_aload_n1, si_aload_n2, si_aload_n3, si_aload, si_istore_n0, si_istore_n1, si_istore_n2, si_istore_n3, si_istore, si_astore_n0, si_astore_n1, si_astore_n2, si_astore_n3, si_astore, si_lstore_n0, si_lstore_n1, si_lstore_n2, si_lstore_n3, si_lstore, si_iconst, si_bipush, si_sipush, si_ldc, si_ldc2_w, si_lconst0, si_lconst1, si_aconst_null, si_iinc, si_dup, si_dup2, si_iadd, si_isub, si_imul, si_idiv, si_irem, si_iand, si_ior, si_ishl, si_ishr, si_ladd, si_lmul, si_lor, si_lxor, si_lshl, si_lushr, si_lcmp, si_i2b, si_i2l, si_l2i, si_icmp_eq, si_icmp_ne, si_icmp_lt, si_icmp_ge, si_icmp_gt, si_icmp_le, si_if_eq, si_if_ne, si_if_lt, si_if_ge, si_if_gt, si_if_le, si_ifnull, si_ifnonnull, si_goto, si_tableswitch, si_lookupswitch, si_getfield, si_putfield, si_getstatic, si_iaload, si_baload, si_laload, si_aaload, si_iastore, si_bastore, si_lastore, si_aastore, si_arraylength, si_new, si_newarray, si_anewarray, si_invokevirtual, si_invokespecial, si_invokestatic, si_ireturn, si_lreturn, si_areturn, si_return_, pI_e, pL_e, pR_e, pA_r, pA_n, pN_n, pN_r, oI_e, oL_e, oA_r, oA_n, lget_e, lrm1_0, lrm2_0, lrm1_i, lrm1_r, lrm1_n, lrm1_l, lrm2_i, lrm2_r, lrm2_n, lrm2_l, popN_0, popN_s, acat_i, acat_l, acat_r, acat_n, stw_0, stw_s, psh_s, psh_n, wgf_r, wgf_i, wgf_b, wgf_n, wgf_m, wpf_i, wpf_r, wpf_b, wnew_e, callE_e, rbk_0, rbk_1, tsw_0, tsw_s, lsw_0, lsw_s, wp_s, wq_t, wq_f, oV_e, pick_0, pick_s, oZ_e, oY_e, r_Kinds_init_0, r_Kinds_init_1, r_Kinds_init_4, r_Kinds_init_5, r_Kinds_init_7, r_Kinds_init_9, r_Kinds_init_12, r_Kinds_init_13, r_Kinds_init_15, r_Kinds_init_17, r_Kinds_init_20, r_Kinds_init_21, r_Kinds_init_23, r_Kinds_init_25, r_Kinds_init_28, r_Kinds_init_29, r_Kinds_init_31, r_Kinds_init_33, r_Kinds_init_36, r_Kinds_init_37, r_Kinds_init_39, r_Kinds_init_41, r_Kinds_init_44, r_Kinds_init_45, r_Kinds_init_48, r_Kinds_init_50, r_Kinds_init_53, r_Kinds_init_54, r_Kinds_init_55, r_Kinds_init_58, xf_Kinds_init_9, xf_Kinds_init_15, xf_Kinds_init_19, xf_Kinds_init_22, xf_Kinds_init_25, xf_Kinds_init_28, xf_Kinds_init_31, xe_Kinds_init_13, xd_Kinds_init, xrb_Kinds_init, xin_Kinds_init, akd_i, akd_b, akd_z, akd_l, Nat.add_assoc, Nat.le_add_right, hlo, Nat.reduceAdd, Nat.reduceMul, Nat.reduceEqDiff, reduceIte, Int.reduceNeg, Int.reduceLE, Int.reduceLT, Int.reduceAdd, Int.reduceSub, Int.reduceToNat, true_and, and_true, inR_e, Nat.reduceLT, Nat.reduceLeDiff, reduceCtorEq, Nat.add_zero, Nat.zero_add, or_false, false_or, or_true, true_or, not_true_eq_false, not_false_eq_true, Classical.not_not, Nat.add_eq_zero_iff, and_false, false_and, Int.reduceEq, List.mem_cons, List.not_mem_nil, forall_eq_or_imp, forall_eq, false_implies, implies_true, forall_const, aargs_0, aargs_i, aargs_r, aargs_l, aargs_n, nfT_e, eq_self, and_self, Nat.le_refl, fu_s, fu_fu, iu_iu, iu_s, fu_am, fu_a0, fu_0a, iu_l, Nat.reduceBEq, Int.reduceBEq, T_objInit_e]
  refine hT _ _ _ _ (fun a ha => ⟨?_, ?_, ?_, ?_⟩) ?_ ?_
  · repeat rw [fu_n (by omega)]
  · repeat rw [fu_n (by omega)]
  · repeat rw [fu_n (by omega)]
  · repeat rw [fu_n (by omega)]
  · unfold LKinds
    simp only [fu_s, fu_am, fu_a0, fu_0a, iu_s, iu_l, Nat.reduceBEq, Int.reduceBEq]
    simp only [hlo, true_and, and_true]
  · intro a ha i
    have h : a = o ∨ a = o + 1 ∨ a = o + 2 ∨ a = o + 3 ∨ a = o + 4 ∨ a = o + 5 ∨ a = o + 6 := by omega
    rcases h with rfl | rfl | rfl | rfl | rfl | rfl | rfl
    · simp only [fu_s, fu_am, fu_a0, fu_0a, iu_s, iu_l, Nat.reduceBEq, Int.reduceBEq]
      repeat (first | exact hz i | refine iu_z (fun i => ?_))
    · simp only [fu_s, fu_am, fu_a0, fu_0a, iu_s, iu_l, Nat.reduceBEq, Int.reduceBEq]
    · simp only [fu_s, fu_am, fu_a0, fu_0a, iu_s, iu_l, Nat.reduceBEq, Int.reduceBEq]
    · simp only [fu_s, fu_am, fu_a0, fu_0a, iu_s, iu_l, Nat.reduceBEq, Int.reduceBEq]
    · simp only [fu_s, fu_am, fu_a0, fu_0a, iu_s, iu_l, Nat.reduceBEq, Int.reduceBEq]
    · simp only [fu_s, fu_am, fu_a0, fu_0a, iu_s, iu_l, Nat.reduceBEq, Int.reduceBEq]
    · simp only [fu_s, fu_am, fu_a0, fu_0a, iu_s, iu_l, Nat.reduceBEq, Int.reduceBEq]
theorem co_X2_13 : CallOK RX2 (.invokespecial 3) (1, 0, 0, 0, T_objInit) := call_objInit (by decide +kernel) (by decide +kernel) (by decide +kernel)
def TF_Life_init (o : Nat) (sz sl : Nat) (lay : Nat → Nat × Int) (ρ : Nat → Int → Nat) (σ : Nat → Int → Int) (τ : Nat → Int → Int64) (k : Option AV → Mm → Prop) : Prop := (sz = o + 1 ∧ 1 ≤ o ∧ ∀ i, σ o i = 0) ∧ (∀ (lay2 : Nat → Nat × Int) (ρ2 : Nat → Int → Nat) (σ2 : Nat → Int → Int) (τ2 : Nat → Int → Int64), NF lay lay2 ρ ρ2 σ σ2 τ τ2 o → LLife lay2 ρ2 o → Zr σ2 o 4 → k none (o + 5, sl + 2400, lay2, ρ2, σ2, τ2))
def T_Life_init : Tr := mkT 2 fun o as M k => as = [] ∧ TF_Life_init o M.1 M.2.1 M.2.2.1 M.2.2.2.1 M.2.2.2.2.1 M.2.2.2.2.2 k
theorem T_Life_init_e {o : Nat} {sz sl : Nat} {lay : Nat → Nat × Int} {ρ : Nat → Int → Nat} {σ : Nat → Int → Int} {τ : Nat → Int → Int64} {k : Option AV → Mm → Prop} : T_Life_init [vR o] (sz, sl, lay, ρ, σ, τ) k = (lay o = (12, 0) ∧ TF_Life_init o sz sl lay ρ σ τ k) := by simp [T_Life_init, mkT_e, pI_e, pR_e, pL_e]
theorem T_Life_init_r (as : List AV) (M : Mm) (k : Option AV → Mm → Prop) (h : T_Life_init as M k) : ∃ b As, as = vR b :: As ∧ M.2.2.1 b = (10 + 2, 0) := by
  obtain ⟨b, As, h1, h2, -⟩ := mkT_r h
  exact ⟨b, As, h1, h2⟩
def tb_Life_init : List (Nat × Option (List Nat) × Instr × List Nat) := [(0, none, .aload_n 0, []), (1, none, .invokespecial 3, []), (4, none, .aload_n 0, []), (5, none, .sipush 600, []), (8, none, .newarray .int, []), (10, none, .putfield 9, []), (13, none, .aload_n 0, []), (14, none, .sipush 600, []), (17, none, .newarray .int, []), (19, none, .putfield 15, []), (22, none, .aload_n 0, []), (23, none, .sipush 600, []), (26, none, .newarray .int, []), (28, none, .putfield 18, []), (31, none, .aload_n 0, []), (32, none, .sipush 600, []), (35, none, .newarray .int, []), (37, none, .putfield 21, []), (40, none, .aload_n 0, []), (41, none, .iconst 0, []), (42, none, .putfield 24, []), (45, none, .aload_n 0, []), (46, none, .iconst 0, []), (47, none, .putfield 28, []), (50, none, .return_, [])]
def P_Life_init : Nat → Option (List Nat) × Instr × List Nat := plk tb_Life_init
theorem r_Life_init_0 : P_Life_init 0 = (none, .aload_n 0, []) := by decide +kernel
theorem r_Life_init_1 : P_Life_init 1 = (none, .invokespecial 3, []) := by decide +kernel
theorem r_Life_init_4 : P_Life_init 4 = (none, .aload_n 0, []) := by decide +kernel
theorem r_Life_init_5 : P_Life_init 5 = (none, .sipush 600, []) := by decide +kernel
theorem r_Life_init_8 : P_Life_init 8 = (none, .newarray .int, []) := by decide +kernel
theorem r_Life_init_10 : P_Life_init 10 = (none, .putfield 9, []) := by decide +kernel
theorem r_Life_init_13 : P_Life_init 13 = (none, .aload_n 0, []) := by decide +kernel
theorem r_Life_init_14 : P_Life_init 14 = (none, .sipush 600, []) := by decide +kernel
theorem r_Life_init_17 : P_Life_init 17 = (none, .newarray .int, []) := by decide +kernel
theorem r_Life_init_19 : P_Life_init 19 = (none, .putfield 15, []) := by decide +kernel
theorem r_Life_init_22 : P_Life_init 22 = (none, .aload_n 0, []) := by decide +kernel
theorem r_Life_init_23 : P_Life_init 23 = (none, .sipush 600, []) := by decide +kernel
theorem r_Life_init_26 : P_Life_init 26 = (none, .newarray .int, []) := by decide +kernel
theorem r_Life_init_28 : P_Life_init 28 = (none, .putfield 18, []) := by decide +kernel
theorem r_Life_init_31 : P_Life_init 31 = (none, .aload_n 0, []) := by decide +kernel
theorem r_Life_init_32 : P_Life_init 32 = (none, .sipush 600, []) := by decide +kernel
theorem r_Life_init_35 : P_Life_init 35 = (none, .newarray .int, []) := by decide +kernel
theorem r_Life_init_37 : P_Life_init 37 = (none, .putfield 21, []) := by decide +kernel
theorem r_Life_init_40 : P_Life_init 40 = (none, .aload_n 0, []) := by decide +kernel
theorem r_Life_init_41 : P_Life_init 41 = (none, .iconst 0, []) := by decide +kernel
theorem r_Life_init_42 : P_Life_init 42 = (none, .putfield 24, []) := by decide +kernel
theorem r_Life_init_45 : P_Life_init 45 = (none, .aload_n 0, []) := by decide +kernel
theorem r_Life_init_46 : P_Life_init 46 = (none, .iconst 0, []) := by decide +kernel
theorem r_Life_init_47 : P_Life_init 47 = (none, .putfield 28, []) := by decide +kernel
theorem r_Life_init_50 : P_Life_init 50 = (none, .return_, []) := by decide +kernel
def E_Life_init : List (Nat × Ent) := [(13, (1, 0, 0, 0, T_objInit))]
def X_Life_init : Cx := (llk (0, 0, 9) ftX2, llk 99 ntX2, llk none kcX2, llk none klX2, llk dEnt E_Life_init, 1, 3, true)
theorem xok_Life_init : Xok RX2 X_Life_init := xok_of ftX2_ok ntX2_ok kcX2_ok klX2_ok (E := E_Life_init) (List.forall_mem_cons.mpr ⟨co_X2_13, fun _ h => absurd h List.not_mem_nil⟩)
theorem xf_Life_init_9 : xfl X_Life_init 9 = (2, 0, 1) := by decide +kernel
theorem xf_Life_init_15 : xfl X_Life_init 15 = (2, 1, 1) := by decide +kernel
theorem xf_Life_init_18 : xfl X_Life_init 18 = (2, 2, 1) := by decide +kernel
theorem xf_Life_init_21 : xfl X_Life_init 21 = (2, 3, 1) := by decide +kernel
theorem xf_Life_init_24 : xfl X_Life_init 24 = (2, 4, 0) := by decide +kernel
theorem xf_Life_init_28 : xfl X_Life_init 28 = (2, 5, 0) := by decide +kernel
theorem xe_Life_init_13 : xE X_Life_init (4 * 3 + 1) = (1, 0, 0, 0, T_objInit) := rfl
theorem xd_Life_init : xd X_Life_init = 1 := rfl
theorem xrb_Life_init : xrb X_Life_init = 3 := rfl
theorem xin_Life_init : xin X_Life_init = true := rfl
set_option maxHeartbeats 4000000 in
set_option maxRecDepth 100000 in
theorem S_Life_init : Snd yX2_init cX2_init 1 none T_Life_init 1 4 2400 := by
  refine snd_of (X := X_Life_init) (P := P_Life_init) (tb := tb_Life_init) (own := RX2) (by decide) rfl rfl (by decide +kernel) xok_Life_init rfl rk3 (fun h => by first | rfl | cases h) ?_
  intro as M k has hM hT0
  obtain ⟨sz, sl, lay, ρ, σ, τ⟩ := M
  obtain ⟨o, as1, e, hlo, hT1⟩ := mkT_r hT0
  clear hT0
  subst e
  obtain ⟨e, hT⟩ := hT1
  subst e
  replace hlo : lay o = (12, 0) := hlo
  clear has
  replace hM : ∀ a i, -2147483648 ≤ σ a i ∧ σ a i ≤ 2147483647 := hM
  replace hT : TF_Life_init o sz sl lay ρ σ τ k := hT
  unfold TF_Life_init at hT
  obtain ⟨⟨hsz, ho, hz⟩, hT⟩ := hT
  subst hsz
  refine ⟨Nat.le_of_ble_eq_true rfl, fun _ _ _ => False, fun _ _ _ => 0, 33, ?_, fun _ _ _ _ _ _ h => h.elim⟩
  unfold wps
  simp only [si_iload_n0, si_iload_n1, si_iload_n2, si_iload_n3, si_iload, si_lload_n0, si_lload_n1, si_lload_n2, si_lload_n3, si_lload, si_aload_n0, si_aload_n1, si_aload_n2, si_aload_n3, si_aload, si_istore_n0, si_istore_n1, si_istore_n2, si_istore_n3, si_istore, si_astore_n0, si_astore_n1, si_astore_n2, si_astore_n3, si_astore, si_lstore_n0, si_lstore_n1, si_lstore_n2, si_lstore_n3, si_lstore, si_iconst, si_bipush, si_sipush, si_ldc, si_ldc2_w, si_lconst0, si_lconst1, si_aconst_null, si_iinc, si_dup, si_dup2, si_iadd, si_isub, si_imul, si_idiv, si_irem, si_iand, si_ior, si_ishl, si_ishr, si_ladd, si_lmul, si_lor, si_lxor, si_lshl, si_lushr, si_lcmp, si_i2b, si_i2l, si_l2i, si_icmp_eq, si_icmp_ne, si_icmp_lt, si_icmp_ge, si_icmp_gt, si_icmp_le, si_if_eq, si_if_ne, si_if_lt, si_if_ge, si_if_gt, si_if_le, si_ifnull, si_ifnonnull, si_goto, si_tableswitch, si_lookupswitch, si_getfield, si_putfield, si_getstatic, si_iaload, si_baload, si_laload, si_aaload, si_iastore, si_bastore, si_lastore, si_aastore, si_arraylength, si_new, si_newarray, si_anewarray, si_invokevirtual, si_invokespecial, si_invokestatic, si_ireturn, si_lreturn, si_areturn, si_return_, pI_e, pL_e, pR_e, pA_r, pA_n, pN_n, pN_r, oI_e, oL_e, oA_r, oA_n, lget_e, lrm1_0, lrm2_0, lrm1_i, lrm1_r, lrm1_n, lrm1_l, lrm2_i, lrm2_r, lrm2_n, lrm2_l, popN_0, popN_s, acat_i, acat_l, acat_r, acat_n, stw_0, stw_s, psh_s, psh_n, wgf_r, wgf_i, wgf_b, wgf_n, wgf_m, wpf_i, wpf_r, wpf_b, wnew_e, callE_e, rbk_0, rbk_1, tsw_0, tsw_s, lsw_0, lsw_s, wp_s, wq_t, wq_f, oV_e, pick_0, pick_s, oZ_e, oY_e, r_Life_init_0, r_Life_init_1, r_Life_init_4, r_Life_init_5, r_Life_init_8, r_Life_init_10, r_Life_init_13, r_Life_init_14, r_Life_init_17, r_Life_init_19, r_Life_init_22, r_Life_init_23, r_Life_init_26, r_Life_init_28, r_Life_init_31, r_Life_init_32, r_Life_init_35, r_Life_init_37, r_Life_init_40, r_Life_init_41, r_Life_init_42, r_Life_init_45, r_Life_init_46, r_Life_init_47, r_Life_init_50, xf_Life_init_9, xf_Life_init_15, xf_Life_init_18, xf_Life_init_21, xf_Life_init_24, xf_Life_init_28, xe_Life_init_13, xd_Life_init, xrb_Life_init, xin_Life_init, akd_i, akd_b, akd_z, akd_l, Nat.add_assoc, Nat.le_add_right, hlo, Nat.reduceAdd, Nat.reduceMul, Nat.reduceEqDiff, reduceIte, Int.reduceNeg, Int.reduceLE, Int.reduceLT, Int.reduceAdd, Int.reduceSub, Int.reduceToNat, true_and, and_true, inR_e, Nat.reduceLT, Nat.reduceLeDiff, reduceCtorEq, Nat.add_zero, Nat.zero_add, or_false, false_or, or_true, true_or, not_true_eq_false, not_false_eq_true, Classical.not_not, Nat.add_eq_zero_iff, and_false, false_and, Int.reduceEq, List.mem_cons, List.not_mem_nil, forall_eq_or_imp, forall_eq, false_implies, implies_true, forall_const, aargs_0, aargs_i, aargs_r, aargs_l, aargs_n, nfT_e, eq_self, and_self, Nat.le_refl, fu_s, fu_fu, iu_iu, iu_s, fu_am, fu_a0, fu_0a, iu_l, Nat.reduceBEq, Int.reduceBEq, T_objInit_e]
  refine hT _ _ _ _ (fun a ha => ⟨?_, ?_, ?_, ?_⟩) ?_ ?_
  · repeat rw [fu_n (by omega)]
  · repeat rw [fu_n (by omega)]
  · repeat rw [fu_n (by omega)]
  · repeat rw [fu_n (by omega)]
  · unfold LLife
    simp only [fu_s, fu_am, fu_a0, fu_0a, iu_s, iu_l, Nat.reduceBEq, Int.reduceBEq]
    simp only [hlo, true_and, and_true]
  · intro a ha i
    have h : a = o ∨ a = o + 1 ∨ a = o + 2 ∨ a = o + 3 ∨ a = o + 4 := by omega
    rcases h with rfl | rfl | rfl | rfl | rfl
    · simp only [fu_s, fu_am, fu_a0, fu_0a, iu_s, iu_l, Nat.reduceBEq, Int.reduceBEq]
      repeat (first | exact hz i | refine iu_z (fun i => ?_))
    · simp only [fu_s, fu_am, fu_a0, fu_0a, iu_s, iu_l, Nat.reduceBEq, Int.reduceBEq]
    · simp only [fu_s, fu_am, fu_a0, fu_0a, iu_s, iu_l, Nat.reduceBEq, Int.reduceBEq]
    · simp only [fu_s, fu_am, fu_a0, fu_0a, iu_s, iu_l, Nat.reduceBEq, Int.reduceBEq]
    · simp only [fu_s, fu_am, fu_a0, fu_0a, iu_s, iu_l, Nat.reduceBEq, Int.reduceBEq]
theorem co_X4_13 : CallOK RX4 (.invokespecial 3) (1, 0, 0, 0, T_objInit) := call_objInit (by decide +kernel) (by decide +kernel) (by decide +kernel)
def TF_Roots_init (o : Nat) (sz sl : Nat) (lay : Nat → Nat × Int) (ρ : Nat → Int → Nat) (σ : Nat → Int → Int) (τ : Nat → Int → Int64) (k : Option AV → Mm → Prop) : Prop := (sz = o + 1 ∧ 1 ≤ o ∧ ∀ i, σ o i = 0) ∧ (∀ (lay2 : Nat → Nat × Int) (ρ2 : Nat → Int → Nat) (σ2 : Nat → Int → Int) (τ2 : Nat → Int → Int64), NF lay lay2 ρ ρ2 σ σ2 τ τ2 o → LRoots lay2 ρ2 o → Zr σ2 o 2 → k none (o + 3, sl + 200, lay2, ρ2, σ2, τ2))
def T_Roots_init : Tr := mkT 4 fun o as M k => as = [] ∧ TF_Roots_init o M.1 M.2.1 M.2.2.1 M.2.2.2.1 M.2.2.2.2.1 M.2.2.2.2.2 k
theorem T_Roots_init_e {o : Nat} {sz sl : Nat} {lay : Nat → Nat × Int} {ρ : Nat → Int → Nat} {σ : Nat → Int → Int} {τ : Nat → Int → Int64} {k : Option AV → Mm → Prop} : T_Roots_init [vR o] (sz, sl, lay, ρ, σ, τ) k = (lay o = (14, 0) ∧ TF_Roots_init o sz sl lay ρ σ τ k) := by simp [T_Roots_init, mkT_e, pI_e, pR_e, pL_e]
theorem T_Roots_init_r (as : List AV) (M : Mm) (k : Option AV → Mm → Prop) (h : T_Roots_init as M k) : ∃ b As, as = vR b :: As ∧ M.2.2.1 b = (10 + 4, 0) := by
  obtain ⟨b, As, h1, h2, -⟩ := mkT_r h
  exact ⟨b, As, h1, h2⟩
def tb_Roots_init : List (Nat × Option (List Nat) × Instr × List Nat) := [(0, none, .aload_n 0, []), (1, none, .invokespecial 3, []), (4, none, .aload_n 0, []), (5, none, .bipush 100, []), (7, none, .newarray .int, []), (9, none, .putfield 9, []), (12, none, .aload_n 0, []), (13, none, .bipush 100, []), (15, none, .newarray .int, []), (17, none, .putfield 15, []), (20, none, .aload_n 0, []), (21, none, .iconst 0, []), (22, none, .putfield 18, []), (25, none, .aload_n 0, []), (26, none, .iconst 0, []), (27, none, .putfield 22, []), (30, none, .return_, [])]
def P_Roots_init : Nat → Option (List Nat) × Instr × List Nat := plk tb_Roots_init
theorem r_Roots_init_0 : P_Roots_init 0 = (none, .aload_n 0, []) := by decide +kernel
theorem r_Roots_init_1 : P_Roots_init 1 = (none, .invokespecial 3, []) := by decide +kernel
theorem r_Roots_init_4 : P_Roots_init 4 = (none, .aload_n 0, []) := by decide +kernel
theorem r_Roots_init_5 : P_Roots_init 5 = (none, .bipush 100, []) := by decide +kernel
theorem r_Roots_init_7 : P_Roots_init 7 = (none, .newarray .int, []) := by decide +kernel
theorem r_Roots_init_9 : P_Roots_init 9 = (none, .putfield 9, []) := by decide +kernel
theorem r_Roots_init_12 : P_Roots_init 12 = (none, .aload_n 0, []) := by decide +kernel
theorem r_Roots_init_13 : P_Roots_init 13 = (none, .bipush 100, []) := by decide +kernel
theorem r_Roots_init_15 : P_Roots_init 15 = (none, .newarray .int, []) := by decide +kernel
theorem r_Roots_init_17 : P_Roots_init 17 = (none, .putfield 15, []) := by decide +kernel
theorem r_Roots_init_20 : P_Roots_init 20 = (none, .aload_n 0, []) := by decide +kernel
theorem r_Roots_init_21 : P_Roots_init 21 = (none, .iconst 0, []) := by decide +kernel
theorem r_Roots_init_22 : P_Roots_init 22 = (none, .putfield 18, []) := by decide +kernel
theorem r_Roots_init_25 : P_Roots_init 25 = (none, .aload_n 0, []) := by decide +kernel
theorem r_Roots_init_26 : P_Roots_init 26 = (none, .iconst 0, []) := by decide +kernel
theorem r_Roots_init_27 : P_Roots_init 27 = (none, .putfield 22, []) := by decide +kernel
theorem r_Roots_init_30 : P_Roots_init 30 = (none, .return_, []) := by decide +kernel
def E_Roots_init : List (Nat × Ent) := [(13, (1, 0, 0, 0, T_objInit))]
def X_Roots_init : Cx := (llk (0, 0, 9) ftX4, llk 99 ntX4, llk none kcX4, llk none klX4, llk dEnt E_Roots_init, 1, 3, true)
theorem xok_Roots_init : Xok RX4 X_Roots_init := xok_of ftX4_ok ntX4_ok kcX4_ok klX4_ok (E := E_Roots_init) (List.forall_mem_cons.mpr ⟨co_X4_13, fun _ h => absurd h List.not_mem_nil⟩)
theorem xf_Roots_init_9 : xfl X_Roots_init 9 = (4, 0, 1) := by decide +kernel
theorem xf_Roots_init_15 : xfl X_Roots_init 15 = (4, 1, 1) := by decide +kernel
theorem xf_Roots_init_18 : xfl X_Roots_init 18 = (4, 2, 0) := by decide +kernel
theorem xf_Roots_init_22 : xfl X_Roots_init 22 = (4, 3, 0) := by decide +kernel
theorem xe_Roots_init_13 : xE X_Roots_init (4 * 3 + 1) = (1, 0, 0, 0, T_objInit) := rfl
theorem xd_Roots_init : xd X_Roots_init = 1 := rfl
theorem xrb_Roots_init : xrb X_Roots_init = 3 := rfl
theorem xin_Roots_init : xin X_Roots_init = true := rfl
set_option maxHeartbeats 4000000 in
set_option maxRecDepth 100000 in
theorem S_Roots_init : Snd yX4_init cX4_init 1 none T_Roots_init 1 2 200 := by
  refine snd_of (X := X_Roots_init) (P := P_Roots_init) (tb := tb_Roots_init) (own := RX4) (by decide) rfl rfl (by decide +kernel) xok_Roots_init rfl rk3 (fun h => by first | rfl | cases h) ?_
  intro as M k has hM hT0
  obtain ⟨sz, sl, lay, ρ, σ, τ⟩ := M
  obtain ⟨o, as1, e, hlo, hT1⟩ := mkT_r hT0
  clear hT0
  subst e
  obtain ⟨e, hT⟩ := hT1
  subst e
  replace hlo : lay o = (14, 0) := hlo
  clear has
  replace hM : ∀ a i, -2147483648 ≤ σ a i ∧ σ a i ≤ 2147483647 := hM
  replace hT : TF_Roots_init o sz sl lay ρ σ τ k := hT
  unfold TF_Roots_init at hT
  obtain ⟨⟨hsz, ho, hz⟩, hT⟩ := hT
  subst hsz
  refine ⟨Nat.le_of_ble_eq_true rfl, fun _ _ _ => False, fun _ _ _ => 0, 25, ?_, fun _ _ _ _ _ _ h => h.elim⟩
  unfold wps
  simp only [si_iload_n0, si_iload_n1, si_iload_n2, si_iload_n3, si_iload, si_lload_n0, si_lload_n1, si_lload_n2, si_lload_n3, si_lload, si_aload_n0, si_aload_n1, si_aload_n2, si_aload_n3, si_aload, si_istore_n0, si_istore_n1, si_istore_n2, si_istore_n3, si_istore, si_astore_n0, si_astore_n1, si_astore_n2, si_astore_n3, si_astore, si_lstore_n0, si_lstore_n1, si_lstore_n2, si_lstore_n3, si_lstore, si_iconst, si_bipush, si_sipush, si_ldc, si_ldc2_w, si_lconst0, si_lconst1, si_aconst_null, si_iinc, si_dup, si_dup2, si_iadd, si_isub, si_imul, si_idiv, si_irem, si_iand, si_ior, si_ishl, si_ishr, si_ladd, si_lmul, si_lor, si_lxor, si_lshl, si_lushr, si_lcmp, si_i2b, si_i2l, si_l2i, si_icmp_eq, si_icmp_ne, si_icmp_lt, si_icmp_ge, si_icmp_gt, si_icmp_le, si_if_eq, si_if_ne, si_if_lt, si_if_ge, si_if_gt, si_if_le, si_ifnull, si_ifnonnull, si_goto, si_tableswitch, si_lookupswitch, si_getfield, si_putfield, si_getstatic, si_iaload, si_baload, si_laload, si_aaload, si_iastore, si_bastore, si_lastore, si_aastore, si_arraylength, si_new, si_newarray, si_anewarray, si_invokevirtual, si_invokespecial, si_invokestatic, si_ireturn, si_lreturn, si_areturn, si_return_, pI_e, pL_e, pR_e, pA_r, pA_n, pN_n, pN_r, oI_e, oL_e, oA_r, oA_n, lget_e, lrm1_0, lrm2_0, lrm1_i, lrm1_r, lrm1_n, lrm1_l, lrm2_i, lrm2_r, lrm2_n, lrm2_l, popN_0, popN_s, acat_i, acat_l, acat_r, acat_n, stw_0, stw_s, psh_s, psh_n, wgf_r, wgf_i, wgf_b, wgf_n, wgf_m, wpf_i, wpf_r, wpf_b, wnew_e, callE_e, rbk_0, rbk_1, tsw_0, tsw_s, lsw_0, lsw_s, wp_s, wq_t, wq_f, oV_e, pick_0, pick_s, oZ_e, oY_e, r_Roots_init_0, r_Roots_init_1, r_Roots_init_4, r_Roots_init_5, r_Roots_init_7, r_Roots_init_9, r_Roots_init_12, r_Roots_init_13, r_Roots_init_15, r_Roots_init_17, r_Roots_init_20, r_Roots_init_21, r_Roots_init_22, r_Roots_init_25, r_Roots_init_26, r_Roots_init_27, r_Roots_init_30, xf_Roots_init_9, xf_Roots_init_15, xf_Roots_init_18, xf_Roots_init_22, xe_Roots_init_13, xd_Roots_init, xrb_Roots_init, xin_Roots_init, akd_i, akd_b, akd_z, akd_l, Nat.add_assoc, Nat.le_add_right, hlo, Nat.reduceAdd, Nat.reduceMul, Nat.reduceEqDiff, reduceIte, Int.reduceNeg, Int.reduceLE, Int.reduceLT, Int.reduceAdd, Int.reduceSub, Int.reduceToNat, true_and, and_true, inR_e, Nat.reduceLT, Nat.reduceLeDiff, reduceCtorEq, Nat.add_zero, Nat.zero_add, or_false, false_or, or_true, true_or, not_true_eq_false, not_false_eq_true, Classical.not_not, Nat.add_eq_zero_iff, and_false, false_and, Int.reduceEq, List.mem_cons, List.not_mem_nil, forall_eq_or_imp, forall_eq, false_implies, implies_true, forall_const, aargs_0, aargs_i, aargs_r, aargs_l, aargs_n, nfT_e, eq_self, and_self, Nat.le_refl, fu_s, fu_fu, iu_iu, iu_s, fu_am, fu_a0, fu_0a, iu_l, Nat.reduceBEq, Int.reduceBEq, T_objInit_e]
  refine hT _ _ _ _ (fun a ha => ⟨?_, ?_, ?_, ?_⟩) ?_ ?_
  · repeat rw [fu_n (by omega)]
  · repeat rw [fu_n (by omega)]
  · repeat rw [fu_n (by omega)]
  · repeat rw [fu_n (by omega)]
  · unfold LRoots
    simp only [fu_s, fu_am, fu_a0, fu_0a, iu_s, iu_l, Nat.reduceBEq, Int.reduceBEq]
    simp only [hlo, true_and, and_true]
  · intro a ha i
    have h : a = o ∨ a = o + 1 ∨ a = o + 2 := by omega
    rcases h with rfl | rfl | rfl
    · simp only [fu_s, fu_am, fu_a0, fu_0a, iu_s, iu_l, Nat.reduceBEq, Int.reduceBEq]
      repeat (first | exact hz i | refine iu_z (fun i => ?_))
    · simp only [fu_s, fu_am, fu_a0, fu_0a, iu_s, iu_l, Nat.reduceBEq, Int.reduceBEq]
    · simp only [fu_s, fu_am, fu_a0, fu_0a, iu_s, iu_l, Nat.reduceBEq, Int.reduceBEq]
theorem co_X5_13 : CallOK RX5 (.invokespecial 3) (1, 0, 0, 0, T_objInit) := call_objInit (by decide +kernel) (by decide +kernel) (by decide +kernel)
def TF_Spread_init (o : Nat) (sz sl : Nat) (lay : Nat → Nat × Int) (ρ : Nat → Int → Nat) (σ : Nat → Int → Int) (τ : Nat → Int → Int64) (k : Option AV → Mm → Prop) : Prop := (sz = o + 1 ∧ 1 ≤ o ∧ ∀ i, σ o i = 0) ∧ (∀ (lay2 : Nat → Nat × Int) (ρ2 : Nat → Int → Nat) (σ2 : Nat → Int → Int) (τ2 : Nat → Int → Int64), NF lay lay2 ρ ρ2 σ σ2 τ τ2 o → LSpread lay2 ρ2 o → Zr σ2 o 3 → k none (o + 4, sl + 1800, lay2, ρ2, σ2, τ2))
def T_Spread_init : Tr := mkT 5 fun o as M k => as = [] ∧ TF_Spread_init o M.1 M.2.1 M.2.2.1 M.2.2.2.1 M.2.2.2.2.1 M.2.2.2.2.2 k
theorem T_Spread_init_e {o : Nat} {sz sl : Nat} {lay : Nat → Nat × Int} {ρ : Nat → Int → Nat} {σ : Nat → Int → Int} {τ : Nat → Int → Int64} {k : Option AV → Mm → Prop} : T_Spread_init [vR o] (sz, sl, lay, ρ, σ, τ) k = (lay o = (15, 0) ∧ TF_Spread_init o sz sl lay ρ σ τ k) := by simp [T_Spread_init, mkT_e, pI_e, pR_e, pL_e]
theorem T_Spread_init_r (as : List AV) (M : Mm) (k : Option AV → Mm → Prop) (h : T_Spread_init as M k) : ∃ b As, as = vR b :: As ∧ M.2.2.1 b = (10 + 5, 0) := by
  obtain ⟨b, As, h1, h2, -⟩ := mkT_r h
  exact ⟨b, As, h1, h2⟩
def tb_Spread_init : List (Nat × Option (List Nat) × Instr × List Nat) := [(0, none, .aload_n 0, []), (1, none, .invokespecial 3, []), (4, none, .aload_n 0, []), (5, none, .sipush 600, []), (8, none, .newarray .int, []), (10, none, .putfield 9, []), (13, none, .aload_n 0, []), (14, none, .sipush 600, []), (17, none, .newarray .int, []), (19, none, .putfield 15, []), (22, none, .aload_n 0, []), (23, none, .sipush 600, []), (26, none, .newarray .int, []), (28, none, .putfield 18, []), (31, none, .aload_n 0, []), (32, none, .iconst 0, []), (33, none, .putfield 21, []), (36, none, .return_, [])]
def P_Spread_init : Nat → Option (List Nat) × Instr × List Nat := plk tb_Spread_init
theorem r_Spread_init_0 : P_Spread_init 0 = (none, .aload_n 0, []) := by decide +kernel
theorem r_Spread_init_1 : P_Spread_init 1 = (none, .invokespecial 3, []) := by decide +kernel
theorem r_Spread_init_4 : P_Spread_init 4 = (none, .aload_n 0, []) := by decide +kernel
theorem r_Spread_init_5 : P_Spread_init 5 = (none, .sipush 600, []) := by decide +kernel
theorem r_Spread_init_8 : P_Spread_init 8 = (none, .newarray .int, []) := by decide +kernel
theorem r_Spread_init_10 : P_Spread_init 10 = (none, .putfield 9, []) := by decide +kernel
theorem r_Spread_init_13 : P_Spread_init 13 = (none, .aload_n 0, []) := by decide +kernel
theorem r_Spread_init_14 : P_Spread_init 14 = (none, .sipush 600, []) := by decide +kernel
theorem r_Spread_init_17 : P_Spread_init 17 = (none, .newarray .int, []) := by decide +kernel
theorem r_Spread_init_19 : P_Spread_init 19 = (none, .putfield 15, []) := by decide +kernel
theorem r_Spread_init_22 : P_Spread_init 22 = (none, .aload_n 0, []) := by decide +kernel
theorem r_Spread_init_23 : P_Spread_init 23 = (none, .sipush 600, []) := by decide +kernel
theorem r_Spread_init_26 : P_Spread_init 26 = (none, .newarray .int, []) := by decide +kernel
theorem r_Spread_init_28 : P_Spread_init 28 = (none, .putfield 18, []) := by decide +kernel
theorem r_Spread_init_31 : P_Spread_init 31 = (none, .aload_n 0, []) := by decide +kernel
theorem r_Spread_init_32 : P_Spread_init 32 = (none, .iconst 0, []) := by decide +kernel
theorem r_Spread_init_33 : P_Spread_init 33 = (none, .putfield 21, []) := by decide +kernel
theorem r_Spread_init_36 : P_Spread_init 36 = (none, .return_, []) := by decide +kernel
def E_Spread_init : List (Nat × Ent) := [(13, (1, 0, 0, 0, T_objInit))]
def X_Spread_init : Cx := (llk (0, 0, 9) ftX5, llk 99 ntX5, llk none kcX5, llk none klX5, llk dEnt E_Spread_init, 1, 3, true)
theorem xok_Spread_init : Xok RX5 X_Spread_init := xok_of ftX5_ok ntX5_ok kcX5_ok klX5_ok (E := E_Spread_init) (List.forall_mem_cons.mpr ⟨co_X5_13, fun _ h => absurd h List.not_mem_nil⟩)
theorem xf_Spread_init_9 : xfl X_Spread_init 9 = (5, 0, 1) := by decide +kernel
theorem xf_Spread_init_15 : xfl X_Spread_init 15 = (5, 1, 1) := by decide +kernel
theorem xf_Spread_init_18 : xfl X_Spread_init 18 = (5, 2, 1) := by decide +kernel
theorem xf_Spread_init_21 : xfl X_Spread_init 21 = (5, 3, 0) := by decide +kernel
theorem xe_Spread_init_13 : xE X_Spread_init (4 * 3 + 1) = (1, 0, 0, 0, T_objInit) := rfl
theorem xd_Spread_init : xd X_Spread_init = 1 := rfl
theorem xrb_Spread_init : xrb X_Spread_init = 3 := rfl
theorem xin_Spread_init : xin X_Spread_init = true := rfl
set_option maxHeartbeats 4000000 in
set_option maxRecDepth 100000 in
theorem S_Spread_init : Snd yX5_init cX5_init 1 none T_Spread_init 1 3 1800 := by
  refine snd_of (X := X_Spread_init) (P := P_Spread_init) (tb := tb_Spread_init) (own := RX5) (by decide) rfl rfl (by decide +kernel) xok_Spread_init rfl rk3 (fun h => by first | rfl | cases h) ?_
  intro as M k has hM hT0
  obtain ⟨sz, sl, lay, ρ, σ, τ⟩ := M
  obtain ⟨o, as1, e, hlo, hT1⟩ := mkT_r hT0
  clear hT0
  subst e
  obtain ⟨e, hT⟩ := hT1
  subst e
  replace hlo : lay o = (15, 0) := hlo
  clear has
  replace hM : ∀ a i, -2147483648 ≤ σ a i ∧ σ a i ≤ 2147483647 := hM
  replace hT : TF_Spread_init o sz sl lay ρ σ τ k := hT
  unfold TF_Spread_init at hT
  obtain ⟨⟨hsz, ho, hz⟩, hT⟩ := hT
  subst hsz
  refine ⟨Nat.le_of_ble_eq_true rfl, fun _ _ _ => False, fun _ _ _ => 0, 26, ?_, fun _ _ _ _ _ _ h => h.elim⟩
  unfold wps
  simp only [si_iload_n0, si_iload_n1, si_iload_n2, si_iload_n3, si_iload, si_lload_n0, si_lload_n1, si_lload_n2, si_lload_n3, si_lload, si_aload_n0, si_aload_n1, si_aload_n2, si_aload_n3, si_aload, si_istore_n0, si_istore_n1, si_istore_n2, si_istore_n3, si_istore, si_astore_n0, si_astore_n1, si_astore_n2, si_astore_n3, si_astore, si_lstore_n0, si_lstore_n1, si_lstore_n2, si_lstore_n3, si_lstore, si_iconst, si_bipush, si_sipush, si_ldc, si_ldc2_w, si_lconst0, si_lconst1, si_aconst_null, si_iinc, si_dup, si_dup2, si_iadd, si_isub, si_imul, si_idiv, si_irem, si_iand, si_ior, si_ishl, si_ishr, si_ladd, si_lmul, si_lor, si_lxor, si_lshl, si_lushr, si_lcmp, si_i2b, si_i2l, si_l2i, si_icmp_eq, si_icmp_ne, si_icmp_lt, si_icmp_ge, si_icmp_gt, si_icmp_le, si_if_eq, si_if_ne, si_if_lt, si_if_ge, si_if_gt, si_if_le, si_ifnull, si_ifnonnull, si_goto, si_tableswitch, si_lookupswitch, si_getfield, si_putfield, si_getstatic, si_iaload, si_baload, si_laload, si_aaload, si_iastore, si_bastore, si_lastore, si_aastore, si_arraylength, si_new, si_newarray, si_anewarray, si_invokevirtual, si_invokespecial, si_invokestatic, si_ireturn, si_lreturn, si_areturn, si_return_, pI_e, pL_e, pR_e, pA_r, pA_n, pN_n, pN_r, oI_e, oL_e, oA_r, oA_n, lget_e, lrm1_0, lrm2_0, lrm1_i, lrm1_r, lrm1_n, lrm1_l, lrm2_i, lrm2_r, lrm2_n, lrm2_l, popN_0, popN_s, acat_i, acat_l, acat_r, acat_n, stw_0, stw_s, psh_s, psh_n, wgf_r, wgf_i, wgf_b, wgf_n, wgf_m, wpf_i, wpf_r, wpf_b, wnew_e, callE_e, rbk_0, rbk_1, tsw_0, tsw_s, lsw_0, lsw_s, wp_s, wq_t, wq_f, oV_e, pick_0, pick_s, oZ_e, oY_e, r_Spread_init_0, r_Spread_init_1, r_Spread_init_4, r_Spread_init_5, r_Spread_init_8, r_Spread_init_10, r_Spread_init_13, r_Spread_init_14, r_Spread_init_17, r_Spread_init_19, r_Spread_init_22, r_Spread_init_23, r_Spread_init_26, r_Spread_init_28, r_Spread_init_31, r_Spread_init_32, r_Spread_init_33, r_Spread_init_36, xf_Spread_init_9, xf_Spread_init_15, xf_Spread_init_18, xf_Spread_init_21, xe_Spread_init_13, xd_Spread_init, xrb_Spread_init, xin_Spread_init, akd_i, akd_b, akd_z, akd_l, Nat.add_assoc, Nat.le_add_right, hlo, Nat.reduceAdd, Nat.reduceMul, Nat.reduceEqDiff, reduceIte, Int.reduceNeg, Int.reduceLE, Int.reduceLT, Int.reduceAdd, Int.reduceSub, Int.reduceToNat, true_and, and_true, inR_e, Nat.reduceLT, Nat.reduceLeDiff, reduceCtorEq, Nat.add_zero, Nat.zero_add, or_false, false_or, or_true, true_or, not_true_eq_false, not_false_eq_true, Classical.not_not, Nat.add_eq_zero_iff, and_false, false_and, Int.reduceEq, List.mem_cons, List.not_mem_nil, forall_eq_or_imp, forall_eq, false_implies, implies_true, forall_const, aargs_0, aargs_i, aargs_r, aargs_l, aargs_n, nfT_e, eq_self, and_self, Nat.le_refl, fu_s, fu_fu, iu_iu, iu_s, fu_am, fu_a0, fu_0a, iu_l, Nat.reduceBEq, Int.reduceBEq, T_objInit_e]
  refine hT _ _ _ _ (fun a ha => ⟨?_, ?_, ?_, ?_⟩) ?_ ?_
  · repeat rw [fu_n (by omega)]
  · repeat rw [fu_n (by omega)]
  · repeat rw [fu_n (by omega)]
  · repeat rw [fu_n (by omega)]
  · unfold LSpread
    simp only [fu_s, fu_am, fu_a0, fu_0a, iu_s, iu_l, Nat.reduceBEq, Int.reduceBEq]
    simp only [hlo, true_and, and_true]
  · intro a ha i
    have h : a = o ∨ a = o + 1 ∨ a = o + 2 ∨ a = o + 3 := by omega
    rcases h with rfl | rfl | rfl | rfl
    · simp only [fu_s, fu_am, fu_a0, fu_0a, iu_s, iu_l, Nat.reduceBEq, Int.reduceBEq]
      repeat (first | exact hz i | refine iu_z (fun i => ?_))
    · simp only [fu_s, fu_am, fu_a0, fu_0a, iu_s, iu_l, Nat.reduceBEq, Int.reduceBEq]
    · simp only [fu_s, fu_am, fu_a0, fu_0a, iu_s, iu_l, Nat.reduceBEq, Int.reduceBEq]
    · simp only [fu_s, fu_am, fu_a0, fu_0a, iu_s, iu_l, Nat.reduceBEq, Int.reduceBEq]
theorem co_X6_13 : CallOK RX6 (.invokespecial 3) (1, 0, 0, 0, T_objInit) := call_objInit (by decide +kernel) (by decide +kernel) (by decide +kernel)
def TF_Tape_init (o : Nat) (sz sl : Nat) (lay : Nat → Nat × Int) (ρ : Nat → Int → Nat) (σ : Nat → Int → Int) (τ : Nat → Int → Int64) (k : Option AV → Mm → Prop) : Prop := (sz = o + 1 ∧ 1 ≤ o ∧ ∀ i, σ o i = 0) ∧ (∀ (lay2 : Nat → Nat × Int) (ρ2 : Nat → Int → Nat) (σ2 : Nat → Int → Int) (τ2 : Nat → Int → Int64), NF lay lay2 ρ ρ2 σ σ2 τ τ2 o → LTape lay2 ρ2 o → Zr σ2 o 1 → k none (o + 2, sl + 8000, lay2, ρ2, σ2, τ2))
def T_Tape_init : Tr := mkT 6 fun o as M k => as = [] ∧ TF_Tape_init o M.1 M.2.1 M.2.2.1 M.2.2.2.1 M.2.2.2.2.1 M.2.2.2.2.2 k
theorem T_Tape_init_e {o : Nat} {sz sl : Nat} {lay : Nat → Nat × Int} {ρ : Nat → Int → Nat} {σ : Nat → Int → Int} {τ : Nat → Int → Int64} {k : Option AV → Mm → Prop} : T_Tape_init [vR o] (sz, sl, lay, ρ, σ, τ) k = (lay o = (16, 0) ∧ TF_Tape_init o sz sl lay ρ σ τ k) := by simp [T_Tape_init, mkT_e, pI_e, pR_e, pL_e]
theorem T_Tape_init_r (as : List AV) (M : Mm) (k : Option AV → Mm → Prop) (h : T_Tape_init as M k) : ∃ b As, as = vR b :: As ∧ M.2.2.1 b = (10 + 6, 0) := by
  obtain ⟨b, As, h1, h2, -⟩ := mkT_r h
  exact ⟨b, As, h1, h2⟩
def tb_Tape_init : List (Nat × Option (List Nat) × Instr × List Nat) := [(0, none, .aload_n 0, []), (1, none, .invokespecial 3, []), (4, none, .aload_n 0, []), (5, none, .sipush 8000, []), (8, none, .newarray .byte, []), (10, none, .putfield 9, []), (13, none, .aload_n 0, []), (14, none, .iconst 0, []), (15, none, .putfield 15, []), (18, none, .return_, [])]
def P_Tape_init : Nat → Option (List Nat) × Instr × List Nat := plk tb_Tape_init
theorem r_Tape_init_0 : P_Tape_init 0 = (none, .aload_n 0, []) := by decide +kernel
theorem r_Tape_init_1 : P_Tape_init 1 = (none, .invokespecial 3, []) := by decide +kernel
theorem r_Tape_init_4 : P_Tape_init 4 = (none, .aload_n 0, []) := by decide +kernel
theorem r_Tape_init_5 : P_Tape_init 5 = (none, .sipush 8000, []) := by decide +kernel
theorem r_Tape_init_8 : P_Tape_init 8 = (none, .newarray .byte, []) := by decide +kernel
theorem r_Tape_init_10 : P_Tape_init 10 = (none, .putfield 9, []) := by decide +kernel
theorem r_Tape_init_13 : P_Tape_init 13 = (none, .aload_n 0, []) := by decide +kernel
theorem r_Tape_init_14 : P_Tape_init 14 = (none, .iconst 0, []) := by decide +kernel
theorem r_Tape_init_15 : P_Tape_init 15 = (none, .putfield 15, []) := by decide +kernel
theorem r_Tape_init_18 : P_Tape_init 18 = (none, .return_, []) := by decide +kernel
def E_Tape_init : List (Nat × Ent) := [(13, (1, 0, 0, 0, T_objInit))]
def X_Tape_init : Cx := (llk (0, 0, 9) ftX6, llk 99 ntX6, llk none kcX6, llk none klX6, llk dEnt E_Tape_init, 1, 3, true)
theorem xok_Tape_init : Xok RX6 X_Tape_init := xok_of ftX6_ok ntX6_ok kcX6_ok klX6_ok (E := E_Tape_init) (List.forall_mem_cons.mpr ⟨co_X6_13, fun _ h => absurd h List.not_mem_nil⟩)
theorem xf_Tape_init_9 : xfl X_Tape_init 9 = (6, 0, 1) := by decide +kernel
theorem xf_Tape_init_15 : xfl X_Tape_init 15 = (6, 1, 0) := by decide +kernel
theorem xe_Tape_init_13 : xE X_Tape_init (4 * 3 + 1) = (1, 0, 0, 0, T_objInit) := rfl
theorem xd_Tape_init : xd X_Tape_init = 1 := rfl
theorem xrb_Tape_init : xrb X_Tape_init = 3 := rfl
theorem xin_Tape_init : xin X_Tape_init = true := rfl
set_option maxHeartbeats 4000000 in
set_option maxRecDepth 100000 in
theorem S_Tape_init : Snd yX6_init cX6_init 1 none T_Tape_init 1 1 8000 := by
  refine snd_of (X := X_Tape_init) (P := P_Tape_init) (tb := tb_Tape_init) (own := RX6) (by decide) rfl rfl (by decide +kernel) xok_Tape_init rfl rk3 (fun h => by first | rfl | cases h) ?_
  intro as M k has hM hT0
  obtain ⟨sz, sl, lay, ρ, σ, τ⟩ := M
  obtain ⟨o, as1, e, hlo, hT1⟩ := mkT_r hT0
  clear hT0
  subst e
  obtain ⟨e, hT⟩ := hT1
  subst e
  replace hlo : lay o = (16, 0) := hlo
  clear has
  replace hM : ∀ a i, -2147483648 ≤ σ a i ∧ σ a i ≤ 2147483647 := hM
  replace hT : TF_Tape_init o sz sl lay ρ σ τ k := hT
  unfold TF_Tape_init at hT
  obtain ⟨⟨hsz, ho, hz⟩, hT⟩ := hT
  subst hsz
  refine ⟨Nat.le_of_ble_eq_true rfl, fun _ _ _ => False, fun _ _ _ => 0, 18, ?_, fun _ _ _ _ _ _ h => h.elim⟩
  unfold wps
  simp only [si_iload_n0, si_iload_n1, si_iload_n2, si_iload_n3, si_iload, si_lload_n0, si_lload_n1, si_lload_n2, si_lload_n3, si_lload, si_aload_n0, si_aload_n1, si_aload_n2, si_aload_n3, si_aload, si_istore_n0, si_istore_n1, si_istore_n2, si_istore_n3, si_istore, si_astore_n0, si_astore_n1, si_astore_n2, si_astore_n3, si_astore, si_lstore_n0, si_lstore_n1, si_lstore_n2, si_lstore_n3, si_lstore, si_iconst, si_bipush, si_sipush, si_ldc, si_ldc2_w, si_lconst0, si_lconst1, si_aconst_null, si_iinc, si_dup, si_dup2, si_iadd, si_isub, si_imul, si_idiv, si_irem, si_iand, si_ior, si_ishl, si_ishr, si_ladd, si_lmul, si_lor, si_lxor, si_lshl, si_lushr, si_lcmp, si_i2b, si_i2l, si_l2i, si_icmp_eq, si_icmp_ne, si_icmp_lt, si_icmp_ge, si_icmp_gt, si_icmp_le, si_if_eq, si_if_ne, si_if_lt, si_if_ge, si_if_gt, si_if_le, si_ifnull, si_ifnonnull, si_goto, si_tableswitch, si_lookupswitch, si_getfield, si_putfield, si_getstatic, si_iaload, si_baload, si_laload, si_aaload, si_iastore, si_bastore, si_lastore, si_aastore, si_arraylength, si_new, si_newarray, si_anewarray, si_invokevirtual, si_invokespecial, si_invokestatic, si_ireturn, si_lreturn, si_areturn, si_return_, pI_e, pL_e, pR_e, pA_r, pA_n, pN_n, pN_r, oI_e, oL_e, oA_r, oA_n, lget_e, lrm1_0, lrm2_0, lrm1_i, lrm1_r, lrm1_n, lrm1_l, lrm2_i, lrm2_r, lrm2_n, lrm2_l, popN_0, popN_s, acat_i, acat_l, acat_r, acat_n, stw_0, stw_s, psh_s, psh_n, wgf_r, wgf_i, wgf_b, wgf_n, wgf_m, wpf_i, wpf_r, wpf_b, wnew_e, callE_e, rbk_0, rbk_1, tsw_0, tsw_s, lsw_0, lsw_s, wp_s, wq_t, wq_f, oV_e, pick_0, pick_s, oZ_e, oY_e, r_Tape_init_0, r_Tape_init_1, r_Tape_init_4, r_Tape_init_5, r_Tape_init_8, r_Tape_init_10, r_Tape_init_13, r_Tape_init_14, r_Tape_init_15, r_Tape_init_18, xf_Tape_init_9, xf_Tape_init_15, xe_Tape_init_13, xd_Tape_init, xrb_Tape_init, xin_Tape_init, akd_i, akd_b, akd_z, akd_l, Nat.add_assoc, Nat.le_add_right, hlo, Nat.reduceAdd, Nat.reduceMul, Nat.reduceEqDiff, reduceIte, Int.reduceNeg, Int.reduceLE, Int.reduceLT, Int.reduceAdd, Int.reduceSub, Int.reduceToNat, true_and, and_true, inR_e, Nat.reduceLT, Nat.reduceLeDiff, reduceCtorEq, Nat.add_zero, Nat.zero_add, or_false, false_or, or_true, true_or, not_true_eq_false, not_false_eq_true, Classical.not_not, Nat.add_eq_zero_iff, and_false, false_and, Int.reduceEq, List.mem_cons, List.not_mem_nil, forall_eq_or_imp, forall_eq, false_implies, implies_true, forall_const, aargs_0, aargs_i, aargs_r, aargs_l, aargs_n, nfT_e, eq_self, and_self, Nat.le_refl, fu_s, fu_fu, iu_iu, iu_s, fu_am, fu_a0, fu_0a, iu_l, Nat.reduceBEq, Int.reduceBEq, T_objInit_e]
  refine hT _ _ _ _ (fun a ha => ⟨?_, ?_, ?_, ?_⟩) ?_ ?_
  · repeat rw [fu_n (by omega)]
  · repeat rw [fu_n (by omega)]
  · repeat rw [fu_n (by omega)]
  · repeat rw [fu_n (by omega)]
  · unfold LTape
    simp only [fu_s, fu_am, fu_a0, fu_0a, iu_s, iu_l, Nat.reduceBEq, Int.reduceBEq]
    simp only [hlo, true_and, and_true]
  · intro a ha i
    have h : a = o ∨ a = o + 1 := by omega
    rcases h with rfl | rfl
    · simp only [fu_s, fu_am, fu_a0, fu_0a, iu_s, iu_l, Nat.reduceBEq, Int.reduceBEq]
      repeat (first | exact hz i | refine iu_z (fun i => ?_))
    · simp only [fu_s, fu_am, fu_a0, fu_0a, iu_s, iu_l, Nat.reduceBEq, Int.reduceBEq]
theorem co_X7_13 : CallOK RX7 (.invokespecial 3) (1, 0, 0, 0, T_objInit) := call_objInit (by decide +kernel) (by decide +kernel) (by decide +kernel)
def TF_Things_init (o : Nat) (sz sl : Nat) (lay : Nat → Nat × Int) (ρ : Nat → Int → Nat) (σ : Nat → Int → Int) (τ : Nat → Int → Int64) (k : Option AV → Mm → Prop) : Prop := (sz = o + 1 ∧ 1 ≤ o ∧ ∀ i, σ o i = 0) ∧ (∀ (lay2 : Nat → Nat × Int) (ρ2 : Nat → Int → Nat) (σ2 : Nat → Int → Int) (τ2 : Nat → Int → Int64), NF lay lay2 ρ ρ2 σ σ2 τ τ2 o → LThings lay2 ρ2 o → Zr σ2 o 12 → k none (o + 13, sl + 21402, lay2, ρ2, σ2, τ2))
def T_Things_init : Tr := mkT 7 fun o as M k => as = [] ∧ TF_Things_init o M.1 M.2.1 M.2.2.1 M.2.2.2.1 M.2.2.2.2.1 M.2.2.2.2.2 k
theorem T_Things_init_e {o : Nat} {sz sl : Nat} {lay : Nat → Nat × Int} {ρ : Nat → Int → Nat} {σ : Nat → Int → Int} {τ : Nat → Int → Int64} {k : Option AV → Mm → Prop} : T_Things_init [vR o] (sz, sl, lay, ρ, σ, τ) k = (lay o = (17, 0) ∧ TF_Things_init o sz sl lay ρ σ τ k) := by simp [T_Things_init, mkT_e, pI_e, pR_e, pL_e]
theorem T_Things_init_r (as : List AV) (M : Mm) (k : Option AV → Mm → Prop) (h : T_Things_init as M k) : ∃ b As, as = vR b :: As ∧ M.2.2.1 b = (10 + 7, 0) := by
  obtain ⟨b, As, h1, h2, -⟩ := mkT_r h
  exact ⟨b, As, h1, h2⟩
def tb_Things_init : List (Nat × Option (List Nat) × Instr × List Nat) := [(0, none, .aload_n 0, []), (1, none, .invokespecial 3, []), (4, none, .aload_n 0, []), (5, none, .sipush 600, []), (8, none, .newarray .int, []), (10, none, .putfield 9, []), (13, none, .aload_n 0, []), (14, none, .sipush 600, []), (17, none, .newarray .int, []), (19, none, .putfield 15, []), (22, none, .aload_n 0, []), (23, none, .sipush 600, []), (26, none, .newarray .int, []), (28, none, .putfield 18, []), (31, none, .aload_n 0, []), (32, none, .sipush 600, []), (35, none, .newarray .int, []), (37, none, .putfield 21, []), (40, none, .aload_n 0, []), (41, none, .sipush 600, []), (44, none, .newarray .int, []), (46, none, .putfield 24, []), (49, none, .aload_n 0, []), (50, none, .sipush 600, []), (53, none, .newarray .int, []), (55, none, .putfield 27, []), (58, none, .aload_n 0, []), (59, none, .sipush 600, []), (62, none, .newarray .int, []), (64, none, .putfield 30, []), (67, none, .aload_n 0, []), (68, none, .sipush 601, []), (71, none, .newarray .int, []), (73, none, .putfield 33, []), (76, none, .aload_n 0, []), (77, none, .sipush 601, []), (80, none, .newarray .int, []), (82, none, .putfield 36, []), (85, none, .aload_n 0, []), (86, none, .sipush 8000, []), (89, none, .newarray .long, []), (91, none, .putfield 39, []), (94, none, .aload_n 0, []), (95, none, .sipush 4000, []), (98, none, .newarray .int, []), (100, none, .putfield 43, []), (103, none, .aload_n 0, []), (104, none, .sipush 4000, []), (107, none, .newarray .int, []), (109, none, .putfield 46, []), (112, none, .aload_n 0, []), (113, none, .iconst 0, []), (114, none, .putfield 49, []), (117, none, .aload_n 0, []), (118, none, .iconst 0, []), (119, none, .putfield 53, []), (122, none, .aload_n 0, []), (123, none, .iconst 0, []), (124, none, .putfield 56, []), (127, none, .aload_n 0, []), (128, none, .iconst 0, []), (129, none, .putfield 59, []), (132, none, .aload_n 0, []), (133, none, .iconst 0, []), (134, none, .putfield 62, []), (137, none, .aload_n 0, []), (138, none, .iconst 0, []), (139, none, .putfield 65, []), (142, none, .return_, [])]
def P_Things_init : Nat → Option (List Nat) × Instr × List Nat := plk tb_Things_init
theorem r_Things_init_0 : P_Things_init 0 = (none, .aload_n 0, []) := by decide +kernel
theorem r_Things_init_1 : P_Things_init 1 = (none, .invokespecial 3, []) := by decide +kernel
theorem r_Things_init_4 : P_Things_init 4 = (none, .aload_n 0, []) := by decide +kernel
theorem r_Things_init_5 : P_Things_init 5 = (none, .sipush 600, []) := by decide +kernel
theorem r_Things_init_8 : P_Things_init 8 = (none, .newarray .int, []) := by decide +kernel
theorem r_Things_init_10 : P_Things_init 10 = (none, .putfield 9, []) := by decide +kernel
theorem r_Things_init_13 : P_Things_init 13 = (none, .aload_n 0, []) := by decide +kernel
theorem r_Things_init_14 : P_Things_init 14 = (none, .sipush 600, []) := by decide +kernel
theorem r_Things_init_17 : P_Things_init 17 = (none, .newarray .int, []) := by decide +kernel
theorem r_Things_init_19 : P_Things_init 19 = (none, .putfield 15, []) := by decide +kernel
theorem r_Things_init_22 : P_Things_init 22 = (none, .aload_n 0, []) := by decide +kernel
theorem r_Things_init_23 : P_Things_init 23 = (none, .sipush 600, []) := by decide +kernel
theorem r_Things_init_26 : P_Things_init 26 = (none, .newarray .int, []) := by decide +kernel
theorem r_Things_init_28 : P_Things_init 28 = (none, .putfield 18, []) := by decide +kernel
theorem r_Things_init_31 : P_Things_init 31 = (none, .aload_n 0, []) := by decide +kernel
theorem r_Things_init_32 : P_Things_init 32 = (none, .sipush 600, []) := by decide +kernel
theorem r_Things_init_35 : P_Things_init 35 = (none, .newarray .int, []) := by decide +kernel
theorem r_Things_init_37 : P_Things_init 37 = (none, .putfield 21, []) := by decide +kernel
theorem r_Things_init_40 : P_Things_init 40 = (none, .aload_n 0, []) := by decide +kernel
theorem r_Things_init_41 : P_Things_init 41 = (none, .sipush 600, []) := by decide +kernel
theorem r_Things_init_44 : P_Things_init 44 = (none, .newarray .int, []) := by decide +kernel
theorem r_Things_init_46 : P_Things_init 46 = (none, .putfield 24, []) := by decide +kernel
theorem r_Things_init_49 : P_Things_init 49 = (none, .aload_n 0, []) := by decide +kernel
theorem r_Things_init_50 : P_Things_init 50 = (none, .sipush 600, []) := by decide +kernel
theorem r_Things_init_53 : P_Things_init 53 = (none, .newarray .int, []) := by decide +kernel
theorem r_Things_init_55 : P_Things_init 55 = (none, .putfield 27, []) := by decide +kernel
theorem r_Things_init_58 : P_Things_init 58 = (none, .aload_n 0, []) := by decide +kernel
theorem r_Things_init_59 : P_Things_init 59 = (none, .sipush 600, []) := by decide +kernel
theorem r_Things_init_62 : P_Things_init 62 = (none, .newarray .int, []) := by decide +kernel
theorem r_Things_init_64 : P_Things_init 64 = (none, .putfield 30, []) := by decide +kernel
theorem r_Things_init_67 : P_Things_init 67 = (none, .aload_n 0, []) := by decide +kernel
theorem r_Things_init_68 : P_Things_init 68 = (none, .sipush 601, []) := by decide +kernel
theorem r_Things_init_71 : P_Things_init 71 = (none, .newarray .int, []) := by decide +kernel
theorem r_Things_init_73 : P_Things_init 73 = (none, .putfield 33, []) := by decide +kernel
theorem r_Things_init_76 : P_Things_init 76 = (none, .aload_n 0, []) := by decide +kernel
theorem r_Things_init_77 : P_Things_init 77 = (none, .sipush 601, []) := by decide +kernel
theorem r_Things_init_80 : P_Things_init 80 = (none, .newarray .int, []) := by decide +kernel
theorem r_Things_init_82 : P_Things_init 82 = (none, .putfield 36, []) := by decide +kernel
theorem r_Things_init_85 : P_Things_init 85 = (none, .aload_n 0, []) := by decide +kernel
theorem r_Things_init_86 : P_Things_init 86 = (none, .sipush 8000, []) := by decide +kernel
theorem r_Things_init_89 : P_Things_init 89 = (none, .newarray .long, []) := by decide +kernel
theorem r_Things_init_91 : P_Things_init 91 = (none, .putfield 39, []) := by decide +kernel
theorem r_Things_init_94 : P_Things_init 94 = (none, .aload_n 0, []) := by decide +kernel
theorem r_Things_init_95 : P_Things_init 95 = (none, .sipush 4000, []) := by decide +kernel
theorem r_Things_init_98 : P_Things_init 98 = (none, .newarray .int, []) := by decide +kernel
theorem r_Things_init_100 : P_Things_init 100 = (none, .putfield 43, []) := by decide +kernel
theorem r_Things_init_103 : P_Things_init 103 = (none, .aload_n 0, []) := by decide +kernel
theorem r_Things_init_104 : P_Things_init 104 = (none, .sipush 4000, []) := by decide +kernel
theorem r_Things_init_107 : P_Things_init 107 = (none, .newarray .int, []) := by decide +kernel
theorem r_Things_init_109 : P_Things_init 109 = (none, .putfield 46, []) := by decide +kernel
theorem r_Things_init_112 : P_Things_init 112 = (none, .aload_n 0, []) := by decide +kernel
theorem r_Things_init_113 : P_Things_init 113 = (none, .iconst 0, []) := by decide +kernel
theorem r_Things_init_114 : P_Things_init 114 = (none, .putfield 49, []) := by decide +kernel
theorem r_Things_init_117 : P_Things_init 117 = (none, .aload_n 0, []) := by decide +kernel
theorem r_Things_init_118 : P_Things_init 118 = (none, .iconst 0, []) := by decide +kernel
theorem r_Things_init_119 : P_Things_init 119 = (none, .putfield 53, []) := by decide +kernel
theorem r_Things_init_122 : P_Things_init 122 = (none, .aload_n 0, []) := by decide +kernel
theorem r_Things_init_123 : P_Things_init 123 = (none, .iconst 0, []) := by decide +kernel
theorem r_Things_init_124 : P_Things_init 124 = (none, .putfield 56, []) := by decide +kernel
theorem r_Things_init_127 : P_Things_init 127 = (none, .aload_n 0, []) := by decide +kernel
theorem r_Things_init_128 : P_Things_init 128 = (none, .iconst 0, []) := by decide +kernel
theorem r_Things_init_129 : P_Things_init 129 = (none, .putfield 59, []) := by decide +kernel
theorem r_Things_init_132 : P_Things_init 132 = (none, .aload_n 0, []) := by decide +kernel
theorem r_Things_init_133 : P_Things_init 133 = (none, .iconst 0, []) := by decide +kernel
theorem r_Things_init_134 : P_Things_init 134 = (none, .putfield 62, []) := by decide +kernel
theorem r_Things_init_137 : P_Things_init 137 = (none, .aload_n 0, []) := by decide +kernel
theorem r_Things_init_138 : P_Things_init 138 = (none, .iconst 0, []) := by decide +kernel
theorem r_Things_init_139 : P_Things_init 139 = (none, .putfield 65, []) := by decide +kernel
theorem r_Things_init_142 : P_Things_init 142 = (none, .return_, []) := by decide +kernel
def E_Things_init : List (Nat × Ent) := [(13, (1, 0, 0, 0, T_objInit))]
def X_Things_init : Cx := (llk (0, 0, 9) ftX7, llk 99 ntX7, llk none kcX7, llk none klX7, llk dEnt E_Things_init, 1, 3, true)
theorem xok_Things_init : Xok RX7 X_Things_init := xok_of ftX7_ok ntX7_ok kcX7_ok klX7_ok (E := E_Things_init) (List.forall_mem_cons.mpr ⟨co_X7_13, fun _ h => absurd h List.not_mem_nil⟩)
theorem xf_Things_init_9 : xfl X_Things_init 9 = (7, 0, 1) := by decide +kernel
theorem xf_Things_init_15 : xfl X_Things_init 15 = (7, 1, 1) := by decide +kernel
theorem xf_Things_init_18 : xfl X_Things_init 18 = (7, 2, 1) := by decide +kernel
theorem xf_Things_init_21 : xfl X_Things_init 21 = (7, 3, 1) := by decide +kernel
theorem xf_Things_init_24 : xfl X_Things_init 24 = (7, 4, 1) := by decide +kernel
theorem xf_Things_init_27 : xfl X_Things_init 27 = (7, 5, 1) := by decide +kernel
theorem xf_Things_init_30 : xfl X_Things_init 30 = (7, 6, 1) := by decide +kernel
theorem xf_Things_init_33 : xfl X_Things_init 33 = (7, 7, 1) := by decide +kernel
theorem xf_Things_init_36 : xfl X_Things_init 36 = (7, 8, 1) := by decide +kernel
theorem xf_Things_init_39 : xfl X_Things_init 39 = (7, 9, 1) := by decide +kernel
theorem xf_Things_init_43 : xfl X_Things_init 43 = (7, 10, 1) := by decide +kernel
theorem xf_Things_init_46 : xfl X_Things_init 46 = (7, 11, 1) := by decide +kernel
theorem xf_Things_init_49 : xfl X_Things_init 49 = (7, 12, 0) := by decide +kernel
theorem xf_Things_init_53 : xfl X_Things_init 53 = (7, 13, 0) := by decide +kernel
theorem xf_Things_init_56 : xfl X_Things_init 56 = (7, 14, 0) := by decide +kernel
theorem xf_Things_init_59 : xfl X_Things_init 59 = (7, 15, 0) := by decide +kernel
theorem xf_Things_init_62 : xfl X_Things_init 62 = (7, 16, 0) := by decide +kernel
theorem xf_Things_init_65 : xfl X_Things_init 65 = (7, 17, 2) := by decide +kernel
theorem xe_Things_init_13 : xE X_Things_init (4 * 3 + 1) = (1, 0, 0, 0, T_objInit) := rfl
theorem xd_Things_init : xd X_Things_init = 1 := rfl
theorem xrb_Things_init : xrb X_Things_init = 3 := rfl
theorem xin_Things_init : xin X_Things_init = true := rfl
set_option maxHeartbeats 4000000 in
set_option maxRecDepth 100000 in
theorem S_Things_init : Snd yX7_init cX7_init 1 none T_Things_init 1 12 21402 := by
  refine snd_of (X := X_Things_init) (P := P_Things_init) (tb := tb_Things_init) (own := RX7) (by decide) rfl rfl (by decide +kernel) xok_Things_init rfl rk3 (fun h => by first | rfl | cases h) ?_
  intro as M k has hM hT0
  obtain ⟨sz, sl, lay, ρ, σ, τ⟩ := M
  obtain ⟨o, as1, e, hlo, hT1⟩ := mkT_r hT0
  clear hT0
  subst e
  obtain ⟨e, hT⟩ := hT1
  subst e
  replace hlo : lay o = (17, 0) := hlo
  clear has
  replace hM : ∀ a i, -2147483648 ≤ σ a i ∧ σ a i ≤ 2147483647 := hM
  replace hT : TF_Things_init o sz sl lay ρ σ τ k := hT
  unfold TF_Things_init at hT
  obtain ⟨⟨hsz, ho, hz⟩, hT⟩ := hT
  subst hsz
  refine ⟨Nat.le_of_ble_eq_true rfl, fun _ _ _ => False, fun _ _ _ => 0, 77, ?_, fun _ _ _ _ _ _ h => h.elim⟩
  unfold wps
  simp only [si_iload_n0, si_iload_n1, si_iload_n2, si_iload_n3, si_iload, si_lload_n0, si_lload_n1, si_lload_n2, si_lload_n3, si_lload, si_aload_n0, si_aload_n1, si_aload_n2, si_aload_n3, si_aload, si_istore_n0, si_istore_n1, si_istore_n2, si_istore_n3, si_istore, si_astore_n0, si_astore_n1, si_astore_n2, si_astore_n3, si_astore, si_lstore_n0, si_lstore_n1, si_lstore_n2, si_lstore_n3, si_lstore, si_iconst, si_bipush, si_sipush, si_ldc, si_ldc2_w, si_lconst0, si_lconst1, si_aconst_null, si_iinc, si_dup, si_dup2, si_iadd, si_isub, si_imul, si_idiv, si_irem, si_iand, si_ior, si_ishl, si_ishr, si_ladd, si_lmul, si_lor, si_lxor, si_lshl, si_lushr, si_lcmp, si_i2b, si_i2l, si_l2i, si_icmp_eq, si_icmp_ne, si_icmp_lt, si_icmp_ge, si_icmp_gt, si_icmp_le, si_if_eq, si_if_ne, si_if_lt, si_if_ge, si_if_gt, si_if_le, si_ifnull, si_ifnonnull, si_goto, si_tableswitch, si_lookupswitch, si_getfield, si_putfield, si_getstatic, si_iaload, si_baload, si_laload, si_aaload, si_iastore, si_bastore, si_lastore, si_aastore, si_arraylength, si_new, si_newarray, si_anewarray, si_invokevirtual, si_invokespecial, si_invokestatic, si_ireturn, si_lreturn, si_areturn, si_return_, pI_e, pL_e, pR_e, pA_r, pA_n, pN_n, pN_r, oI_e, oL_e, oA_r, oA_n, lget_e, lrm1_0, lrm2_0, lrm1_i, lrm1_r, lrm1_n, lrm1_l, lrm2_i, lrm2_r, lrm2_n, lrm2_l, popN_0, popN_s, acat_i, acat_l, acat_r, acat_n, stw_0, stw_s, psh_s, psh_n, wgf_r, wgf_i, wgf_b, wgf_n, wgf_m, wpf_i, wpf_r, wpf_b, wnew_e, callE_e, rbk_0, rbk_1, tsw_0, tsw_s, lsw_0, lsw_s, wp_s, wq_t, wq_f, oV_e, pick_0, pick_s, oZ_e, oY_e, r_Things_init_0, r_Things_init_1, r_Things_init_4, r_Things_init_5, r_Things_init_8, r_Things_init_10, r_Things_init_13, r_Things_init_14, r_Things_init_17, r_Things_init_19, r_Things_init_22, r_Things_init_23, r_Things_init_26, r_Things_init_28, r_Things_init_31, r_Things_init_32, r_Things_init_35, r_Things_init_37, r_Things_init_40, r_Things_init_41, r_Things_init_44, r_Things_init_46, r_Things_init_49, r_Things_init_50, r_Things_init_53, r_Things_init_55, r_Things_init_58, r_Things_init_59, r_Things_init_62, r_Things_init_64, r_Things_init_67, r_Things_init_68, r_Things_init_71, r_Things_init_73, r_Things_init_76, r_Things_init_77, r_Things_init_80, r_Things_init_82, r_Things_init_85, r_Things_init_86, r_Things_init_89, r_Things_init_91, r_Things_init_94, r_Things_init_95, r_Things_init_98, r_Things_init_100, r_Things_init_103, r_Things_init_104, r_Things_init_107, r_Things_init_109, r_Things_init_112, r_Things_init_113, r_Things_init_114, r_Things_init_117, r_Things_init_118, r_Things_init_119, r_Things_init_122, r_Things_init_123, r_Things_init_124, r_Things_init_127, r_Things_init_128, r_Things_init_129, r_Things_init_132, r_Things_init_133, r_Things_init_134, r_Things_init_137, r_Things_init_138, r_Things_init_139, r_Things_init_142, xf_Things_init_9, xf_Things_init_15, xf_Things_init_18, xf_Things_init_21, xf_Things_init_24, xf_Things_init_27, xf_Things_init_30, xf_Things_init_33, xf_Things_init_36, xf_Things_init_39, xf_Things_init_43, xf_Things_init_46, xf_Things_init_49, xf_Things_init_53, xf_Things_init_56, xf_Things_init_59, xf_Things_init_62, xf_Things_init_65, xe_Things_init_13, xd_Things_init, xrb_Things_init, xin_Things_init, akd_i, akd_b, akd_z, akd_l, Nat.add_assoc, Nat.le_add_right, hlo, Nat.reduceAdd, Nat.reduceMul, Nat.reduceEqDiff, reduceIte, Int.reduceNeg, Int.reduceLE, Int.reduceLT, Int.reduceAdd, Int.reduceSub, Int.reduceToNat, true_and, and_true, inR_e, Nat.reduceLT, Nat.reduceLeDiff, reduceCtorEq, Nat.add_zero, Nat.zero_add, or_false, false_or, or_true, true_or, not_true_eq_false, not_false_eq_true, Classical.not_not, Nat.add_eq_zero_iff, and_false, false_and, Int.reduceEq, List.mem_cons, List.not_mem_nil, forall_eq_or_imp, forall_eq, false_implies, implies_true, forall_const, aargs_0, aargs_i, aargs_r, aargs_l, aargs_n, nfT_e, eq_self, and_self, Nat.le_refl, fu_s, fu_fu, iu_iu, iu_s, fu_am, fu_a0, fu_0a, iu_l, Nat.reduceBEq, Int.reduceBEq, T_objInit_e]
  refine hT _ _ _ _ (fun a ha => ⟨?_, ?_, ?_, ?_⟩) ?_ ?_
  · repeat rw [fu_n (by omega)]
  · repeat rw [fu_n (by omega)]
  · repeat rw [fu_n (by omega)]
  · repeat rw [fu_n (by omega)]
  · unfold LThings
    simp only [fu_s, fu_am, fu_a0, fu_0a, iu_s, iu_l, Nat.reduceBEq, Int.reduceBEq]
    simp only [hlo, true_and, and_true]
  · intro a ha i
    have h : a = o ∨ a = o + 1 ∨ a = o + 2 ∨ a = o + 3 ∨ a = o + 4 ∨ a = o + 5 ∨ a = o + 6 ∨ a = o + 7 ∨ a = o + 8 ∨ a = o + 9 ∨ a = o + 10 ∨ a = o + 11 ∨ a = o + 12 := by omega
    rcases h with rfl | rfl | rfl | rfl | rfl | rfl | rfl | rfl | rfl | rfl | rfl | rfl | rfl
    · simp only [fu_s, fu_am, fu_a0, fu_0a, iu_s, iu_l, Nat.reduceBEq, Int.reduceBEq]
      repeat (first | exact hz i | refine iu_z (fun i => ?_))
    · simp only [fu_s, fu_am, fu_a0, fu_0a, iu_s, iu_l, Nat.reduceBEq, Int.reduceBEq]
    · simp only [fu_s, fu_am, fu_a0, fu_0a, iu_s, iu_l, Nat.reduceBEq, Int.reduceBEq]
    · simp only [fu_s, fu_am, fu_a0, fu_0a, iu_s, iu_l, Nat.reduceBEq, Int.reduceBEq]
    · simp only [fu_s, fu_am, fu_a0, fu_0a, iu_s, iu_l, Nat.reduceBEq, Int.reduceBEq]
    · simp only [fu_s, fu_am, fu_a0, fu_0a, iu_s, iu_l, Nat.reduceBEq, Int.reduceBEq]
    · simp only [fu_s, fu_am, fu_a0, fu_0a, iu_s, iu_l, Nat.reduceBEq, Int.reduceBEq]
    · simp only [fu_s, fu_am, fu_a0, fu_0a, iu_s, iu_l, Nat.reduceBEq, Int.reduceBEq]
    · simp only [fu_s, fu_am, fu_a0, fu_0a, iu_s, iu_l, Nat.reduceBEq, Int.reduceBEq]
    · simp only [fu_s, fu_am, fu_a0, fu_0a, iu_s, iu_l, Nat.reduceBEq, Int.reduceBEq]
    · simp only [fu_s, fu_am, fu_a0, fu_0a, iu_s, iu_l, Nat.reduceBEq, Int.reduceBEq]
    · simp only [fu_s, fu_am, fu_a0, fu_0a, iu_s, iu_l, Nat.reduceBEq, Int.reduceBEq]
    · simp only [fu_s, fu_am, fu_a0, fu_0a, iu_s, iu_l, Nat.reduceBEq, Int.reduceBEq]
theorem co_X8_13 : CallOK RX8 (.invokespecial 3) (1, 0, 0, 0, T_objInit) := call_objInit (by decide +kernel) (by decide +kernel) (by decide +kernel)
def TF_Trail_init (o : Nat) (sz sl : Nat) (lay : Nat → Nat × Int) (ρ : Nat → Int → Nat) (σ : Nat → Int → Int) (τ : Nat → Int → Int64) (k : Option AV → Mm → Prop) : Prop := (sz = o + 1 ∧ 1 ≤ o ∧ ∀ i, σ o i = 0) ∧ (∀ (lay2 : Nat → Nat × Int) (ρ2 : Nat → Int → Nat) (σ2 : Nat → Int → Int) (τ2 : Nat → Int → Int64), NF lay lay2 ρ ρ2 σ σ2 τ τ2 o → LTrail lay2 ρ2 o → Zr σ2 o 1 → k none (o + 2, sl + 600, lay2, ρ2, σ2, τ2))
def T_Trail_init : Tr := mkT 8 fun o as M k => as = [] ∧ TF_Trail_init o M.1 M.2.1 M.2.2.1 M.2.2.2.1 M.2.2.2.2.1 M.2.2.2.2.2 k
theorem T_Trail_init_e {o : Nat} {sz sl : Nat} {lay : Nat → Nat × Int} {ρ : Nat → Int → Nat} {σ : Nat → Int → Int} {τ : Nat → Int → Int64} {k : Option AV → Mm → Prop} : T_Trail_init [vR o] (sz, sl, lay, ρ, σ, τ) k = (lay o = (18, 0) ∧ TF_Trail_init o sz sl lay ρ σ τ k) := by simp [T_Trail_init, mkT_e, pI_e, pR_e, pL_e]
theorem T_Trail_init_r (as : List AV) (M : Mm) (k : Option AV → Mm → Prop) (h : T_Trail_init as M k) : ∃ b As, as = vR b :: As ∧ M.2.2.1 b = (10 + 8, 0) := by
  obtain ⟨b, As, h1, h2, -⟩ := mkT_r h
  exact ⟨b, As, h1, h2⟩
def tb_Trail_init : List (Nat × Option (List Nat) × Instr × List Nat) := [(0, none, .aload_n 0, []), (1, none, .invokespecial 3, []), (4, none, .aload_n 0, []), (5, none, .sipush 600, []), (8, none, .newarray .int, []), (10, none, .putfield 9, []), (13, none, .aload_n 0, []), (14, none, .iconst 0, []), (15, none, .putfield 15, []), (18, none, .return_, [])]
def P_Trail_init : Nat → Option (List Nat) × Instr × List Nat := plk tb_Trail_init
theorem r_Trail_init_0 : P_Trail_init 0 = (none, .aload_n 0, []) := by decide +kernel
theorem r_Trail_init_1 : P_Trail_init 1 = (none, .invokespecial 3, []) := by decide +kernel
theorem r_Trail_init_4 : P_Trail_init 4 = (none, .aload_n 0, []) := by decide +kernel
theorem r_Trail_init_5 : P_Trail_init 5 = (none, .sipush 600, []) := by decide +kernel
theorem r_Trail_init_8 : P_Trail_init 8 = (none, .newarray .int, []) := by decide +kernel
theorem r_Trail_init_10 : P_Trail_init 10 = (none, .putfield 9, []) := by decide +kernel
theorem r_Trail_init_13 : P_Trail_init 13 = (none, .aload_n 0, []) := by decide +kernel
theorem r_Trail_init_14 : P_Trail_init 14 = (none, .iconst 0, []) := by decide +kernel
theorem r_Trail_init_15 : P_Trail_init 15 = (none, .putfield 15, []) := by decide +kernel
theorem r_Trail_init_18 : P_Trail_init 18 = (none, .return_, []) := by decide +kernel
def E_Trail_init : List (Nat × Ent) := [(13, (1, 0, 0, 0, T_objInit))]
def X_Trail_init : Cx := (llk (0, 0, 9) ftX8, llk 99 ntX8, llk none kcX8, llk none klX8, llk dEnt E_Trail_init, 1, 3, true)
theorem xok_Trail_init : Xok RX8 X_Trail_init := xok_of ftX8_ok ntX8_ok kcX8_ok klX8_ok (E := E_Trail_init) (List.forall_mem_cons.mpr ⟨co_X8_13, fun _ h => absurd h List.not_mem_nil⟩)
theorem xf_Trail_init_9 : xfl X_Trail_init 9 = (8, 0, 1) := by decide +kernel
theorem xf_Trail_init_15 : xfl X_Trail_init 15 = (8, 1, 0) := by decide +kernel
theorem xe_Trail_init_13 : xE X_Trail_init (4 * 3 + 1) = (1, 0, 0, 0, T_objInit) := rfl
theorem xd_Trail_init : xd X_Trail_init = 1 := rfl
theorem xrb_Trail_init : xrb X_Trail_init = 3 := rfl
theorem xin_Trail_init : xin X_Trail_init = true := rfl
set_option maxHeartbeats 4000000 in
set_option maxRecDepth 100000 in
theorem S_Trail_init : Snd yX8_init cX8_init 1 none T_Trail_init 1 1 600 := by
  refine snd_of (X := X_Trail_init) (P := P_Trail_init) (tb := tb_Trail_init) (own := RX8) (by decide) rfl rfl (by decide +kernel) xok_Trail_init rfl rk3 (fun h => by first | rfl | cases h) ?_
  intro as M k has hM hT0
  obtain ⟨sz, sl, lay, ρ, σ, τ⟩ := M
  obtain ⟨o, as1, e, hlo, hT1⟩ := mkT_r hT0
  clear hT0
  subst e
  obtain ⟨e, hT⟩ := hT1
  subst e
  replace hlo : lay o = (18, 0) := hlo
  clear has
  replace hM : ∀ a i, -2147483648 ≤ σ a i ∧ σ a i ≤ 2147483647 := hM
  replace hT : TF_Trail_init o sz sl lay ρ σ τ k := hT
  unfold TF_Trail_init at hT
  obtain ⟨⟨hsz, ho, hz⟩, hT⟩ := hT
  subst hsz
  refine ⟨Nat.le_of_ble_eq_true rfl, fun _ _ _ => False, fun _ _ _ => 0, 18, ?_, fun _ _ _ _ _ _ h => h.elim⟩
  unfold wps
  simp only [si_iload_n0, si_iload_n1, si_iload_n2, si_iload_n3, si_iload, si_lload_n0, si_lload_n1, si_lload_n2, si_lload_n3, si_lload, si_aload_n0, si_aload_n1, si_aload_n2, si_aload_n3, si_aload, si_istore_n0, si_istore_n1, si_istore_n2, si_istore_n3, si_istore, si_astore_n0, si_astore_n1, si_astore_n2, si_astore_n3, si_astore, si_lstore_n0, si_lstore_n1, si_lstore_n2, si_lstore_n3, si_lstore, si_iconst, si_bipush, si_sipush, si_ldc, si_ldc2_w, si_lconst0, si_lconst1, si_aconst_null, si_iinc, si_dup, si_dup2, si_iadd, si_isub, si_imul, si_idiv, si_irem, si_iand, si_ior, si_ishl, si_ishr, si_ladd, si_lmul, si_lor, si_lxor, si_lshl, si_lushr, si_lcmp, si_i2b, si_i2l, si_l2i, si_icmp_eq, si_icmp_ne, si_icmp_lt, si_icmp_ge, si_icmp_gt, si_icmp_le, si_if_eq, si_if_ne, si_if_lt, si_if_ge, si_if_gt, si_if_le, si_ifnull, si_ifnonnull, si_goto, si_tableswitch, si_lookupswitch, si_getfield, si_putfield, si_getstatic, si_iaload, si_baload, si_laload, si_aaload, si_iastore, si_bastore, si_lastore, si_aastore, si_arraylength, si_new, si_newarray, si_anewarray, si_invokevirtual, si_invokespecial, si_invokestatic, si_ireturn, si_lreturn, si_areturn, si_return_, pI_e, pL_e, pR_e, pA_r, pA_n, pN_n, pN_r, oI_e, oL_e, oA_r, oA_n, lget_e, lrm1_0, lrm2_0, lrm1_i, lrm1_r, lrm1_n, lrm1_l, lrm2_i, lrm2_r, lrm2_n, lrm2_l, popN_0, popN_s, acat_i, acat_l, acat_r, acat_n, stw_0, stw_s, psh_s, psh_n, wgf_r, wgf_i, wgf_b, wgf_n, wgf_m, wpf_i, wpf_r, wpf_b, wnew_e, callE_e, rbk_0, rbk_1, tsw_0, tsw_s, lsw_0, lsw_s, wp_s, wq_t, wq_f, oV_e, pick_0, pick_s, oZ_e, oY_e, r_Trail_init_0, r_Trail_init_1, r_Trail_init_4, r_Trail_init_5, r_Trail_init_8, r_Trail_init_10, r_Trail_init_13, r_Trail_init_14, r_Trail_init_15, r_Trail_init_18, xf_Trail_init_9, xf_Trail_init_15, xe_Trail_init_13, xd_Trail_init, xrb_Trail_init, xin_Trail_init, akd_i, akd_b, akd_z, akd_l, Nat.add_assoc, Nat.le_add_right, hlo, Nat.reduceAdd, Nat.reduceMul, Nat.reduceEqDiff, reduceIte, Int.reduceNeg, Int.reduceLE, Int.reduceLT, Int.reduceAdd, Int.reduceSub, Int.reduceToNat, true_and, and_true, inR_e, Nat.reduceLT, Nat.reduceLeDiff, reduceCtorEq, Nat.add_zero, Nat.zero_add, or_false, false_or, or_true, true_or, not_true_eq_false, not_false_eq_true, Classical.not_not, Nat.add_eq_zero_iff, and_false, false_and, Int.reduceEq, List.mem_cons, List.not_mem_nil, forall_eq_or_imp, forall_eq, false_implies, implies_true, forall_const, aargs_0, aargs_i, aargs_r, aargs_l, aargs_n, nfT_e, eq_self, and_self, Nat.le_refl, fu_s, fu_fu, iu_iu, iu_s, fu_am, fu_a0, fu_0a, iu_l, Nat.reduceBEq, Int.reduceBEq, T_objInit_e]
  refine hT _ _ _ _ (fun a ha => ⟨?_, ?_, ?_, ?_⟩) ?_ ?_
  · repeat rw [fu_n (by omega)]
  · repeat rw [fu_n (by omega)]
  · repeat rw [fu_n (by omega)]
  · repeat rw [fu_n (by omega)]
  · unfold LTrail
    simp only [fu_s, fu_am, fu_a0, fu_0a, iu_s, iu_l, Nat.reduceBEq, Int.reduceBEq]
    simp only [hlo, true_and, and_true]
  · intro a ha i
    have h : a = o ∨ a = o + 1 := by omega
    rcases h with rfl | rfl
    · simp only [fu_s, fu_am, fu_a0, fu_0a, iu_s, iu_l, Nat.reduceBEq, Int.reduceBEq]
      repeat (first | exact hz i | refine iu_z (fun i => ?_))
    · simp only [fu_s, fu_am, fu_a0, fu_0a, iu_s, iu_l, Nat.reduceBEq, Int.reduceBEq]
theorem co_X9_13 : CallOK RX9 (.invokespecial 3) (1, 0, 0, 0, T_objInit) := call_objInit (by decide +kernel) (by decide +kernel) (by decide +kernel)
def TF_Twins_init (o : Nat) (sz sl : Nat) (lay : Nat → Nat × Int) (ρ : Nat → Int → Nat) (σ : Nat → Int → Int) (τ : Nat → Int → Int64) (k : Option AV → Mm → Prop) : Prop := (sz = o + 1 ∧ 1 ≤ o ∧ ∀ i, σ o i = 0) ∧ (∀ (lay2 : Nat → Nat × Int) (ρ2 : Nat → Int → Nat) (σ2 : Nat → Int → Int) (τ2 : Nat → Int → Int64), NF lay lay2 ρ ρ2 σ σ2 τ τ2 o → LTwins lay2 ρ2 o → Zr σ2 o 3 → k none (o + 4, sl + 1800, lay2, ρ2, σ2, τ2))
def T_Twins_init : Tr := mkT 9 fun o as M k => as = [] ∧ TF_Twins_init o M.1 M.2.1 M.2.2.1 M.2.2.2.1 M.2.2.2.2.1 M.2.2.2.2.2 k
theorem T_Twins_init_e {o : Nat} {sz sl : Nat} {lay : Nat → Nat × Int} {ρ : Nat → Int → Nat} {σ : Nat → Int → Int} {τ : Nat → Int → Int64} {k : Option AV → Mm → Prop} : T_Twins_init [vR o] (sz, sl, lay, ρ, σ, τ) k = (lay o = (19, 0) ∧ TF_Twins_init o sz sl lay ρ σ τ k) := by simp [T_Twins_init, mkT_e, pI_e, pR_e, pL_e]
theorem T_Twins_init_r (as : List AV) (M : Mm) (k : Option AV → Mm → Prop) (h : T_Twins_init as M k) : ∃ b As, as = vR b :: As ∧ M.2.2.1 b = (10 + 9, 0) := by
  obtain ⟨b, As, h1, h2, -⟩ := mkT_r h
  exact ⟨b, As, h1, h2⟩
def tb_Twins_init : List (Nat × Option (List Nat) × Instr × List Nat) := [(0, none, .aload_n 0, []), (1, none, .invokespecial 3, []), (4, none, .aload_n 0, []), (5, none, .sipush 600, []), (8, none, .newarray .int, []), (10, none, .putfield 9, []), (13, none, .aload_n 0, []), (14, none, .sipush 600, []), (17, none, .newarray .int, []), (19, none, .putfield 15, []), (22, none, .aload_n 0, []), (23, none, .sipush 600, []), (26, none, .newarray .int, []), (28, none, .putfield 18, []), (31, none, .aload_n 0, []), (32, none, .iconst 0, []), (33, none, .putfield 21, []), (36, none, .return_, [])]
def P_Twins_init : Nat → Option (List Nat) × Instr × List Nat := plk tb_Twins_init
theorem r_Twins_init_0 : P_Twins_init 0 = (none, .aload_n 0, []) := by decide +kernel
theorem r_Twins_init_1 : P_Twins_init 1 = (none, .invokespecial 3, []) := by decide +kernel
theorem r_Twins_init_4 : P_Twins_init 4 = (none, .aload_n 0, []) := by decide +kernel
theorem r_Twins_init_5 : P_Twins_init 5 = (none, .sipush 600, []) := by decide +kernel
theorem r_Twins_init_8 : P_Twins_init 8 = (none, .newarray .int, []) := by decide +kernel
theorem r_Twins_init_10 : P_Twins_init 10 = (none, .putfield 9, []) := by decide +kernel
theorem r_Twins_init_13 : P_Twins_init 13 = (none, .aload_n 0, []) := by decide +kernel
theorem r_Twins_init_14 : P_Twins_init 14 = (none, .sipush 600, []) := by decide +kernel
theorem r_Twins_init_17 : P_Twins_init 17 = (none, .newarray .int, []) := by decide +kernel
theorem r_Twins_init_19 : P_Twins_init 19 = (none, .putfield 15, []) := by decide +kernel
theorem r_Twins_init_22 : P_Twins_init 22 = (none, .aload_n 0, []) := by decide +kernel
theorem r_Twins_init_23 : P_Twins_init 23 = (none, .sipush 600, []) := by decide +kernel
theorem r_Twins_init_26 : P_Twins_init 26 = (none, .newarray .int, []) := by decide +kernel
theorem r_Twins_init_28 : P_Twins_init 28 = (none, .putfield 18, []) := by decide +kernel
theorem r_Twins_init_31 : P_Twins_init 31 = (none, .aload_n 0, []) := by decide +kernel
theorem r_Twins_init_32 : P_Twins_init 32 = (none, .iconst 0, []) := by decide +kernel
theorem r_Twins_init_33 : P_Twins_init 33 = (none, .putfield 21, []) := by decide +kernel
theorem r_Twins_init_36 : P_Twins_init 36 = (none, .return_, []) := by decide +kernel
def E_Twins_init : List (Nat × Ent) := [(13, (1, 0, 0, 0, T_objInit))]
def X_Twins_init : Cx := (llk (0, 0, 9) ftX9, llk 99 ntX9, llk none kcX9, llk none klX9, llk dEnt E_Twins_init, 1, 3, true)
theorem xok_Twins_init : Xok RX9 X_Twins_init := xok_of ftX9_ok ntX9_ok kcX9_ok klX9_ok (E := E_Twins_init) (List.forall_mem_cons.mpr ⟨co_X9_13, fun _ h => absurd h List.not_mem_nil⟩)
theorem xf_Twins_init_9 : xfl X_Twins_init 9 = (9, 0, 1) := by decide +kernel
theorem xf_Twins_init_15 : xfl X_Twins_init 15 = (9, 1, 1) := by decide +kernel
theorem xf_Twins_init_18 : xfl X_Twins_init 18 = (9, 2, 1) := by decide +kernel
theorem xf_Twins_init_21 : xfl X_Twins_init 21 = (9, 3, 0) := by decide +kernel
theorem xe_Twins_init_13 : xE X_Twins_init (4 * 3 + 1) = (1, 0, 0, 0, T_objInit) := rfl
theorem xd_Twins_init : xd X_Twins_init = 1 := rfl
theorem xrb_Twins_init : xrb X_Twins_init = 3 := rfl
theorem xin_Twins_init : xin X_Twins_init = true := rfl
set_option maxHeartbeats 4000000 in
set_option maxRecDepth 100000 in
theorem S_Twins_init : Snd yX9_init cX9_init 1 none T_Twins_init 1 3 1800 := by
  refine snd_of (X := X_Twins_init) (P := P_Twins_init) (tb := tb_Twins_init) (own := RX9) (by decide) rfl rfl (by decide +kernel) xok_Twins_init rfl rk3 (fun h => by first | rfl | cases h) ?_
  intro as M k has hM hT0
  obtain ⟨sz, sl, lay, ρ, σ, τ⟩ := M
  obtain ⟨o, as1, e, hlo, hT1⟩ := mkT_r hT0
  clear hT0
  subst e
  obtain ⟨e, hT⟩ := hT1
  subst e
  replace hlo : lay o = (19, 0) := hlo
  clear has
  replace hM : ∀ a i, -2147483648 ≤ σ a i ∧ σ a i ≤ 2147483647 := hM
  replace hT : TF_Twins_init o sz sl lay ρ σ τ k := hT
  unfold TF_Twins_init at hT
  obtain ⟨⟨hsz, ho, hz⟩, hT⟩ := hT
  subst hsz
  refine ⟨Nat.le_of_ble_eq_true rfl, fun _ _ _ => False, fun _ _ _ => 0, 26, ?_, fun _ _ _ _ _ _ h => h.elim⟩
  unfold wps
  simp only [si_iload_n0, si_iload_n1, si_iload_n2, si_iload_n3, si_iload, si_lload_n0, si_lload_n1, si_lload_n2, si_lload_n3, si_lload, si_aload_n0, si_aload_n1, si_aload_n2, si_aload_n3, si_aload, si_istore_n0, si_istore_n1, si_istore_n2, si_istore_n3, si_istore, si_astore_n0, si_astore_n1, si_astore_n2, si_astore_n3, si_astore, si_lstore_n0, si_lstore_n1, si_lstore_n2, si_lstore_n3, si_lstore, si_iconst, si_bipush, si_sipush, si_ldc, si_ldc2_w, si_lconst0, si_lconst1, si_aconst_null, si_iinc, si_dup, si_dup2, si_iadd, si_isub, si_imul, si_idiv, si_irem, si_iand, si_ior, si_ishl, si_ishr, si_ladd, si_lmul, si_lor, si_lxor, si_lshl, si_lushr, si_lcmp, si_i2b, si_i2l, si_l2i, si_icmp_eq, si_icmp_ne, si_icmp_lt, si_icmp_ge, si_icmp_gt, si_icmp_le, si_if_eq, si_if_ne, si_if_lt, si_if_ge, si_if_gt, si_if_le, si_ifnull, si_ifnonnull, si_goto, si_tableswitch, si_lookupswitch, si_getfield, si_putfield, si_getstatic, si_iaload, si_baload, si_laload, si_aaload, si_iastore, si_bastore, si_lastore, si_aastore, si_arraylength, si_new, si_newarray, si_anewarray, si_invokevirtual, si_invokespecial, si_invokestatic, si_ireturn, si_lreturn, si_areturn, si_return_, pI_e, pL_e, pR_e, pA_r, pA_n, pN_n, pN_r, oI_e, oL_e, oA_r, oA_n, lget_e, lrm1_0, lrm2_0, lrm1_i, lrm1_r, lrm1_n, lrm1_l, lrm2_i, lrm2_r, lrm2_n, lrm2_l, popN_0, popN_s, acat_i, acat_l, acat_r, acat_n, stw_0, stw_s, psh_s, psh_n, wgf_r, wgf_i, wgf_b, wgf_n, wgf_m, wpf_i, wpf_r, wpf_b, wnew_e, callE_e, rbk_0, rbk_1, tsw_0, tsw_s, lsw_0, lsw_s, wp_s, wq_t, wq_f, oV_e, pick_0, pick_s, oZ_e, oY_e, r_Twins_init_0, r_Twins_init_1, r_Twins_init_4, r_Twins_init_5, r_Twins_init_8, r_Twins_init_10, r_Twins_init_13, r_Twins_init_14, r_Twins_init_17, r_Twins_init_19, r_Twins_init_22, r_Twins_init_23, r_Twins_init_26, r_Twins_init_28, r_Twins_init_31, r_Twins_init_32, r_Twins_init_33, r_Twins_init_36, xf_Twins_init_9, xf_Twins_init_15, xf_Twins_init_18, xf_Twins_init_21, xe_Twins_init_13, xd_Twins_init, xrb_Twins_init, xin_Twins_init, akd_i, akd_b, akd_z, akd_l, Nat.add_assoc, Nat.le_add_right, hlo, Nat.reduceAdd, Nat.reduceMul, Nat.reduceEqDiff, reduceIte, Int.reduceNeg, Int.reduceLE, Int.reduceLT, Int.reduceAdd, Int.reduceSub, Int.reduceToNat, true_and, and_true, inR_e, Nat.reduceLT, Nat.reduceLeDiff, reduceCtorEq, Nat.add_zero, Nat.zero_add, or_false, false_or, or_true, true_or, not_true_eq_false, not_false_eq_true, Classical.not_not, Nat.add_eq_zero_iff, and_false, false_and, Int.reduceEq, List.mem_cons, List.not_mem_nil, forall_eq_or_imp, forall_eq, false_implies, implies_true, forall_const, aargs_0, aargs_i, aargs_r, aargs_l, aargs_n, nfT_e, eq_self, and_self, Nat.le_refl, fu_s, fu_fu, iu_iu, iu_s, fu_am, fu_a0, fu_0a, iu_l, Nat.reduceBEq, Int.reduceBEq, T_objInit_e]
  refine hT _ _ _ _ (fun a ha => ⟨?_, ?_, ?_, ?_⟩) ?_ ?_
  · repeat rw [fu_n (by omega)]
  · repeat rw [fu_n (by omega)]
  · repeat rw [fu_n (by omega)]
  · repeat rw [fu_n (by omega)]
  · unfold LTwins
    simp only [fu_s, fu_am, fu_a0, fu_0a, iu_s, iu_l, Nat.reduceBEq, Int.reduceBEq]
    simp only [hlo, true_and, and_true]
  · intro a ha i
    have h : a = o ∨ a = o + 1 ∨ a = o + 2 ∨ a = o + 3 := by omega
    rcases h with rfl | rfl | rfl | rfl
    · simp only [fu_s, fu_am, fu_a0, fu_0a, iu_s, iu_l, Nat.reduceBEq, Int.reduceBEq]
      repeat (first | exact hz i | refine iu_z (fun i => ?_))
    · simp only [fu_s, fu_am, fu_a0, fu_0a, iu_s, iu_l, Nat.reduceBEq, Int.reduceBEq]
    · simp only [fu_s, fu_am, fu_a0, fu_0a, iu_s, iu_l, Nat.reduceBEq, Int.reduceBEq]
    · simp only [fu_s, fu_am, fu_a0, fu_0a, iu_s, iu_l, Nat.reduceBEq, Int.reduceBEq]

theorem LPicture.cg {lay lay2 : Nat → Nat × Int} {ρ ρ2 : Nat → Int → Nat} {o : Nat} (h : LPicture lay ρ o) (e : ∀ a, o ≤ a ∧ a ≤ o + 43 → lay2 a = lay a) (e2 : ρ2 o = ρ o) : LPicture lay2 ρ2 o := by
  unfold LPicture
  rw [e2, e o (by omega), e (o + 1) (by omega), e (o + 8) (by omega), e (o + 21) (by omega), e (o + 24) (by omega), e (o + 27) (by omega), e (o + 31) (by omega), e (o + 35) (by omega), e (o + 40) (by omega)]
  exact h
theorem LPic.cg {lay lay2 : Nat → Nat × Int} {ρ ρ2 : Nat → Int → Nat} {o : Nat} (h : LPic lay ρ o) (e : ∀ a, o ≤ a ∧ a ≤ o + 43 → lay2 a = lay a) (e2 : ∀ a, o ≤ a ∧ a ≤ o + 43 → ρ2 a = ρ a) : LPic lay2 ρ2 o := by
  obtain ⟨h0, h1, h2, h3, h4, h5, h6, h7, h8⟩ := h
  exact ⟨h0.cg e (e2 o (by omega)), h1.cg (fun a ha => e a (by omega)) (e2 (o + 1) (by omega)), h2.cg (fun a ha => e a (by omega)) (e2 (o + 8) (by omega)), h3.cg (fun a ha => e a (by omega)) (e2 (o + 21) (by omega)), h4.cg (fun a ha => e a (by omega)) (e2 (o + 24) (by omega)), h5.cg (fun a ha => e a (by omega)) (e2 (o + 27) (by omega)), h6.cg (fun a ha => e a (by omega)) (e2 (o + 31) (by omega)), h7.cg (fun a ha => e a (by omega)) (e2 (o + 35) (by omega)), h8.cg (fun a ha => e a (by omega)) (e2 (o + 40) (by omega))⟩
theorem co_X10_45 : CallOK RX10 (.invokespecial 11) (1, 1, 1, 8000, T_Tape_init) := call_I S_Tape_init (by decide) rfl (by decide +kernel) (by decide +kernel) (by decide +kernel) (by decide +kernel) (by decide +kernel) (fun as M k h => by obtain ⟨b, As, h1, -⟩ := T_Tape_init_r as M k h; exact ⟨b, As, h1⟩)
theorem co_X10_73 : CallOK RX10 (.invokespecial 18) (1, 1, 1, 600, T_Trail_init) := call_I S_Trail_init (by decide) rfl (by decide +kernel) (by decide +kernel) (by decide +kernel) (by decide +kernel) (by decide +kernel) (fun as M k h => by obtain ⟨b, As, h1, -⟩ := T_Trail_init_r as M k h; exact ⟨b, As, h1⟩)
theorem co_X10_117 : CallOK RX10 (.invokespecial 29) (1, 2, 43, 38133, T_Picture_init) := call_I S_Picture_init (by decide) rfl (by decide +kernel) (by decide +kernel) (by decide +kernel) (by decide +kernel) (by decide +kernel) (fun as M k h => by obtain ⟨b, As, h1, -⟩ := T_Picture_init_r as M k h; exact ⟨b, As, h1⟩)
theorem co_X10_13 : CallOK RX10 (.invokespecial 3) (1, 0, 0, 0, T_objInit) := call_objInit (by decide +kernel) (by decide +kernel) (by decide +kernel)
def TF_PR_init (o : Nat) (sz sl : Nat) (lay : Nat → Nat × Int) (ρ : Nat → Int → Nat) (σ : Nat → Int → Int) (τ : Nat → Int → Int64) (k : Option AV → Mm → Prop) : Prop := (sz = o + 1 ∧ 1 ≤ o ∧ ∀ i, σ o i = 0) ∧ (∀ (lay2 : Nat → Nat × Int) (ρ2 : Nat → Int → Nat) (σ2 : Nat → Int → Int) (τ2 : Nat → Int → Int64), NF lay lay2 ρ ρ2 σ σ2 τ τ2 o → LRd lay2 ρ2 o → Zr σ2 o 137 → k none (o + 138, sl + 123042, lay2, ρ2, σ2, τ2))
def T_PR_init : Tr := mkT 10 fun o as M k => as = [] ∧ TF_PR_init o M.1 M.2.1 M.2.2.1 M.2.2.2.1 M.2.2.2.2.1 M.2.2.2.2.2 k
theorem T_PR_init_e {o : Nat} {sz sl : Nat} {lay : Nat → Nat × Int} {ρ : Nat → Int → Nat} {σ : Nat → Int → Int} {τ : Nat → Int → Int64} {k : Option AV → Mm → Prop} : T_PR_init [vR o] (sz, sl, lay, ρ, σ, τ) k = (lay o = (20, 0) ∧ TF_PR_init o sz sl lay ρ σ τ k) := by simp [T_PR_init, mkT_e, pI_e, pR_e, pL_e]
theorem T_PR_init_r (as : List AV) (M : Mm) (k : Option AV → Mm → Prop) (h : T_PR_init as M k) : ∃ b As, as = vR b :: As ∧ M.2.2.1 b = (10 + 10, 0) := by
  obtain ⟨b, As, h1, h2, -⟩ := mkT_r h
  exact ⟨b, As, h1, h2⟩
def tb_PR_init : List (Nat × Option (List Nat) × Instr × List Nat) := [(0, none, .aload_n 0, []), (1, none, .invokespecial 3, []), (4, none, .aload_n 0, []), (5, none, .new 9, []), (8, none, .dup, []), (9, none, .invokespecial 11, []), (12, none, .putfield 12, []), (15, none, .aload_n 0, []), (16, none, .new 16, []), (19, none, .dup, []), (20, none, .invokespecial 18, []), (23, none, .putfield 19, []), (26, none, .aload_n 0, []), (27, none, .iconst 3, []), (28, none, .anewarray 23, []), (31, none, .putfield 25, []), (34, none, .iconst 0, []), (35, none, .istore_n 1, []), (36, some [0, 1], .iload_n 1, []), (37, none, .iconst 3, []), (38, none, .if_icmp .ge 22, [60]), (41, none, .aload_n 0, []), (42, none, .getfield 25, []), (45, none, .iload_n 1, []), (46, none, .new 23, []), (49, none, .dup, []), (50, none, .invokespecial 29, []), (53, none, .aastore, []), (54, none, .iinc 1 1, []), (57, none, .goto (-21), [36]), (60, none, .return_, [])]
def P_PR_init : Nat → Option (List Nat) × Instr × List Nat := plk tb_PR_init
theorem r_PR_init_0 : P_PR_init 0 = (none, .aload_n 0, []) := by decide +kernel
theorem r_PR_init_1 : P_PR_init 1 = (none, .invokespecial 3, []) := by decide +kernel
theorem r_PR_init_4 : P_PR_init 4 = (none, .aload_n 0, []) := by decide +kernel
theorem r_PR_init_5 : P_PR_init 5 = (none, .new 9, []) := by decide +kernel
theorem r_PR_init_8 : P_PR_init 8 = (none, .dup, []) := by decide +kernel
theorem r_PR_init_9 : P_PR_init 9 = (none, .invokespecial 11, []) := by decide +kernel
theorem r_PR_init_12 : P_PR_init 12 = (none, .putfield 12, []) := by decide +kernel
theorem r_PR_init_15 : P_PR_init 15 = (none, .aload_n 0, []) := by decide +kernel
theorem r_PR_init_16 : P_PR_init 16 = (none, .new 16, []) := by decide +kernel
theorem r_PR_init_19 : P_PR_init 19 = (none, .dup, []) := by decide +kernel
theorem r_PR_init_20 : P_PR_init 20 = (none, .invokespecial 18, []) := by decide +kernel
theorem r_PR_init_23 : P_PR_init 23 = (none, .putfield 19, []) := by decide +kernel
theorem r_PR_init_26 : P_PR_init 26 = (none, .aload_n 0, []) := by decide +kernel
theorem r_PR_init_27 : P_PR_init 27 = (none, .iconst 3, []) := by decide +kernel
theorem r_PR_init_28 : P_PR_init 28 = (none, .anewarray 23, []) := by decide +kernel
theorem r_PR_init_31 : P_PR_init 31 = (none, .putfield 25, []) := by decide +kernel
theorem r_PR_init_34 : P_PR_init 34 = (none, .iconst 0, []) := by decide +kernel
theorem r_PR_init_35 : P_PR_init 35 = (none, .istore_n 1, []) := by decide +kernel
theorem r_PR_init_36 : P_PR_init 36 = (some [0, 1], .iload_n 1, []) := by decide +kernel
theorem r_PR_init_37 : P_PR_init 37 = (none, .iconst 3, []) := by decide +kernel
theorem r_PR_init_38 : P_PR_init 38 = (none, .if_icmp .ge 22, [60]) := by decide +kernel
theorem r_PR_init_41 : P_PR_init 41 = (none, .aload_n 0, []) := by decide +kernel
theorem r_PR_init_42 : P_PR_init 42 = (none, .getfield 25, []) := by decide +kernel
theorem r_PR_init_45 : P_PR_init 45 = (none, .iload_n 1, []) := by decide +kernel
theorem r_PR_init_46 : P_PR_init 46 = (none, .new 23, []) := by decide +kernel
theorem r_PR_init_49 : P_PR_init 49 = (none, .dup, []) := by decide +kernel
theorem r_PR_init_50 : P_PR_init 50 = (none, .invokespecial 29, []) := by decide +kernel
theorem r_PR_init_53 : P_PR_init 53 = (none, .aastore, []) := by decide +kernel
theorem r_PR_init_54 : P_PR_init 54 = (none, .iinc 1 1, []) := by decide +kernel
theorem r_PR_init_57 : P_PR_init 57 = (none, .goto (-21), [36]) := by decide +kernel
theorem r_PR_init_60 : P_PR_init 60 = (none, .return_, []) := by decide +kernel
def E_PR_init : List (Nat × Ent) := [(45, (1, 1, 1, 8000, T_Tape_init)), (73, (1, 1, 1, 600, T_Trail_init)), (117, (1, 2, 43, 38133, T_Picture_init)), (13, (1, 0, 0, 0, T_objInit))]
def X_PR_init : Cx := (llk (0, 0, 9) ftX10, llk 99 ntX10, llk none kcX10, llk none klX10, llk dEnt E_PR_init, 3, 3, true)
theorem xok_PR_init : Xok RX10 X_PR_init := xok_of ftX10_ok ntX10_ok kcX10_ok klX10_ok (E := E_PR_init) (List.forall_mem_cons.mpr ⟨co_X10_45, List.forall_mem_cons.mpr ⟨co_X10_73, List.forall_mem_cons.mpr ⟨co_X10_117, List.forall_mem_cons.mpr ⟨co_X10_13, fun _ h => absurd h List.not_mem_nil⟩⟩⟩⟩)
theorem xf_PR_init_12 : xfl X_PR_init 12 = (10, 0, 1) := by decide +kernel
theorem xf_PR_init_19 : xfl X_PR_init 19 = (10, 2, 1) := by decide +kernel
theorem xf_PR_init_25 : xfl X_PR_init 25 = (10, 1, 1) := by decide +kernel
theorem xn_PR_init_9 : xnc X_PR_init 9 = 6 := by decide +kernel
theorem xn_PR_init_16 : xnc X_PR_init 16 = 8 := by decide +kernel
theorem xn_PR_init_23 : xnc X_PR_init 23 = 3 := by decide +kernel
theorem xe_PR_init_45 : xE X_PR_init (4 * 11 + 1) = (1, 1, 1, 8000, T_Tape_init) := rfl
theorem xe_PR_init_73 : xE X_PR_init (4 * 18 + 1) = (1, 1, 1, 600, T_Trail_init) := rfl
theorem xe_PR_init_117 : xE X_PR_init (4 * 29 + 1) = (1, 2, 43, 38133, T_Picture_init) := rfl
theorem xe_PR_init_13 : xE X_PR_init (4 * 3 + 1) = (1, 0, 0, 0, T_objInit) := rfl
theorem xd_PR_init : xd X_PR_init = 3 := rfl
theorem xrb_PR_init : xrb X_PR_init = 3 := rfl
theorem xin_PR_init : xin X_PR_init = true := rfl
set_option maxHeartbeats 4000000 in
set_option maxRecDepth 100000 in
theorem S_PR_init : Snd yX10_init cX10_init 2 none T_PR_init 3 137 123042 := by
  refine snd_of (X := X_PR_init) (P := P_PR_init) (tb := tb_PR_init) (own := RX10) (by decide) rfl rfl (by decide +kernel) xok_PR_init rfl rk3 (fun h => by first | rfl | cases h) ?_
  intro as M k has hM hT0
  obtain ⟨sz, sl, lay, ρ, σ, τ⟩ := M
  obtain ⟨o, as1, e, hlo, hT1⟩ := mkT_r hT0
  clear hT0
  subst e
  obtain ⟨e, hT⟩ := hT1
  subst e
  replace hlo : lay o = (20, 0) := hlo
  clear has
  replace hM : ∀ a i, -2147483648 ≤ σ a i ∧ σ a i ≤ 2147483647 := hM
  replace hT : TF_PR_init o sz sl lay ρ σ τ k := hT
  unfold TF_PR_init at hT
  obtain ⟨⟨hsz, ho, hz⟩, hT⟩ := hT
  subst hsz
  obtain ⟨J, hJd⟩ : ∃ J : Nat → List AV → Mm → Prop, J = (fun c vs M1 => c = 36 ∧ ∃ (i P S : Nat) (lay1 : Nat → Nat × Int) (ρ1 : Nat → Int → Nat) (σ1 : Nat → Int → Int) (τ1 : Nat → Int → Int64), i ≤ 3 ∧ P = o + 6 + 44 * i ∧ S = sl + 8607 + 38145 * i ∧ NF lay lay1 ρ ρ1 σ σ1 τ τ1 o ∧ lay1 o = (20, 0) ∧ (ρ1 o 0 = o + 1 ∧ ρ1 o 1 = o + 5 ∧ ρ1 o 2 = o + 3) ∧ LTape lay1 ρ1 (o + 1) ∧ LTrail lay1 ρ1 (o + 3) ∧ lay1 (o + 5) = (5, 3) ∧ (∀ q : Nat, q < i → ρ1 (o + 5) q = o + 6 + 44 * q ∧ LPic lay1 ρ1 (o + 6 + 44 * q)) ∧ Zr σ1 o (5 + 44 * i) ∧ vs = [vR o, vI (i : Int)] ∧ M1 = (P, S, lay1, ρ1, σ1, τ1)) := ⟨_, rfl⟩
  obtain ⟨μ, hμ⟩ : ∃ μ : Nat → List AV → Mm → Nat, μ = (fun _ vs _ => (10 - gI (vs.getD 1 vN)).toNat) := ⟨_, rfl⟩
  refine ⟨Nat.le_of_ble_eq_true rfl, J, μ, 39, ?_, ?_⟩
  · unfold wps
    simp only [si_iload_n0, si_iload_n1, si_iload_n2, si_iload_n3, si_iload, si_lload_n0, si_lload_n1, si_lload_n2, si_lload_n3, si_lload, si_aload_n0, si_aload_n1, si_aload_n2, si_aload_n3, si_aload, si_istore_n0, si_istore_n1, si_istore_n2, si_istore_n3, si_istore, si_astore_n0, si_astore_n1, si_astore_n2, si_astore_n3, si_astore, si_lstore_n0, si_lstore_n1, si_lstore_n2, si_lstore_n3, si_lstore, si_iconst, si_bipush, si_sipush, si_ldc, si_ldc2_w, si_lconst0, si_lconst1, si_aconst_null, si_iinc, si_dup, si_dup2, si_iadd, si_isub, si_imul, si_idiv, si_irem, si_iand, si_ior, si_ishl, si_ishr, si_ladd, si_lmul, si_lor, si_lxor, si_lshl, si_lushr, si_lcmp, si_i2b, si_i2l, si_l2i, si_icmp_eq, si_icmp_ne, si_icmp_lt, si_icmp_ge, si_icmp_gt, si_icmp_le, si_if_eq, si_if_ne, si_if_lt, si_if_ge, si_if_gt, si_if_le, si_ifnull, si_ifnonnull, si_goto, si_tableswitch, si_lookupswitch, si_getfield, si_putfield, si_getstatic, si_iaload, si_baload, si_laload, si_aaload, si_iastore, si_bastore, si_lastore, si_aastore, si_arraylength, si_new, si_newarray, si_anewarray, si_invokevirtual, si_invokespecial, si_invokestatic, si_ireturn, si_lreturn, si_areturn, si_return_, pI_e, pL_e, pR_e, pA_r, pA_n, pN_n, pN_r, oI_e, oL_e, oA_r, oA_n, lget_e, lrm1_0, lrm2_0, lrm1_i, lrm1_r, lrm1_n, lrm1_l, lrm2_i, lrm2_r, lrm2_n, lrm2_l, popN_0, popN_s, acat_i, acat_l, acat_r, acat_n, stw_0, stw_s, psh_s, psh_n, wgf_r, wgf_i, wgf_b, wgf_n, wgf_m, wpf_i, wpf_r, wpf_b, wnew_e, callE_e, rbk_0, rbk_1, tsw_0, tsw_s, lsw_0, lsw_s, wp_s, wq_t, wq_f, oV_e, pick_0, pick_s, oZ_e, oY_e, r_PR_init_0, r_PR_init_1, r_PR_init_4, r_PR_init_5, r_PR_init_8, r_PR_init_9, r_PR_init_12, r_PR_init_15, r_PR_init_16, r_PR_init_19, r_PR_init_20, r_PR_init_23, r_PR_init_26, r_PR_init_27, r_PR_init_28, r_PR_init_31, r_PR_init_34, r_PR_init_35, r_PR_init_36, r_PR_init_37, r_PR_init_38, r_PR_init_41, r_PR_init_42, r_PR_init_45, r_PR_init_46, r_PR_init_49, r_PR_init_50, r_PR_init_53, r_PR_init_54, r_PR_init_57, r_PR_init_60, xf_PR_init_12, xf_PR_init_19, xf_PR_init_25, xn_PR_init_9, xn_PR_init_16, xn_PR_init_23, xe_PR_init_45, xe_PR_init_73, xe_PR_init_117, xe_PR_init_13, xd_PR_init, xrb_PR_init, xin_PR_init, T_Tape_init_e, TF_Tape_init, T_Trail_init_e, TF_Trail_init, T_Picture_init_e, TF_Picture_init, akd_i, akd_b, akd_z, akd_l, Nat.add_assoc, Nat.le_add_right, nfA_0, nfA_1, nfA_2, nfA_3, nfA_4, nfA_5, nfA_6, nfA_7, nfA_8, nfA_9, nfA_10, nfA_11, hlo, Nat.reduceAdd, Nat.reduceMul, Nat.reduceEqDiff, reduceIte, Int.reduceNeg, Int.reduceLE, Int.reduceLT, Int.reduceAdd, Int.reduceSub, Int.reduceToNat, true_and, and_true, inR_e, Nat.reduceLT, Nat.reduceLeDiff, reduceCtorEq, Nat.add_zero, Nat.zero_add, or_false, false_or, or_true, true_or, not_true_eq_false, not_false_eq_true, Classical.not_not, Nat.add_eq_zero_iff, and_false, false_and, Int.reduceEq, List.mem_cons, List.not_mem_nil, forall_eq_or_imp, forall_eq, false_implies, implies_true, forall_const, aargs_0, aargs_i, aargs_r, aargs_l, aargs_n, nfT_e, eq_self, and_self, Nat.le_refl, fu_s, fu_fu, iu_iu, iu_s, fu_am, fu_a0, fu_0a, iu_l, Nat.reduceBEq, Int.reduceBEq, T_objInit_e]
    intro lay1 ρ1 σ1 τ1 n1 l1 z1
    have b1 : ∀ a, a < o + 1 → lay1 a = lay a ∧ ρ1 a = ρ a ∧ σ1 a = σ a ∧ τ1 a = τ a := fun a ha => by
      have h := n1 a ha
      simp only [fu_n (show ¬ a = o + 1 by omega)] at h
      exact h
    refine ⟨(b1 o (by omega)).1.trans hlo, ?_⟩
    intro lay2 ρ2 σ2 τ2 n2 l2 z2
    have b2 : ∀ a, a < o + 3 → ¬ a = o → lay2 a = lay1 a ∧ ρ2 a = ρ1 a ∧ σ2 a = σ1 a ∧ τ2 a = τ1 a := fun a ha h0 => by
      have h := n2 a ha
      simp only [fu_n h0, fu_n (show ¬ a = o + 3 by omega)] at h
      exact h
    have c2 := n2 o (by omega)
    simp only [fu_a0, fu_s, Nat.reduceBEq] at c2
    have lo2 : lay2 o = (20, 0) := c2.1.trans ((b1 o (by omega)).1.trans hlo)
    have l12 := l1.cg (lay2 := lay2) (ρ2 := ρ2) (fun a ha => (b2 a (by omega) (by omega)).1) (b2 (o + 1) (by omega) (by omega)).2.1
    refine ⟨lo2, lo2, ?_⟩
    rw [hJd]
    refine ⟨rfl, 0, _, _, _, _, _, _, by omega, rfl, rfl, fun a ha => ?_, ?_, ?_, ?_, ?_, ?_, fun q hq => by omega, ?_, rfl, rfl⟩
    · rw [fu_n (show ¬ a = o + 5 by omega), fu_n (show ¬ a = o by omega), fu_n (show ¬ a = o + 5 by omega), fu_n (show ¬ a = o by omega), fu_n (show ¬ a = o + 5 by omega), fu_n (show ¬ a = o + 5 by omega)]
      obtain ⟨e1, e2, e3, e4⟩ := b2 a (by omega) (by omega)
      obtain ⟨f1, f2, f3, f4⟩ := b1 a (by omega)
      exact ⟨e1.trans f1, e2.trans f2, e3.trans f3, e4.trans f4⟩
    · simp only [fu_a0, Nat.reduceBEq]; exact lo2
    · simp only [fu_s, c2, iu_s, iu_l, Int.reduceBEq, fu_a0, Nat.reduceBEq, and_self]
    · exact l12.cg (fun a ha => fu_n (by omega)) (by rw [fu_n (by omega), fu_n (by omega), fu_n (by omega)])
    · exact l2.cg (fun a ha => fu_n (by omega)) (by rw [fu_n (by omega), fu_n (by omega), fu_n (by omega)])
    · rw [fu_s]
    · intro a ha x
      by_cases h5 : a = o + 5
      · rw [h5, fu_s]
      · rw [fu_n h5]
        by_cases h3 : o + 3 ≤ a
        · exact z2 a (by omega) x
        · by_cases h0 : a = o
          · rw [h0, c2.2.2.1, (b1 o (by omega)).2.2.1]; exact hz x
          · rw [(b2 a (by omega) h0).2.2.1]
            exact z1 a (by omega) x
  · intro cp vs M1 hvs hM1 hlen hJ
    rw [hJd] at hJ
    obtain ⟨rfl, i, P, S, lay1, ρ1, σ1, τ1, hi, hP, hS, A1, lo1, ⟨r0, r1, r2⟩, lt, ll, l5, pics, Z1, rfl, rfl⟩ := hJ
    (unfold wps; simp only [Option.getD_some, List.zip_cons_cons, List.zip_nil_left, List.zip_nil_right, List.zip_nil_right, lo1, r1, si_iload_n0, si_iload_n1, si_iload_n2, si_iload_n3, si_iload, si_lload_n0, si_lload_n1, si_lload_n2, si_lload_n3, si_lload, si_aload_n0, si_aload_n1, si_aload_n2, si_aload_n3, si_aload, si_istore_n0, si_istore_n1, si_istore_n2, si_istore_n3, si_istore, si_astore_n0, si_astore_n1, si_astore_n2, si_astore_n3, si_astore, si_lstore_n0, si_lstore_n1, si_lstore_n2, si_lstore_n3, si_lstore, si_iconst, si_bipush, si_sipush, si_ldc, si_ldc2_w, si_lconst0, si_lconst1, si_aconst_null, si_iinc, si_dup, si_dup2, si_iadd, si_isub, si_imul, si_idiv, si_irem, si_iand, si_ior, si_ishl, si_ishr, si_ladd, si_lmul, si_lor, si_lxor, si_lshl, si_lushr, si_lcmp, si_i2b, si_i2l, si_l2i, si_icmp_eq, si_icmp_ne, si_icmp_lt, si_icmp_ge, si_icmp_gt, si_icmp_le, si_if_eq, si_if_ne, si_if_lt, si_if_ge, si_if_gt, si_if_le, si_ifnull, si_ifnonnull, si_goto, si_tableswitch, si_lookupswitch, si_getfield, si_putfield, si_getstatic, si_iaload, si_baload, si_laload, si_aaload, si_iastore, si_bastore, si_lastore, si_aastore, si_arraylength, si_new, si_newarray, si_anewarray, si_invokevirtual, si_invokespecial, si_invokestatic, si_ireturn, si_lreturn, si_areturn, si_return_, pI_e, pL_e, pR_e, pA_r, pA_n, pN_n, pN_r, oI_e, oL_e, oA_r, oA_n, lget_e, lrm1_0, lrm2_0, lrm1_i, lrm1_r, lrm1_n, lrm1_l, lrm2_i, lrm2_r, lrm2_n, lrm2_l, popN_0, popN_s, acat_i, acat_l, acat_r, acat_n, stw_0, stw_s, psh_s, psh_n, wgf_r, wgf_i, wgf_b, wgf_n, wgf_m, wpf_i, wpf_r, wpf_b, wnew_e, callE_e, rbk_0, rbk_1, tsw_0, tsw_s, lsw_0, lsw_s, wp_s, wq_t, wq_f, oV_e, pick_0, pick_s, oZ_e, oY_e, r_PR_init_0, r_PR_init_1, r_PR_init_4, r_PR_init_5, r_PR_init_8, r_PR_init_9, r_PR_init_12, r_PR_init_15, r_PR_init_16, r_PR_init_19, r_PR_init_20, r_PR_init_23, r_PR_init_26, r_PR_init_27, r_PR_init_28, r_PR_init_31, r_PR_init_34, r_PR_init_35, r_PR_init_36, r_PR_init_37, r_PR_init_38, r_PR_init_41, r_PR_init_42, r_PR_init_45, r_PR_init_46, r_PR_init_49, r_PR_init_50, r_PR_init_53, r_PR_init_54, r_PR_init_57, r_PR_init_60, xf_PR_init_12, xf_PR_init_19, xf_PR_init_25, xn_PR_init_9, xn_PR_init_16, xn_PR_init_23, xe_PR_init_45, xe_PR_init_73, xe_PR_init_117, xe_PR_init_13, xd_PR_init, xrb_PR_init, xin_PR_init, T_Tape_init_e, TF_Tape_init, T_Trail_init_e, TF_Trail_init, T_Picture_init_e, TF_Picture_init, akd_i, akd_b, akd_z, akd_l, Nat.add_assoc, Nat.le_add_right, nfA_0, nfA_1, nfA_2, nfA_3, nfA_4, nfA_5, nfA_6, nfA_7, nfA_8, nfA_9, nfA_10, nfA_11, hlo, Nat.reduceAdd, Nat.reduceMul, Nat.reduceEqDiff, reduceIte, Int.reduceNeg, Int.reduceLE, Int.reduceLT, Int.reduceAdd, Int.reduceSub, Int.reduceToNat, true_and, and_true, inR_e, Nat.reduceLT, Nat.reduceLeDiff, reduceCtorEq, Nat.add_zero, Nat.zero_add, or_false, false_or, or_true, true_or, not_true_eq_false, not_false_eq_true, Classical.not_not, Nat.add_eq_zero_iff, and_false, false_and, Int.reduceEq, List.mem_cons, List.not_mem_nil, forall_eq_or_imp, forall_eq, false_implies, implies_true, forall_const, aargs_0, aargs_i, aargs_r, aargs_l, aargs_n, nfT_e, eq_self, and_self, Nat.le_refl, fu_s, fu_fu, iu_iu, iu_s, fu_am, fu_a0, fu_0a, iu_l, Nat.reduceBEq, Int.reduceBEq, T_objInit_e])
    refine ⟨fun h => ?_, fun h => ⟨by omega, by omega, by omega, by omega, by omega, ?_⟩⟩
    · have e3 : i = 3 := by omega
      subst e3
      have eP : P = o + 138 := by omega
      have eS : S = sl + 123042 := by omega
      refine ⟨?_, eP, eS⟩
      rw [eP, eS]
      refine hT _ _ _ _ A1 ⟨lo1, ⟨r0, r1, r2⟩, lt.1, ll.1, l5, lt, ll, fun p hp => ?_⟩ Z1
      have h := pics p.toNat (by omega)
      rw [show ((p.toNat : Nat) : Int) = p by omega] at h
      exact h
    · intro lay2 ρ2 σ2 τ2 n2 l2 z2
      have b2 : ∀ a, a < P → lay2 a = lay1 a ∧ ρ2 a = ρ1 a ∧ σ2 a = σ1 a ∧ τ2 a = τ1 a := fun a ha => by
        have h := n2 a ha
        simp only [fu_n (show ¬ a = P by omega)] at h
        exact h
      have e5 : lay2 (o + 5) = (5, 3) := (b2 (o + 5) (by omega)).1.trans l5
      rw [e5]
      refine ⟨rfl, by omega, ?_, l2.1.1, by omega, by omega, ?_, (by rw [hμ]; simp only [gI_e, List.getD_cons_succ, List.getD_cons_zero]; omega)⟩
      · show (i : Int) < 3
        omega
      · rw [hJd]
        refine ⟨rfl, i + 1, P + 44, S + 38145, lay2, _, σ2, τ2, by omega, by omega, by omega, fun a ha => ?_, (b2 o (by omega)).1.trans lo1, ?_, ?_, ?_, e5, fun q hq => ?_, fun a ha x => ?_, rfl, rfl⟩
        · rw [fu_n (show ¬ a = o + 5 by omega)]
          obtain ⟨e1, e2, e3, e4⟩ := b2 a (by omega)
          obtain ⟨f1, f2, f3, f4⟩ := A1 a ha
          exact ⟨e1.trans f1, e2.trans f2, e3.trans f3, e4.trans f4⟩
        · rw [fu_n (show ¬ o = o + 5 by omega), (b2 o (by omega)).2.1]
          exact ⟨r0, r1, r2⟩
        · exact lt.cg (fun a ha => (b2 a (by omega)).1) (by rw [fu_n (by omega)]; exact (b2 (o + 1) (by omega)).2.1)
        · exact ll.cg (fun a ha => (b2 a (by omega)).1) (by rw [fu_n (by omega)]; exact (b2 (o + 3) (by omega)).2.1)
        · by_cases e : q = i
          · rw [e, fu_s, iu_s, ← hP]
            exact ⟨rfl, l2.cg (fun _ _ => rfl) (fun a ha => fu_n (by omega))⟩
          · obtain ⟨p1, p2⟩ := pics q (by omega)
            rw [fu_s, iu_n (by omega), (b2 (o + 5) (by omega)).2.1]
            exact ⟨p1, p2.cg (fun a ha => (b2 a (by omega)).1) (fun a ha => by rw [fu_n (by omega)]; exact (b2 a (by omega)).2.1)⟩
        · by_cases h2 : a < P
          · rw [(b2 a h2).2.2.1]; exact Z1 a (by omega) x
          · exact z2 a (by omega) x

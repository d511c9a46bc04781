theorem co_X3_508 : CallOK RX3 (.invokevirtual 127) (3, 3, 0, 0, T_Picture_takeKind) := call_V S_Picture_takeKind (by decide) (ci := 3) rfl (by decide +kernel) (by decide +kernel) (by decide +kernel) (by decide +kernel) (by decide +kernel) (by decide +kernel) T_Picture_takeKind_r
theorem co_X3_520 : CallOK RX3 (.invokevirtual 130) (3, 4, 0, 0, T_Picture_takeThing) := call_V S_Picture_takeThing (by decide) (ci := 3) rfl (by decide +kernel) (by decide +kernel) (by decide +kernel) (by decide +kernel) (by decide +kernel) (by decide +kernel) T_Picture_takeThing_r
theorem co_X3_532 : CallOK RX3 (.invokevirtual 133) (3, 4, 0, 0, T_Picture_takeRow) := call_V S_Picture_takeRow (by decide) (ci := 3) rfl (by decide +kernel) (by decide +kernel) (by decide +kernel) (by decide +kernel) (by decide +kernel) (by decide +kernel) T_Picture_takeRow_r
theorem co_X3_544 : CallOK RX3 (.invokevirtual 136) (3, 4, 0, 0, T_Picture_takeSoft) := call_V S_Picture_takeSoft (by decide) (ci := 3) rfl (by decide +kernel) (by decide +kernel) (by decide +kernel) (by decide +kernel) (by decide +kernel) (by decide +kernel) T_Picture_takeSoft_r
theorem co_X3_556 : CallOK RX3 (.invokevirtual 139) (3, 2, 0, 0, T_Picture_takeRoot) := call_V S_Picture_takeRoot (by decide) (ci := 3) rfl (by decide +kernel) (by decide +kernel) (by decide +kernel) (by decide +kernel) (by decide +kernel) (by decide +kernel) T_Picture_takeRoot_r
def TF_Picture_take (o : Nat) (t : Nat) (p : Int) (sz sl : Nat) (lay : Nat → Nat × Int) (ρ : Nat → Int → Nat) (σ : Nat → Int → Int) (τ : Nat → Int → Int64) (k : Option AV → Mm → Prop) : Prop := LPic lay ρ o ∧ LTape lay ρ t ∧ (0 ≤ σ t 1 ∧ σ t 1 ≤ 8000) ∧ (t + 2 ≤ o) ∧ Wd lay ρ σ ∧ (ρ 0 0 < o) ∧ (0 ≤ p ∧ p < σ t 1) ∧ ∃ st : Nat → Int → Int, SW (tU σ t) (σ t 1) st ∧ CO σ τ o (tU σ t) st ∧ st 0 0 = p ∧ (¬ Acc (tU σ t) (σ t 1) st p → ∀ (σ2 : Nat → Int → Int) (τ2 : Nat → Int → Int64), PFr σ σ2 τ τ2 o → CO σ2 τ2 o (tU σ t) st → k (some (vI (0))) (sz, sl, lay, ρ, σ2, τ2)) ∧ (Acc (tU σ t) (σ t 1) st p → ∀ (σ2 : Nat → Int → Int) (τ2 : Nat → Int → Int64), PFr σ σ2 τ τ2 o → CO σ2 τ2 o (tU σ t) (tk (tU σ t) st p) → k (some (vI (enE (tU σ t) st p - p))) (sz, sl, lay, ρ, σ2, τ2))
def T_Picture_take : Tr := mkT 3 fun o as M k => pR as fun t as => pI as fun p as => as = [] ∧ TF_Picture_take o t p M.1 M.2.1 M.2.2.1 M.2.2.2.1 M.2.2.2.2.1 M.2.2.2.2.2 k
theorem T_Picture_take_e {o : Nat} {t : Nat} {p : Int} {sz sl : Nat} {lay : Nat → Nat × Int} {ρ : Nat → Int → Nat} {σ : Nat → Int → Int} {τ : Nat → Int → Int64} {k : Option AV → Mm → Prop} : T_Picture_take [vR o, vR t, vI p] (sz, sl, lay, ρ, σ, τ) k = (lay o = (13, 0) ∧ TF_Picture_take o t p sz sl lay ρ σ τ k) := by simp [T_Picture_take, mkT_e, pI_e, pR_e, pL_e]
theorem T_Picture_take_r (as : List AV) (M : Mm) (k : Option AV → Mm → Prop) (h : T_Picture_take as M k) : ∃ b As, as = vR b :: As ∧ M.2.2.1 b = (10 + 3, 0) := by
  obtain ⟨b, As, h1, h2, -⟩ := mkT_r h
  exact ⟨b, As, h1, h2⟩
def tb_Picture_take : List (Nat × Option (List Nat) × Instr × List Nat) := [(0, none, .aload_n 1, []), (1, none, .iload_n 2, []), (2, none, .invokevirtual 116, []), (5, none, .lookupswitch 86 #[(65, 79), (75, 51), (82, 65), (83, 72), (84, 58)], [91, 84, 56, 70, 77, 63]), (56, none, .aload_n 0, []), (57, none, .aload_n 1, []), (58, none, .iload_n 2, []), (59, none, .invokevirtual 127, []), (62, none, .ireturn, []), (63, none, .aload_n 0, []), (64, none, .aload_n 1, []), (65, none, .iload_n 2, []), (66, none, .invokevirtual 130, []), (69, none, .ireturn, []), (70, none, .aload_n 0, []), (71, none, .aload_n 1, []), (72, none, .iload_n 2, []), (73, none, .invokevirtual 133, []), (76, none, .ireturn, []), (77, none, .aload_n 0, []), (78, none, .aload_n 1, []), (79, none, .iload_n 2, []), (80, none, .invokevirtual 136, []), (83, none, .ireturn, []), (84, none, .aload_n 0, []), (85, none, .aload_n 1, []), (86, none, .iload_n 2, []), (87, none, .invokevirtual 139, []), (90, none, .ireturn, []), (91, none, .iconst 0, []), (92, none, .ireturn, [])]
def P_Picture_take : Nat → Option (List Nat) × Instr × List Nat := plk tb_Picture_take
theorem r_Picture_take_0 : P_Picture_take 0 = (none, .aload_n 1, []) := by decide +kernel
theorem r_Picture_take_1 : P_Picture_take 1 = (none, .iload_n 2, []) := by decide +kernel
theorem r_Picture_take_2 : P_Picture_take 2 = (none, .invokevirtual 116, []) := by decide +kernel
theorem r_Picture_take_5 : P_Picture_take 5 = (none, .lookupswitch 86 #[(65, 79), (75, 51), (82, 65), (83, 72), (84, 58)], [91, 84, 56, 70, 77, 63]) := by decide +kernel
theorem r_Picture_take_56 : P_Picture_take 56 = (none, .aload_n 0, []) := by decide +kernel
theorem r_Picture_take_57 : P_Picture_take 57 = (none, .aload_n 1, []) := by decide +kernel
theorem r_Picture_take_58 : P_Picture_take 58 = (none, .iload_n 2, []) := by decide +kernel
theorem r_Picture_take_59 : P_Picture_take 59 = (none, .invokevirtual 127, []) := by decide +kernel
theorem r_Picture_take_62 : P_Picture_take 62 = (none, .ireturn, []) := by decide +kernel
theorem r_Picture_take_63 : P_Picture_take 63 = (none, .aload_n 0, []) := by decide +kernel
theorem r_Picture_take_64 : P_Picture_take 64 = (none, .aload_n 1, []) := by decide +kernel
theorem r_Picture_take_65 : P_Picture_take 65 = (none, .iload_n 2, []) := by decide +kernel
theorem r_Picture_take_66 : P_Picture_take 66 = (none, .invokevirtual 130, []) := by decide +kernel
theorem r_Picture_take_69 : P_Picture_take 69 = (none, .ireturn, []) := by decide +kernel
theorem r_Picture_take_70 : P_Picture_take 70 = (none, .aload_n 0, []) := by decide +kernel
theorem r_Picture_take_71 : P_Picture_take 71 = (none, .aload_n 1, []) := by decide +kernel
theorem r_Picture_take_72 : P_Picture_take 72 = (none, .iload_n 2, []) := by decide +kernel
theorem r_Picture_take_73 : P_Picture_take 73 = (none, .invokevirtual 133, []) := by decide +kernel
theorem r_Picture_take_76 : P_Picture_take 76 = (none, .ireturn, []) := by decide +kernel
theorem r_Picture_take_77 : P_Picture_take 77 = (none, .aload_n 0, []) := by decide +kernel
theorem r_Picture_take_78 : P_Picture_take 78 = (none, .aload_n 1, []) := by decide +kernel
theorem r_Picture_take_79 : P_Picture_take 79 = (none, .iload_n 2, []) := by decide +kernel
theorem r_Picture_take_80 : P_Picture_take 80 = (none, .invokevirtual 136, []) := by decide +kernel
theorem r_Picture_take_83 : P_Picture_take 83 = (none, .ireturn, []) := by decide +kernel
theorem r_Picture_take_84 : P_Picture_take 84 = (none, .aload_n 0, []) := by decide +kernel
theorem r_Picture_take_85 : P_Picture_take 85 = (none, .aload_n 1, []) := by decide +kernel
theorem r_Picture_take_86 : P_Picture_take 86 = (none, .iload_n 2, []) := by decide +kernel
theorem r_Picture_take_87 : P_Picture_take 87 = (none, .invokevirtual 139, []) := by decide +kernel
theorem r_Picture_take_90 : P_Picture_take 90 = (none, .ireturn, []) := by decide +kernel
theorem r_Picture_take_91 : P_Picture_take 91 = (none, .iconst 0, []) := by decide +kernel
theorem r_Picture_take_92 : P_Picture_take 92 = (none, .ireturn, []) := by decide +kernel
def E_Picture_take : List (Nat × Ent) := [(464, (2, 0, 0, 0, T_Tape_at)), (508, (3, 3, 0, 0, T_Picture_takeKind)), (520, (3, 4, 0, 0, T_Picture_takeThing)), (532, (3, 4, 0, 0, T_Picture_takeRow)), (544, (3, 4, 0, 0, T_Picture_takeSoft)), (556, (3, 2, 0, 0, T_Picture_takeRoot))]
def X_Picture_take : Cx := (llk (0, 0, 9) ftX3, llk 99 ntX3, llk none kcX3, llk none klX3, llk dEnt E_Picture_take, 5, 0, false)
theorem xok_Picture_take : Xok RX3 X_Picture_take := xok_of ftX3_ok ntX3_ok kcX3_ok klX3_ok (E := E_Picture_take) (List.forall_mem_cons.mpr ⟨co_X3_464, List.forall_mem_cons.mpr ⟨co_X3_508, List.forall_mem_cons.mpr ⟨co_X3_520, List.forall_mem_cons.mpr ⟨co_X3_532, List.forall_mem_cons.mpr ⟨co_X3_544, List.forall_mem_cons.mpr ⟨co_X3_556, fun _ h => absurd h List.not_mem_nil⟩⟩⟩⟩⟩⟩)
theorem xe_Picture_take_464 : xE X_Picture_take (4 * 116 + 0) = (2, 0, 0, 0, T_Tape_at) := rfl
theorem xe_Picture_take_508 : xE X_Picture_take (4 * 127 + 0) = (3, 3, 0, 0, T_Picture_takeKind) := rfl
theorem xe_Picture_take_520 : xE X_Picture_take (4 * 130 + 0) = (3, 4, 0, 0, T_Picture_takeThing) := rfl
theorem xe_Picture_take_532 : xE X_Picture_take (4 * 133 + 0) = (3, 4, 0, 0, T_Picture_takeRow) := rfl
theorem xe_Picture_take_544 : xE X_Picture_take (4 * 136 + 0) = (3, 4, 0, 0, T_Picture_takeSoft) := rfl
theorem xe_Picture_take_556 : xE X_Picture_take (4 * 139 + 0) = (3, 2, 0, 0, T_Picture_takeRoot) := rfl
theorem xd_Picture_take : xd X_Picture_take = 5 := rfl
theorem xrb_Picture_take : xrb X_Picture_take = 0 := rfl
theorem xin_Picture_take : xin X_Picture_take = false := rfl
set_option maxHeartbeats 4000000 in
set_option maxRecDepth 100000 in
theorem S_Picture_take : Snd yX3_take cX3_take 3 (some .int) T_Picture_take 5 0 0 := by
  refine snd_of (X := X_Picture_take) (P := P_Picture_take) (tb := tb_Picture_take) (own := RX3) (by decide) rfl rfl (by decide +kernel) xok_Picture_take rfl rk0 (fun h => by first | rfl | cases h) ?_
  intro as M k has hM hT0
  obtain ⟨sz, sl, lay, ρ, σ, τ⟩ := M
  obtain ⟨o, as1, e, hlo, hT1⟩ := mkT_r hT0
  clear hT0
  subst e
  obtain ⟨t, as2, e, hT2⟩ := pR_x hT1
  clear hT1
  subst e
  obtain ⟨p, as3, e, hT3⟩ := pI_x hT2
  clear hT2
  subst e
  obtain ⟨e, hT⟩ := hT3
  subst e
  replace hlo : lay o = (13, 0) := hlo
  have r_p : -2147483648 ≤ p ∧ p ≤ 2147483647 := has (vI p) (by simp)
  clear has
  replace hM : ∀ a i, -2147483648 ≤ σ a i ∧ σ a i ≤ 2147483647 := hM
  replace hT : TF_Picture_take o t p sz sl lay ρ σ τ k := hT
  unfold TF_Picture_take at hT
  obtain ⟨hPc, hTp, hl, hto2, hW, hw0, hp, st, hS, hCO, hq, h0, h1⟩ := hT
  obtain ⟨hP, hKd, hTh, hRt, hHo, hWy, hSy, hLf, hTw⟩ := (show LPic lay ρ o from hPc)
  have hU : ∀ x, 0 ≤ tU σ t x ∧ tU σ t x < 256 := tU_R σ t
  obtain ⟨w0, w1, w2, w3, w4, w5, w6, w7, w8, w9, w10, w11, w12, w13, w14⟩ := (show SW (tU σ t) (σ t 1) st from hS)
  refine ⟨Nat.le_of_ble_eq_true rfl, fun _ _ _ => False, fun _ _ _ => 0, 39, ?_, fun _ _ _ _ _ _ h => h.elim⟩
  obtain ⟨ph, pp0, pp1, pp2, pp3, pp4, pp5, pp6, pp7, pq0, pq1, pq2, pq3, pq4, pq5, pq6, pq7⟩ := (show LPicture lay ρ _ from hP)
  obtain ⟨qh, qp0, qq0⟩ := (show LTape lay ρ _ from hTp)
  unfold wps
  simp only [si_iload_n0, si_iload_n1, si_iload_n2, si_iload_n3, si_iload, si_lload_n0, si_lload_n1, si_lload_n2, si_lload_n3, si_lload, si_aload_n0, si_aload_n1, si_aload_n2, si_aload_n3, si_aload, si_istore_n0, si_istore_n1, si_istore_n2, si_istore_n3, si_istore, si_astore_n0, si_astore_n1, si_astore_n2, si_astore_n3, si_astore, si_lstore_n0, si_lstore_n1, si_lstore_n2, si_lstore_n3, si_lstore, si_iconst, si_bipush, si_sipush, si_ldc, si_ldc2_w, si_lconst0, si_lconst1, si_aconst_null, si_iinc, si_dup, si_dup2, si_iadd, si_isub, si_imul, si_idiv, si_irem, si_iand, si_ior, si_ishl, si_ishr, si_ladd, si_lmul, si_lor, si_lxor, si_lshl, si_lushr, si_lcmp, si_i2b, si_i2l, si_l2i, si_icmp_eq, si_icmp_ne, si_icmp_lt, si_icmp_ge, si_icmp_gt, si_icmp_le, si_if_eq, si_if_ne, si_if_lt, si_if_ge, si_if_gt, si_if_le, si_ifnull, si_ifnonnull, si_goto, si_tableswitch, si_lookupswitch, si_getfield, si_putfield, si_getstatic, si_iaload, si_baload, si_laload, si_aaload, si_iastore, si_bastore, si_lastore, si_aastore, si_arraylength, si_new, si_newarray, si_anewarray, si_invokevirtual, si_invokespecial, si_invokestatic, si_ireturn, si_lreturn, si_areturn, si_return_, pI_e, pL_e, pR_e, pA_r, pA_n, pN_n, pN_r, oI_e, oL_e, oA_r, oA_n, lget_e, lrm1_0, lrm2_0, lrm1_i, lrm1_r, lrm1_n, lrm1_l, lrm2_i, lrm2_r, lrm2_n, lrm2_l, popN_0, popN_s, acat_i, acat_l, acat_r, acat_n, stw_0, stw_s, psh_s, psh_n, wgf_r, wgf_i, wgf_b, wgf_n, wgf_m, wpf_i, wpf_r, wpf_b, wnew_e, callE_e, rbk_0, rbk_1, tsw_0, tsw_s, lsw_0, lsw_s, wp_s, wq_t, wq_f, oV_e, pick_0, pick_s, oZ_e, oY_e, r_Picture_take_0, r_Picture_take_1, r_Picture_take_2, r_Picture_take_5, r_Picture_take_56, r_Picture_take_57, r_Picture_take_58, r_Picture_take_59, r_Picture_take_62, r_Picture_take_63, r_Picture_take_64, r_Picture_take_65, r_Picture_take_66, r_Picture_take_69, r_Picture_take_70, r_Picture_take_71, r_Picture_take_72, r_Picture_take_73, r_Picture_take_76, r_Picture_take_77, r_Picture_take_78, r_Picture_take_79, r_Picture_take_80, r_Picture_take_83, r_Picture_take_84, r_Picture_take_85, r_Picture_take_86, r_Picture_take_87, r_Picture_take_90, r_Picture_take_91, r_Picture_take_92, xe_Picture_take_464, xe_Picture_take_508, xe_Picture_take_520, xe_Picture_take_532, xe_Picture_take_544, xe_Picture_take_556, xd_Picture_take, xrb_Picture_take, xin_Picture_take, T_Tape_at_e, TF_Tape_at, T_Picture_takeKind_e, TF_Picture_takeKind, T_Picture_takeThing_e, TF_Picture_takeThing, T_Picture_takeRow_e, TF_Picture_takeRow, T_Picture_takeSoft_e, TF_Picture_takeSoft, T_Picture_takeRoot_e, TF_Picture_takeRoot, ph, pp0, pp1, pp2, pp3, pp4, pp5, pp6, pp7, pq0, pq1, pq2, pq3, pq4, pq5, pq6, pq7, qh, qp0, qq0, Nat.reduceAdd, Nat.reduceMul, Nat.reduceEqDiff, reduceIte, Int.reduceNeg, Int.reduceLE, Int.reduceLT, Int.reduceAdd, Int.reduceSub, Int.reduceToNat, true_and, and_true, inR_e, Nat.reduceLT, Nat.reduceLeDiff, reduceCtorEq, Nat.add_zero, Nat.zero_add, or_false, false_or, or_true, true_or, not_true_eq_false, not_false_eq_true, Classical.not_not, Nat.add_eq_zero_iff, and_false, false_and, Int.reduceEq, List.mem_cons, List.not_mem_nil, forall_eq_or_imp, forall_eq, false_implies, implies_true, forall_const, aargs_0, aargs_i, aargs_r, aargs_l, aargs_n, nfT_e, eq_self, and_self, Nat.le_refl, fu_s, fu_fu, iu_iu, iu_s, fu_am, fu_a0, fu_0a, iu_l, Nat.reduceBEq, Int.reduceBEq, T_objInit_e]
  clear pp0 pp1 pp2 pp3 pp4 pp5 pp6 pp7 qp0
  have u0 := hU p
  have hTR : TR σ τ (o + 8) (tU σ t) (st 1) (st 2) (st 0 7) (st 0 8) p := by rw [← hq]; exact hCO.2.1
  have aT : (tU σ t p = 84 ∨ tU σ t p = 82 ∨ tU σ t p = 83) → (Acc (tU σ t) (σ t 1) st p ↔ AccT (tU σ t) (σ t 1) (st 1) (st 2) (st 0 7) (st 0 8) p) := by
    intro z
    constructor
    · intro w
      rcases w with w | w | w
      · omega
      · omega
      · exact w.2
    · intro w
      exact Or.inr (Or.inr ⟨z, w⟩)
  have eT : (tU σ t p = 84 ∨ tU σ t p = 82 ∨ tU σ t p = 83) → enE (tU σ t) st p = vP (tU σ t) (st 1) p (nV (tU σ t) (st 1) p) ∧ tk (tU σ t) st p = tkT (tU σ t) st p := by
    intro z
    unfold enE tk
    rw [if_neg (by omega), if_neg (by omega), if_neg (by omega), if_neg (by omega)]
    exact ⟨rfl, rfl⟩
  have h0T : (tU σ t p = 84 ∨ tU σ t p = 82 ∨ tU σ t p = 83) → ¬ AccT (tU σ t) (σ t 1) (st 1) (st 2) (st 0 7) (st 0 8) p → ∀ (σ2 : Nat → Int → Int) (τ2 : Nat → Int → Int64), Fr σ σ2 (o + 8) 12 → (∀ a, ¬ a = o + 8 + 10 → τ2 a = τ a) → TR σ2 τ2 (o + 8) (tU σ t) (st 1) (st 2) (st 0 7) (st 0 8) p → k (some (vI 0)) (sz, sl, lay, ρ, σ2, τ2) := fun z na σ2 τ2 f1 f2 tr => h0 (fun w => na ((aT z).mp w)) σ2 τ2 ⟨f1.sub (by omega) (by omega), fun a ha => f2 a (by omega)⟩ (hCO.back f1 (by rw [hq]; exact tr))
  have h1T : (tU σ t p = 84 ∨ tU σ t p = 82 ∨ tU σ t p = 83) → AccT (tU σ t) (σ t 1) (st 1) (st 2) (st 0 7) (st 0 8) p → ∀ (σ2 : Nat → Int → Int) (τ2 : Nat → Int → Int64), Fr σ σ2 (o + 8) 12 → (∀ a, ¬ a = o + 8 + 10 → τ2 a = τ a) → TR σ2 τ2 (o + 8) (tU σ t) (st 1) (iu (st 2) (st 0 7) p) (st 0 7 + 1) (st 0 8 + rz (tU σ t) (st 1) p) (vP (tU σ t) (st 1) p (nV (tU σ t) (st 1) p)) → k (some (vI (vP (tU σ t) (st 1) p (nV (tU σ t) (st 1) p) - p))) (sz, sl, lay, ρ, σ2, τ2) := by
    intro z na σ2 τ2 f1 f2 tr
    have := h1 ((aT z).mpr na) σ2 τ2 ⟨f1.sub (by omega) (by omega), fun a ha => f2 a (by omega)⟩ (by rw [(eT z).2]; exact hCO.thing hq (by omega) f1 tr)
    rw [(eT z).1] at this
    exact this
  have tb : ∀ z : (tU σ t p = 84 ∨ tU σ t p = 82 ∨ tU σ t p = 83), True := fun _ => trivial
  refine ⟨hTp, hl, fun a => ?_, fun a => absurd hp a⟩
  rw [← tU_i a]
  have c6 := @cntP_R (fun k => 0 ≤ st 1 k) 40
  refine ⟨⟨fun b => ⟨hPc, hTp, hl, hto2, hW, hw0, hp, st, hS, hCO, hq, b, fun z => h0 (fun w => ?_) σ τ PFr.rf hCO, fun z σ2 τ2 f1 f2 => ?_⟩, fun b => ⟨hP, hTp, hl, hto2, hW, hp, o + 1, st 1, rfl, hKd, w0, hCO.1.1, fun k hk => (w12 k hk).imp id (fun z => ⟨z.1, by have := w0.1 (st 1 k + 3); omega⟩), by rw [hCO.1.2, w8]; omega, fun z => h0 (fun w => ?_) σ τ PFr.rf hCO, fun z σ2 f1 f2 f3 => ?_⟩, fun b => ⟨hP, hTp, hl, hto2, hW, hp, b, o + 1, o + 8, st 1, st 2, st 0 7, st 0 8, rfl, rfl, hKd, hTh, w0, hCO.1.1, hTR, w9, w10, h0T (by omega), h1T (by omega)⟩, fun b => ⟨hP, hTp, hl, hto2, hW, hp, b, o + 1, o + 8, st 1, st 2, st 0 7, st 0 8, rfl, rfl, hKd, hTh, w0, hCO.1.1, hTR, w9, w10, h0T (by omega), h1T (by omega)⟩, fun b => ⟨hP, hTp, hl, hto2, hW, hp, b, o + 1, o + 8, st 1, st 2, st 0 7, st 0 8, rfl, rfl, hKd, hTh, w0, hCO.1.1, hTR, w9, w10, h0T (by omega), h1T (by omega)⟩⟩, fun b => h0 (fun w => ?_) σ τ PFr.rf hCO⟩
  · rcases w with w | w | w
    · omega
    · exact z w.2
    · omega
  · have e1 : enE (tU σ t) st p = p + 4 ∧ tk (tU σ t) st p = tkR (tU σ t) st p := by
      unfold enE tk
      rw [if_neg (by omega), if_pos b, if_neg (by omega), if_pos b]
      exact ⟨rfl, rfl⟩
    have := h1 (Or.inr (Or.inl ⟨b, z⟩)) σ2 τ2 f1 (by rw [e1.2]; exact f2)
    rw [e1.1, show p + 4 - p = 4 by omega] at this
    exact this
  · rcases w with w | w | w
    · exact z w.2
    · omega
    · omega
  · have e1 : enE (tU σ t) st p = p + 4 + tU σ t (p + 3) ∧ tk (tU σ t) st p = tkK (tU σ t) st p := by
      unfold enE tk
      rw [if_pos b, if_pos b]
      exact ⟨rfl, rfl⟩
    have u3 := hU (p + 3)
    have := h1 (Or.inl ⟨b, z⟩) σ2 τ ⟨f1.sub (by omega) (by omega), fun _ _ => rfl⟩ (by rw [e1.2]; exact hCO.kind w0 hq (by omega) z (fun i hi => (w13 i hi).2.1) f1 f2 f3)
    rw [e1.1, show p + 4 + tU σ t (p + 3) - p = 4 + tU σ t (p + 3) by omega] at this
    exact this
  · rcases w with w | w | w <;> omega

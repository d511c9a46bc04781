def cntZ (q : Int → Bool) : Nat → Int
  | 0 => 0
  | n + 1 => cntZ q n + (if q n = true then 1 else 0)
def sumZ (f : Int → Int) : Nat → Int
  | 0 => 0
  | n + 1 => sumZ f n + f n
theorem cntZ_R (q : Int → Bool) : ∀ n : Nat, 0 ≤ cntZ q n ∧ cntZ q n ≤ n
  | 0 => by simp [cntZ]
  | n + 1 => by
    have ih := cntZ_R q n
    unfold cntZ
    split <;> omega
theorem sumZ_R {f : Int → Int} {c : Int} (h : ∀ i : Nat, 0 ≤ f i ∧ f i ≤ c) : ∀ n : Nat, 0 ≤ sumZ f n ∧ sumZ f n ≤ n * c
  | 0 => by simp [sumZ]
  | n + 1 => by
    have ih := sumZ_R h n
    have h1 := h n
    unfold sumZ
    have e : ((n + 1 : Nat) : Int) * c = n * c + c := by rw [Int.natCast_add, Int.add_mul]; simp
    omega
theorem sumZ_R2 {f : Int → Int} {c : Int} : ∀ n : Nat, (∀ i : Nat, i < n → 0 ≤ f i ∧ f i ≤ c) → 0 ≤ sumZ f n ∧ sumZ f n ≤ n * c
  | 0, _ => by simp [sumZ]
  | n + 1, h => by
    have ih := sumZ_R2 n (fun i hi => h i (by omega))
    have h1 := h n (by omega)
    unfold sumZ
    have e : ((n + 1 : Nat) : Int) * c = n * c + c := by rw [Int.natCast_add, Int.add_mul]; simp
    omega
/-- the order by numbers is right -/
def ThB (σ : Nat → Int → Int) (o : Nat) : Prop := (∀ r, 0 ≤ r ∧ r < σ o 12 → 0 ≤ σ (o + 7) r ∧ σ (o + 7) r < σ o 12) ∧ (∀ r s, 0 ≤ r ∧ r < s ∧ s < σ o 12 → σ (o + 1) (σ (o + 7) r) < σ (o + 1) (σ (o + 7) s)) ∧ (∀ i, 0 ≤ i ∧ i < σ o 12 → ∃ r, (0 ≤ r ∧ r < σ o 12) ∧ σ (o + 7) r = i)
def prF (v : Int → Int64) : Nat → Int64 → Int64
  | 0, x => x
  | n + 1, x => prF v n x * 31 + v n
def TF_Things_tell (o : Nat) (i : Int) (w : Int) (sz sl : Nat) (lay : Nat → Nat × Int) (ρ : Nat → Int → Nat) (σ : Nat → Int → Int) (τ : Nat → Int → Int64) (k : Option AV → Mm → Prop) : Prop := LThings lay ρ o ∧ (0 ≤ σ o 12 ∧ σ o 12 ≤ 600) ∧ (∀ i, 0 ≤ i → i ≤ σ o 12 → 0 ≤ σ (o + 8) i ∧ σ (o + 8) i ≤ 8000) ∧ (∀ i, 0 ≤ i → i ≤ σ o 12 → 0 ≤ σ (o + 9) i ∧ σ (o + 9) i ≤ 4000) ∧ (0 ≤ i ∧ i < σ o 12 ∧ w = 0 → k (some (vI (σ (o + 2) i))) (sz, sl, lay, ρ, σ, τ)) ∧ (0 ≤ i ∧ i < σ o 12 ∧ w = 1 → k (some (vI (σ (o + 3) i))) (sz, sl, lay, ρ, σ, τ)) ∧ (0 ≤ i ∧ i < σ o 12 ∧ w = 2 → k (some (vI (σ (o + 8) (i + 1) - σ (o + 8) i))) (sz, sl, lay, ρ, σ, τ)) ∧ (0 ≤ i ∧ i < σ o 12 ∧ w = 3 → k (some (vI (σ (o + 5) i))) (sz, sl, lay, ρ, σ, τ)) ∧ (0 ≤ i ∧ i < σ o 12 ∧ w = 4 → k (some (vI (σ (o + 4) i))) (sz, sl, lay, ρ, σ, τ)) ∧ (0 ≤ i ∧ i < σ o 12 ∧ w = 5 → k (some (vI (σ (o + 9) (i + 1) - σ (o + 9) i))) (sz, sl, lay, ρ, σ, τ)) ∧ (0 ≤ i ∧ i < σ o 12 ∧ w = 6 → k (some (vI (σ (o + 6) i))) (sz, sl, lay, ρ, σ, τ)) ∧ (¬ (0 ≤ i ∧ i < σ o 12 ∧ 0 ≤ w ∧ w ≤ 6) → k (some (vI (-1))) (sz, sl, lay, ρ, σ, τ))
def T_Things_tell : Tr := mkT 7 fun o as M k => pI as fun i as => pI as fun w as => as = [] ∧ TF_Things_tell o i w M.1 M.2.1 M.2.2.1 M.2.2.2.1 M.2.2.2.2.1 M.2.2.2.2.2 k
theorem T_Things_tell_e {o : Nat} {i : Int} {w : Int} {sz sl : Nat} {lay : Nat → Nat × Int} {ρ : Nat → Int → Nat} {σ : Nat → Int → Int} {τ : Nat → Int → Int64} {k : Option AV → Mm → Prop} : T_Things_tell [vR o, vI i, vI w] (sz, sl, lay, ρ, σ, τ) k = (lay o = (17, 0) ∧ TF_Things_tell o i w sz sl lay ρ σ τ k) := by simp [T_Things_tell, mkT_e, pI_e, pR_e, pL_e]
theorem T_Things_tell_r (as : List AV) (M : Mm) (k : Option AV → Mm → Prop) (h : T_Things_tell as M k) : ∃ b As, as = vR b :: As ∧ M.2.2.1 b = (10 + 7, 0) := by
  obtain ⟨b, As, h1, h2, -⟩ := mkT_r h
  exact ⟨b, As, h1, h2⟩
def tb_Things_tell : List (Nat × Option (List Nat) × Instr × List Nat) := [(0, none, .aload_n 0, []), (1, none, .iload_n 1, []), (2, none, .invokevirtual 90, []), (5, none, .ifCond .ne 5, [10]), (8, none, .iconst (-1), []), (9, none, .ireturn, []), (10, none, .iload_n 2, []), (11, none, .tableswitch 88 0 6 #[41, 48, 55, 61, 68, 75, 81], [99, 52, 59, 66, 72, 79, 86, 92]), (52, none, .aload_n 0, []), (53, none, .getfield 15, []), (56, none, .iload_n 1, []), (57, none, .iaload, []), (58, none, .ireturn, []), (59, none, .aload_n 0, []), (60, none, .getfield 18, []), (63, none, .iload_n 1, []), (64, none, .iaload, []), (65, none, .ireturn, []), (66, none, .aload_n 0, []), (67, none, .iload_n 1, []), (68, none, .invokevirtual 100, []), (71, none, .ireturn, []), (72, none, .aload_n 0, []), (73, none, .getfield 24, []), (76, none, .iload_n 1, []), (77, none, .iaload, []), (78, none, .ireturn, []), (79, none, .aload_n 0, []), (80, none, .getfield 21, []), (83, none, .iload_n 1, []), (84, none, .iaload, []), (85, none, .ireturn, []), (86, none, .aload_n 0, []), (87, none, .iload_n 1, []), (88, none, .invokevirtual 103, []), (91, none, .ireturn, []), (92, none, .aload_n 0, []), (93, none, .getfield 27, []), (96, none, .iload_n 1, []), (97, none, .iaload, []), (98, none, .ireturn, []), (99, none, .iconst (-1), []), (100, none, .ireturn, [])]
def P_Things_tell : Nat → Option (List Nat) × Instr × List Nat := plk tb_Things_tell
theorem r_Things_tell_0 : P_Things_tell 0 = (none, .aload_n 0, []) := by decide +kernel
theorem r_Things_tell_1 : P_Things_tell 1 = (none, .iload_n 1, []) := by decide +kernel
theorem r_Things_tell_2 : P_Things_tell 2 = (none, .invokevirtual 90, []) := by decide +kernel
theorem r_Things_tell_5 : P_Things_tell 5 = (none, .ifCond .ne 5, [10]) := by decide +kernel
theorem r_Things_tell_8 : P_Things_tell 8 = (none, .iconst (-1), []) := by decide +kernel
theorem r_Things_tell_9 : P_Things_tell 9 = (none, .ireturn, []) := by decide +kernel
theorem r_Things_tell_10 : P_Things_tell 10 = (none, .iload_n 2, []) := by decide +kernel
theorem r_Things_tell_11 : P_Things_tell 11 = (none, .tableswitch 88 0 6 #[41, 48, 55, 61, 68, 75, 81], [99, 52, 59, 66, 72, 79, 86, 92]) := by decide +kernel
theorem r_Things_tell_52 : P_Things_tell 52 = (none, .aload_n 0, []) := by decide +kernel
theorem r_Things_tell_53 : P_Things_tell 53 = (none, .getfield 15, []) := by decide +kernel
theorem r_Things_tell_56 : P_Things_tell 56 = (none, .iload_n 1, []) := by decide +kernel
theorem r_Things_tell_57 : P_Things_tell 57 = (none, .iaload, []) := by decide +kernel
theorem r_Things_tell_58 : P_Things_tell 58 = (none, .ireturn, []) := by decide +kernel
theorem r_Things_tell_59 : P_Things_tell 59 = (none, .aload_n 0, []) := by decide +kernel
theorem r_Things_tell_60 : P_Things_tell 60 = (none, .getfield 18, []) := by decide +kernel
theorem r_Things_tell_63 : P_Things_tell 63 = (none, .iload_n 1, []) := by decide +kernel
theorem r_Things_tell_64 : P_Things_tell 64 = (none, .iaload, []) := by decide +kernel
theorem r_Things_tell_65 : P_Things_tell 65 = (none, .ireturn, []) := by decide +kernel
theorem r_Things_tell_66 : P_Things_tell 66 = (none, .aload_n 0, []) := by decide +kernel
theorem r_Things_tell_67 : P_Things_tell 67 = (none, .iload_n 1, []) := by decide +kernel
theorem r_Things_tell_68 : P_Things_tell 68 = (none, .invokevirtual 100, []) := by decide +kernel
theorem r_Things_tell_71 : P_Things_tell 71 = (none, .ireturn, []) := by decide +kernel
theorem r_Things_tell_72 : P_Things_tell 72 = (none, .aload_n 0, []) := by decide +kernel
theorem r_Things_tell_73 : P_Things_tell 73 = (none, .getfield 24, []) := by decide +kernel
theorem r_Things_tell_76 : P_Things_tell 76 = (none, .iload_n 1, []) := by decide +kernel
theorem r_Things_tell_77 : P_Things_tell 77 = (none, .iaload, []) := by decide +kernel
theorem r_Things_tell_78 : P_Things_tell 78 = (none, .ireturn, []) := by decide +kernel
theorem r_Things_tell_79 : P_Things_tell 79 = (none, .aload_n 0, []) := by decide +kernel
theorem r_Things_tell_80 : P_Things_tell 80 = (none, .getfield 21, []) := by decide +kernel
theorem r_Things_tell_83 : P_Things_tell 83 = (none, .iload_n 1, []) := by decide +kernel
theorem r_Things_tell_84 : P_Things_tell 84 = (none, .iaload, []) := by decide +kernel
theorem r_Things_tell_85 : P_Things_tell 85 = (none, .ireturn, []) := by decide +kernel
theorem r_Things_tell_86 : P_Things_tell 86 = (none, .aload_n 0, []) := by decide +kernel
theorem r_Things_tell_87 : P_Things_tell 87 = (none, .iload_n 1, []) := by decide +kernel
theorem r_Things_tell_88 : P_Things_tell 88 = (none, .invokevirtual 103, []) := by decide +kernel
theorem r_Things_tell_91 : P_Things_tell 91 = (none, .ireturn, []) := by decide +kernel
theorem r_Things_tell_92 : P_Things_tell 92 = (none, .aload_n 0, []) := by decide +kernel
theorem r_Things_tell_93 : P_Things_tell 93 = (none, .getfield 27, []) := by decide +kernel
theorem r_Things_tell_96 : P_Things_tell 96 = (none, .iload_n 1, []) := by decide +kernel
theorem r_Things_tell_97 : P_Things_tell 97 = (none, .iaload, []) := by decide +kernel
theorem r_Things_tell_98 : P_Things_tell 98 = (none, .ireturn, []) := by decide +kernel
theorem r_Things_tell_99 : P_Things_tell 99 = (none, .iconst (-1), []) := by decide +kernel
theorem r_Things_tell_100 : P_Things_tell 100 = (none, .ireturn, []) := by decide +kernel
def E_Things_tell : List (Nat × Ent) := [(400, (2, 1, 0, 0, T_Things_valueCount)), (412, (2, 1, 0, 0, T_Things_refCount)), (360, (2, 0, 0, 0, T_Things_has))]
def X_Things_tell : Cx := (llk (0, 0, 9) ftX7, llk 99 ntX7, llk none kcX7, llk none klX7, llk dEnt E_Things_tell, 2, 0, false)
theorem xok_Things_tell : Xok RX7 X_Things_tell := xok_of ftX7_ok ntX7_ok kcX7_ok klX7_ok (E := E_Things_tell) (List.forall_mem_cons.mpr ⟨co_X7_400, List.forall_mem_cons.mpr ⟨co_X7_412, List.forall_mem_cons.mpr ⟨co_X7_360, fun _ h => absurd h List.not_mem_nil⟩⟩⟩)
theorem xf_Things_tell_15 : xfl X_Things_tell 15 = (7, 1, 1) := by decide +kernel
theorem xf_Things_tell_18 : xfl X_Things_tell 18 = (7, 2, 1) := by decide +kernel
theorem xf_Things_tell_21 : xfl X_Things_tell 21 = (7, 3, 1) := by decide +kernel
theorem xf_Things_tell_24 : xfl X_Things_tell 24 = (7, 4, 1) := by decide +kernel
theorem xf_Things_tell_27 : xfl X_Things_tell 27 = (7, 5, 1) := by decide +kernel
theorem xe_Things_tell_400 : xE X_Things_tell (4 * 100 + 0) = (2, 1, 0, 0, T_Things_valueCount) := rfl
theorem xe_Things_tell_412 : xE X_Things_tell (4 * 103 + 0) = (2, 1, 0, 0, T_Things_refCount) := rfl
theorem xe_Things_tell_360 : xE X_Things_tell (4 * 90 + 0) = (2, 0, 0, 0, T_Things_has) := rfl
theorem xd_Things_tell : xd X_Things_tell = 2 := rfl
theorem xrb_Things_tell : xrb X_Things_tell = 0 := rfl
theorem xin_Things_tell : xin X_Things_tell = false := rfl
set_option maxHeartbeats 4000000 in
set_option maxRecDepth 100000 in
theorem S_Things_tell : Snd yX7_tell cX7_tell 3 (some .int) T_Things_tell 2 0 0 := by
  refine snd_of (X := X_Things_tell) (P := P_Things_tell) (tb := tb_Things_tell) (own := RX7) (by decide) rfl rfl (by decide +kernel) xok_Things_tell rfl rk0 (fun h => by first | rfl | cases h) ?_
  intro as M k has hM hT0
  obtain ⟨sz, sl, lay, ρ, σ, τ⟩ := M
  obtain ⟨o, as1, e, hlo, hT1⟩ := mkT_r hT0
  clear hT0
  subst e
  obtain ⟨i, as2, e, hT2⟩ := pI_x hT1
  clear hT1
  subst e
  obtain ⟨w, as3, e, hT3⟩ := pI_x hT2
  clear hT2
  subst e
  obtain ⟨e, hT⟩ := hT3
  subst e
  replace hlo : lay o = (17, 0) := hlo
  have r_i : -2147483648 ≤ i ∧ i ≤ 2147483647 := has (vI i) (by simp)
  have r_w : -2147483648 ≤ w ∧ w ≤ 2147483647 := has (vI w) (by simp)
  clear has
  replace hM : ∀ a i, -2147483648 ≤ σ a i ∧ σ a i ≤ 2147483647 := hM
  replace hT : TF_Things_tell o i w sz sl lay ρ σ τ k := hT
  unfold TF_Things_tell at hT
  obtain ⟨hL, hn, hv, hr, g0, g1, g2, g3, g4, g5, g6, h0⟩ := hT
  obtain ⟨lh, lp0, lp1, lp2, lp3, lp4, lp5, lp6, lp7, lp8, lp9, lp10, lp11, lq0, lq1, lq2, lq3, lq4, lq5, lq6, lq7, lq8, lq9, lq10, lq11⟩ := (show LThings lay ρ _ from hL)
  refine ⟨Nat.le_of_ble_eq_true rfl, fun _ _ _ => False, fun _ _ _ => 0, 51, ?_, fun _ _ _ _ _ _ h => h.elim⟩
  unfold wps
  simp only [si_iload_n0, si_iload_n1, si_iload_n2, si_iload_n3, si_iload, si_lload_n0, si_lload_n1, si_lload_n2, si_lload_n3, si_lload, si_aload_n0, si_aload_n1, si_aload_n2, si_aload_n3, si_aload, si_istore_n0, si_istore_n1, si_istore_n2, si_istore_n3, si_istore, si_astore_n0, si_astore_n1, si_astore_n2, si_astore_n3, si_astore, si_lstore_n0, si_lstore_n1, si_lstore_n2, si_lstore_n3, si_lstore, si_iconst, si_bipush, si_sipush, si_ldc, si_ldc2_w, si_lconst0, si_lconst1, si_aconst_null, si_iinc, si_dup, si_dup2, si_iadd, si_isub, si_imul, si_idiv, si_irem, si_iand, si_ior, si_ishl, si_ishr, si_ladd, si_lmul, si_lor, si_lxor, si_lshl, si_lushr, si_lcmp, si_i2b, si_i2l, si_l2i, si_icmp_eq, si_icmp_ne, si_icmp_lt, si_icmp_ge, si_icmp_gt, si_icmp_le, si_if_eq, si_if_ne, si_if_lt, si_if_ge, si_if_gt, si_if_le, si_ifnull, si_ifnonnull, si_goto, si_tableswitch, si_lookupswitch, si_getfield, si_putfield, si_getstatic, si_iaload, si_baload, si_laload, si_aaload, si_iastore, si_bastore, si_lastore, si_aastore, si_arraylength, si_new, si_newarray, si_anewarray, si_invokevirtual, si_invokespecial, si_invokestatic, si_ireturn, si_lreturn, si_areturn, si_return_, pI_e, pL_e, pR_e, pA_r, pA_n, pN_n, pN_r, oI_e, oL_e, oA_r, oA_n, lget_e, lrm1_0, lrm2_0, lrm1_i, lrm1_r, lrm1_n, lrm1_l, lrm2_i, lrm2_r, lrm2_n, lrm2_l, popN_0, popN_s, acat_i, acat_l, acat_r, acat_n, stw_0, stw_s, psh_s, psh_n, wgf_r, wgf_i, wgf_b, wgf_n, wgf_m, wpf_i, wpf_r, wpf_b, wnew_e, callE_e, rbk_0, rbk_1, tsw_0, tsw_s, lsw_0, lsw_s, wp_s, wq_t, wq_f, oV_e, pick_0, pick_s, oZ_e, oY_e, r_Things_tell_0, r_Things_tell_1, r_Things_tell_2, r_Things_tell_5, r_Things_tell_8, r_Things_tell_9, r_Things_tell_10, r_Things_tell_11, r_Things_tell_52, r_Things_tell_53, r_Things_tell_56, r_Things_tell_57, r_Things_tell_58, r_Things_tell_59, r_Things_tell_60, r_Things_tell_63, r_Things_tell_64, r_Things_tell_65, r_Things_tell_66, r_Things_tell_67, r_Things_tell_68, r_Things_tell_71, r_Things_tell_72, r_Things_tell_73, r_Things_tell_76, r_Things_tell_77, r_Things_tell_78, r_Things_tell_79, r_Things_tell_80, r_Things_tell_83, r_Things_tell_84, r_Things_tell_85, r_Things_tell_86, r_Things_tell_87, r_Things_tell_88, r_Things_tell_91, r_Things_tell_92, r_Things_tell_93, r_Things_tell_96, r_Things_tell_97, r_Things_tell_98, r_Things_tell_99, r_Things_tell_100, xf_Things_tell_15, xf_Things_tell_18, xf_Things_tell_21, xf_Things_tell_24, xf_Things_tell_27, xe_Things_tell_400, xe_Things_tell_412, xe_Things_tell_360, xd_Things_tell, xrb_Things_tell, xin_Things_tell, T_Things_valueCount_e, TF_Things_valueCount, T_Things_refCount_e, TF_Things_refCount, T_Things_has_e, TF_Things_has, lh, lp0, lp1, lp2, lp3, lp4, lp5, lp6, lp7, lp8, lp9, lp10, lp11, lq0, lq1, lq2, lq3, lq4, lq5, lq6, lq7, lq8, lq9, lq10, lq11, Nat.reduceAdd, Nat.reduceMul, Nat.reduceEqDiff, reduceIte, Int.reduceNeg, Int.reduceLE, Int.reduceLT, Int.reduceAdd, Int.reduceSub, Int.reduceToNat, true_and, and_true, inR_e, Nat.reduceLT, Nat.reduceLeDiff, reduceCtorEq, Nat.add_zero, Nat.zero_add, or_false, false_or, or_true, true_or, not_true_eq_false, not_false_eq_true, Classical.not_not, Nat.add_eq_zero_iff, and_false, false_and, Int.reduceEq, List.mem_cons, List.not_mem_nil, forall_eq_or_imp, forall_eq, false_implies, implies_true, forall_const, aargs_0, aargs_i, aargs_r, aargs_l, aargs_n, nfT_e, eq_self, and_self, Nat.le_refl, fu_s, fu_fu, iu_iu, iu_s, fu_am, fu_a0, fu_0a, iu_l, Nat.reduceBEq, Int.reduceBEq, T_objInit_e]
  repeat' (first | assumption | intro _ | apply And.intro)
  all_goals first | omega | assumption | (exact g0 (by omega)) | (exact g1 (by omega)) | (exact g2 (by omega)) | (exact g3 (by omega)) | (exact g4 (by omega)) | (exact g5 (by omega)) | (exact g6 (by omega)) | (exact h0 (by omega)) | (exact g0 ⟨by omega, by omega⟩) | (exact g1 ⟨by omega, by omega⟩) | (exact g2 ⟨by omega, by omega⟩) | (exact g3 ⟨by omega, by omega⟩) | (exact g4 ⟨by omega, by omega⟩) | (exact g5 ⟨by omega, by omega⟩) | (exact g6 ⟨by omega, by omega⟩) | (exact h0 ⟨by omega, by omega⟩) | (exact g0 ⟨by omega, by omega, by omega⟩) | (exact g1 ⟨by omega, by omega, by omega⟩) | (exact g2 ⟨by omega, by omega, by omega⟩) | (exact g3 ⟨by omega, by omega, by omega⟩) | (exact g4 ⟨by omega, by omega, by omega⟩) | (exact g5 ⟨by omega, by omega, by omega⟩) | (exact g6 ⟨by omega, by omega, by omega⟩) | (exact h0 ⟨by omega, by omega, by omega⟩)
def TF_Things_sameSort (o : Nat) (i : Int) (b : Nat) (j : Int) (sz sl : Nat) (lay : Nat → Nat × Int) (ρ : Nat → Int → Nat) (σ : Nat → Int → Int) (τ : Nat → Int → Int64) (k : Option AV → Mm → Prop) : Prop := LThings lay ρ o ∧ (0 ≤ σ o 12 ∧ σ o 12 ≤ 600) ∧ LThings lay ρ b ∧ (0 ≤ σ b 12 ∧ σ b 12 ≤ 600) ∧ (0 ≤ i ∧ i < σ o 12 ∧ 0 ≤ j ∧ j < σ b 12 ∧ σ (o + 2) i = σ (b + 2) j ∧ σ (o + 3) i = σ (b + 3) j → k (some (vI (1))) (sz, sl, lay, ρ, σ, τ)) ∧ (¬ (0 ≤ i ∧ i < σ o 12 ∧ 0 ≤ j ∧ j < σ b 12 ∧ σ (o + 2) i = σ (b + 2) j ∧ σ (o + 3) i = σ (b + 3) j) → k (some (vI (0))) (sz, sl, lay, ρ, σ, τ))
def T_Things_sameSort : Tr := mkT 7 fun o as M k => pI as fun i as => pR as fun b as => pI as fun j as => as = [] ∧ TF_Things_sameSort o i b j M.1 M.2.1 M.2.2.1 M.2.2.2.1 M.2.2.2.2.1 M.2.2.2.2.2 k
theorem T_Things_sameSort_e {o : Nat} {i : Int} {b : Nat} {j : Int} {sz sl : Nat} {lay : Nat → Nat × Int} {ρ : Nat → Int → Nat} {σ : Nat → Int → Int} {τ : Nat → Int → Int64} {k : Option AV → Mm → Prop} : T_Things_sameSort [vR o, vI i, vR b, vI j] (sz, sl, lay, ρ, σ, τ) k = (lay o = (17, 0) ∧ TF_Things_sameSort o i b j sz sl lay ρ σ τ k) := by simp [T_Things_sameSort, mkT_e, pI_e, pR_e, pL_e]
theorem T_Things_sameSort_r (as : List AV) (M : Mm) (k : Option AV → Mm → Prop) (h : T_Things_sameSort as M k) : ∃ b As, as = vR b :: As ∧ M.2.2.1 b = (10 + 7, 0) := by
  obtain ⟨b, As, h1, h2, -⟩ := mkT_r h
  exact ⟨b, As, h1, h2⟩
def tb_Things_sameSort : List (Nat × Option (List Nat) × Instr × List Nat) := [(0, none, .aload_n 0, []), (1, none, .iload_n 1, []), (2, none, .invokevirtual 90, []), (5, none, .ifCond .eq 45, [50]), (8, none, .aload_n 2, []), (9, none, .iload_n 3, []), (10, none, .invokevirtual 90, []), (13, none, .ifCond .eq 37, [50]), (16, none, .aload_n 0, []), (17, none, .getfield 15, []), (20, none, .iload_n 1, []), (21, none, .iaload, []), (22, none, .aload_n 2, []), (23, none, .getfield 15, []), (26, none, .iload_n 3, []), (27, none, .iaload, []), (28, none, .if_icmp .ne 22, [50]), (31, none, .aload_n 0, []), (32, none, .getfield 18, []), (35, none, .iload_n 1, []), (36, none, .iaload, []), (37, none, .aload_n 2, []), (38, none, .getfield 18, []), (41, none, .iload_n 3, []), (42, none, .iaload, []), (43, none, .if_icmp .ne 7, [50]), (46, none, .iconst 1, []), (47, none, .goto 4, [51]), (50, none, .iconst 0, []), (51, none, .ireturn, [])]
def P_Things_sameSort : Nat → Option (List Nat) × Instr × List Nat := plk tb_Things_sameSort
theorem r_Things_sameSort_0 : P_Things_sameSort 0 = (none, .aload_n 0, []) := by decide +kernel
theorem r_Things_sameSort_1 : P_Things_sameSort 1 = (none, .iload_n 1, []) := by decide +kernel
theorem r_Things_sameSort_2 : P_Things_sameSort 2 = (none, .invokevirtual 90, []) := by decide +kernel
theorem r_Things_sameSort_5 : P_Things_sameSort 5 = (none, .ifCond .eq 45, [50]) := by decide +kernel
theorem r_Things_sameSort_8 : P_Things_sameSort 8 = (none, .aload_n 2, []) := by decide +kernel
theorem r_Things_sameSort_9 : P_Things_sameSort 9 = (none, .iload_n 3, []) := by decide +kernel
theorem r_Things_sameSort_10 : P_Things_sameSort 10 = (none, .invokevirtual 90, []) := by decide +kernel
theorem r_Things_sameSort_13 : P_Things_sameSort 13 = (none, .ifCond .eq 37, [50]) := by decide +kernel
theorem r_Things_sameSort_16 : P_Things_sameSort 16 = (none, .aload_n 0, []) := by decide +kernel
theorem r_Things_sameSort_17 : P_Things_sameSort 17 = (none, .getfield 15, []) := by decide +kernel
theorem r_Things_sameSort_20 : P_Things_sameSort 20 = (none, .iload_n 1, []) := by decide +kernel
theorem r_Things_sameSort_21 : P_Things_sameSort 21 = (none, .iaload, []) := by decide +kernel
theorem r_Things_sameSort_22 : P_Things_sameSort 22 = (none, .aload_n 2, []) := by decide +kernel
theorem r_Things_sameSort_23 : P_Things_sameSort 23 = (none, .getfield 15, []) := by decide +kernel
theorem r_Things_sameSort_26 : P_Things_sameSort 26 = (none, .iload_n 3, []) := by decide +kernel
theorem r_Things_sameSort_27 : P_Things_sameSort 27 = (none, .iaload, []) := by decide +kernel
theorem r_Things_sameSort_28 : P_Things_sameSort 28 = (none, .if_icmp .ne 22, [50]) := by decide +kernel
theorem r_Things_sameSort_31 : P_Things_sameSort 31 = (none, .aload_n 0, []) := by decide +kernel
theorem r_Things_sameSort_32 : P_Things_sameSort 32 = (none, .getfield 18, []) := by decide +kernel
theorem r_Things_sameSort_35 : P_Things_sameSort 35 = (none, .iload_n 1, []) := by decide +kernel
theorem r_Things_sameSort_36 : P_Things_sameSort 36 = (none, .iaload, []) := by decide +kernel
theorem r_Things_sameSort_37 : P_Things_sameSort 37 = (none, .aload_n 2, []) := by decide +kernel
theorem r_Things_sameSort_38 : P_Things_sameSort 38 = (none, .getfield 18, []) := by decide +kernel
theorem r_Things_sameSort_41 : P_Things_sameSort 41 = (none, .iload_n 3, []) := by decide +kernel
theorem r_Things_sameSort_42 : P_Things_sameSort 42 = (none, .iaload, []) := by decide +kernel
theorem r_Things_sameSort_43 : P_Things_sameSort 43 = (none, .if_icmp .ne 7, [50]) := by decide +kernel
theorem r_Things_sameSort_46 : P_Things_sameSort 46 = (none, .iconst 1, []) := by decide +kernel
theorem r_Things_sameSort_47 : P_Things_sameSort 47 = (none, .goto 4, [51]) := by decide +kernel
theorem r_Things_sameSort_50 : P_Things_sameSort 50 = (none, .iconst 0, []) := by decide +kernel
theorem r_Things_sameSort_51 : P_Things_sameSort 51 = (none, .ireturn, []) := by decide +kernel
def E_Things_sameSort : List (Nat × Ent) := [(360, (2, 0, 0, 0, T_Things_has))]
def X_Things_sameSort : Cx := (llk (0, 0, 9) ftX7, llk 99 ntX7, llk none kcX7, llk none klX7, llk dEnt E_Things_sameSort, 1, 1, false)
theorem xok_Things_sameSort : Xok RX7 X_Things_sameSort := xok_of ftX7_ok ntX7_ok kcX7_ok klX7_ok (E := E_Things_sameSort) (List.forall_mem_cons.mpr ⟨co_X7_360, fun _ h => absurd h List.not_mem_nil⟩)
theorem xf_Things_sameSort_15 : xfl X_Things_sameSort 15 = (7, 1, 1) := by decide +kernel
theorem xf_Things_sameSort_18 : xfl X_Things_sameSort 18 = (7, 2, 1) := by decide +kernel
theorem xe_Things_sameSort_360 : xE X_Things_sameSort (4 * 90 + 0) = (2, 0, 0, 0, T_Things_has) := rfl
theorem xd_Things_sameSort : xd X_Things_sameSort = 1 := rfl
theorem xrb_Things_sameSort : xrb X_Things_sameSort = 1 := rfl
theorem xin_Things_sameSort : xin X_Things_sameSort = false := rfl
set_option maxHeartbeats 4000000 in
set_option maxRecDepth 100000 in
theorem S_Things_sameSort : Snd yX7_sameSort cX7_sameSort 4 (some .boolean) T_Things_sameSort 1 0 0 := by
  refine snd_of (X := X_Things_sameSort) (P := P_Things_sameSort) (tb := tb_Things_sameSort) (own := RX7) (by decide) rfl rfl (by decide +kernel) xok_Things_sameSort rfl rk1 (fun h => by first | rfl | cases h) ?_
  intro as M k has hM hT0
  obtain ⟨sz, sl, lay, ρ, σ, τ⟩ := M
  obtain ⟨o, as1, e, hlo, hT1⟩ := mkT_r hT0
  clear hT0
  subst e
  obtain ⟨i, as2, e, hT2⟩ := pI_x hT1
  clear hT1
  subst e
  obtain ⟨b, as3, e, hT3⟩ := pR_x hT2
  clear hT2
  subst e
  obtain ⟨j, as4, e, hT4⟩ := pI_x hT3
  clear hT3
  subst e
  obtain ⟨e, hT⟩ := hT4
  subst e
  replace hlo : lay o = (17, 0) := hlo
  have r_i : -2147483648 ≤ i ∧ i ≤ 2147483647 := has (vI i) (by simp)
  have r_j : -2147483648 ≤ j ∧ j ≤ 2147483647 := has (vI j) (by simp)
  clear has
  replace hM : ∀ a i, -2147483648 ≤ σ a i ∧ σ a i ≤ 2147483647 := hM
  replace hT : TF_Things_sameSort o i b j sz sl lay ρ σ τ k := hT
  unfold TF_Things_sameSort at hT
  obtain ⟨hL, hn, hL2, hn2, h1, h0⟩ := hT
  obtain ⟨lh, lp0, lp1, lp2, lp3, lp4, lp5, lp6, lp7, lp8, lp9, lp10, lp11, lq0, lq1, lq2, lq3, lq4, lq5, lq6, lq7, lq8, lq9, lq10, lq11⟩ := (show LThings lay ρ _ from hL)
  obtain ⟨mh, mp0, mp1, mp2, mp3, mp4, mp5, mp6, mp7, mp8, mp9, mp10, mp11, mq0, mq1, mq2, mq3, mq4, mq5, mq6, mq7, mq8, mq9, mq10, mq11⟩ := (show LThings lay ρ _ from hL2)
  refine ⟨Nat.le_of_ble_eq_true rfl, fun _ _ _ => False, fun _ _ _ => 0, 38, ?_, fun _ _ _ _ _ _ h => h.elim⟩
  unfold wps
  simp only [si_iload_n0, si_iload_n1, si_iload_n2, si_iload_n3, si_iload, si_lload_n0, si_lload_n1, si_lload_n2, si_lload_n3, si_lload, si_aload_n0, si_aload_n1, si_aload_n2, si_aload_n3, si_aload, si_istore_n0, si_istore_n1, si_istore_n2, si_istore_n3, si_istore, si_astore_n0, si_astore_n1, si_astore_n2, si_astore_n3, si_astore, si_lstore_n0, si_lstore_n1, si_lstore_n2, si_lstore_n3, si_lstore, si_iconst, si_bipush, si_sipush, si_ldc, si_ldc2_w, si_lconst0, si_lconst1, si_aconst_null, si_iinc, si_dup, si_dup2, si_iadd, si_isub, si_imul, si_idiv, si_irem, si_iand, si_ior, si_ishl, si_ishr, si_ladd, si_lmul, si_lor, si_lxor, si_lshl, si_lushr, si_lcmp, si_i2b, si_i2l, si_l2i, si_icmp_eq, si_icmp_ne, si_icmp_lt, si_icmp_ge, si_icmp_gt, si_icmp_le, si_if_eq, si_if_ne, si_if_lt, si_if_ge, si_if_gt, si_if_le, si_ifnull, si_ifnonnull, si_goto, si_tableswitch, si_lookupswitch, si_getfield, si_putfield, si_getstatic, si_iaload, si_baload, si_laload, si_aaload, si_iastore, si_bastore, si_lastore, si_aastore, si_arraylength, si_new, si_newarray, si_anewarray, si_invokevirtual, si_invokespecial, si_invokestatic, si_ireturn, si_lreturn, si_areturn, si_return_, pI_e, pL_e, pR_e, pA_r, pA_n, pN_n, pN_r, oI_e, oL_e, oA_r, oA_n, lget_e, lrm1_0, lrm2_0, lrm1_i, lrm1_r, lrm1_n, lrm1_l, lrm2_i, lrm2_r, lrm2_n, lrm2_l, popN_0, popN_s, acat_i, acat_l, acat_r, acat_n, stw_0, stw_s, psh_s, psh_n, wgf_r, wgf_i, wgf_b, wgf_n, wgf_m, wpf_i, wpf_r, wpf_b, wnew_e, callE_e, rbk_0, rbk_1, tsw_0, tsw_s, lsw_0, lsw_s, wp_s, wq_t, wq_f, oV_e, pick_0, pick_s, oZ_e, oY_e, r_Things_sameSort_0, r_Things_sameSort_1, r_Things_sameSort_2, r_Things_sameSort_5, r_Things_sameSort_8, r_Things_sameSort_9, r_Things_sameSort_10, r_Things_sameSort_13, r_Things_sameSort_16, r_Things_sameSort_17, r_Things_sameSort_20, r_Things_sameSort_21, r_Things_sameSort_22, r_Things_sameSort_23, r_Things_sameSort_26, r_Things_sameSort_27, r_Things_sameSort_28, r_Things_sameSort_31, r_Things_sameSort_32, r_Things_sameSort_35, r_Things_sameSort_36, r_Things_sameSort_37, r_Things_sameSort_38, r_Things_sameSort_41, r_Things_sameSort_42, r_Things_sameSort_43, r_Things_sameSort_46, r_Things_sameSort_47, r_Things_sameSort_50, r_Things_sameSort_51, xf_Things_sameSort_15, xf_Things_sameSort_18, xe_Things_sameSort_360, xd_Things_sameSort, xrb_Things_sameSort, xin_Things_sameSort, T_Things_has_e, TF_Things_has, lh, lp0, lp1, lp2, lp3, lp4, lp5, lp6, lp7, lp8, lp9, lp10, lp11, lq0, lq1, lq2, lq3, lq4, lq5, lq6, lq7, lq8, lq9, lq10, lq11, mh, mp0, mp1, mp2, mp3, mp4, mp5, mp6, mp7, mp8, mp9, mp10, mp11, mq0, mq1, mq2, mq3, mq4, mq5, mq6, mq7, mq8, mq9, mq10, mq11, Nat.reduceAdd, Nat.reduceMul, Nat.reduceEqDiff, reduceIte, Int.reduceNeg, Int.reduceLE, Int.reduceLT, Int.reduceAdd, Int.reduceSub, Int.reduceToNat, true_and, and_true, inR_e, Nat.reduceLT, Nat.reduceLeDiff, reduceCtorEq, Nat.add_zero, Nat.zero_add, or_false, false_or, or_true, true_or, not_true_eq_false, not_false_eq_true, Classical.not_not, Nat.add_eq_zero_iff, and_false, false_and, Int.reduceEq, List.mem_cons, List.not_mem_nil, forall_eq_or_imp, forall_eq, false_implies, implies_true, forall_const, aargs_0, aargs_i, aargs_r, aargs_l, aargs_n, nfT_e, eq_self, and_self, Nat.le_refl, fu_s, fu_fu, iu_iu, iu_s, fu_am, fu_a0, fu_0a, iu_l, Nat.reduceBEq, Int.reduceBEq, T_objInit_e]
  repeat' (first | assumption | intro _ | apply And.intro)
  all_goals first | omega | assumption | (exact h1 (by omega)) | (exact h0 (by omega)) | (exact h1 ⟨by omega, by omega⟩) | (exact h0 ⟨by omega, by omega⟩) | (exact h1 ⟨by omega, by omega, by omega⟩) | (exact h0 ⟨by omega, by omega, by omega⟩)
def TF_Things_begin (o : Nat) (sz sl : Nat) (lay : Nat → Nat × Int) (ρ : Nat → Int → Nat) (σ : Nat → Int → Int) (τ : Nat → Int → Int64) (k : Option AV → Mm → Prop) : Prop := LThings lay ρ o ∧ (0 ≤ σ o 12 ∧ σ o 12 ≤ 600) ∧ k none (sz, sl, lay, ρ, fu σ o (iu (iu (iu (σ o) 15 (σ (o + 8) (σ o 12))) 16 (σ (o + 9) (σ o 12))) 17 0), τ)
def T_Things_begin : Tr := mkT 7 fun o as M k => as = [] ∧ TF_Things_begin o M.1 M.2.1 M.2.2.1 M.2.2.2.1 M.2.2.2.2.1 M.2.2.2.2.2 k
theorem T_Things_begin_e {o : Nat} {sz sl : Nat} {lay : Nat → Nat × Int} {ρ : Nat → Int → Nat} {σ : Nat → Int → Int} {τ : Nat → Int → Int64} {k : Option AV → Mm → Prop} : T_Things_begin [vR o] (sz, sl, lay, ρ, σ, τ) k = (lay o = (17, 0) ∧ TF_Things_begin o sz sl lay ρ σ τ k) := by simp [T_Things_begin, mkT_e, pI_e, pR_e, pL_e]
theorem T_Things_begin_r (as : List AV) (M : Mm) (k : Option AV → Mm → Prop) (h : T_Things_begin as M k) : ∃ b As, as = vR b :: As ∧ M.2.2.1 b = (10 + 7, 0) := by
  obtain ⟨b, As, h1, h2, -⟩ := mkT_r h
  exact ⟨b, As, h1, h2⟩
def tb_Things_begin : List (Nat × Option (List Nat) × Instr × List Nat) := [(0, none, .aload_n 0, []), (1, none, .aload_n 0, []), (2, none, .getfield 33, []), (5, none, .aload_n 0, []), (6, none, .getfield 49, []), (9, none, .iaload, []), (10, none, .putfield 59, []), (13, none, .aload_n 0, []), (14, none, .aload_n 0, []), (15, none, .getfield 36, []), (18, none, .aload_n 0, []), (19, none, .getfield 49, []), (22, none, .iaload, []), (23, none, .putfield 62, []), (26, none, .aload_n 0, []), (27, none, .iconst 0, []), (28, none, .putfield 65, []), (31, none, .return_, [])]
def P_Things_begin : Nat → Option (List Nat) × Instr × List Nat := plk tb_Things_begin
theorem r_Things_begin_0 : P_Things_begin 0 = (none, .aload_n 0, []) := by decide +kernel
theorem r_Things_begin_1 : P_Things_begin 1 = (none, .aload_n 0, []) := by decide +kernel
theorem r_Things_begin_2 : P_Things_begin 2 = (none, .getfield 33, []) := by decide +kernel
theorem r_Things_begin_5 : P_Things_begin 5 = (none, .aload_n 0, []) := by decide +kernel
theorem r_Things_begin_6 : P_Things_begin 6 = (none, .getfield 49, []) := by decide +kernel
theorem r_Things_begin_9 : P_Things_begin 9 = (none, .iaload, []) := by decide +kernel
theorem r_Things_begin_10 : P_Things_begin 10 = (none, .putfield 59, []) := by decide +kernel
theorem r_Things_begin_13 : P_Things_begin 13 = (none, .aload_n 0, []) := by decide +kernel
theorem r_Things_begin_14 : P_Things_begin 14 = (none, .aload_n 0, []) := by decide +kernel
theorem r_Things_begin_15 : P_Things_begin 15 = (none, .getfield 36, []) := by decide +kernel
theorem r_Things_begin_18 : P_Things_begin 18 = (none, .aload_n 0, []) := by decide +kernel
theorem r_Things_begin_19 : P_Things_begin 19 = (none, .getfield 49, []) := by decide +kernel
theorem r_Things_begin_22 : P_Things_begin 22 = (none, .iaload, []) := by decide +kernel
theorem r_Things_begin_23 : P_Things_begin 23 = (none, .putfield 62, []) := by decide +kernel
theorem r_Things_begin_26 : P_Things_begin 26 = (none, .aload_n 0, []) := by decide +kernel
theorem r_Things_begin_27 : P_Things_begin 27 = (none, .iconst 0, []) := by decide +kernel
theorem r_Things_begin_28 : P_Things_begin 28 = (none, .putfield 65, []) := by decide +kernel
theorem r_Things_begin_31 : P_Things_begin 31 = (none, .return_, []) := by decide +kernel
def E_Things_begin : List (Nat × Ent) := []
def X_Things_begin : Cx := (llk (0, 0, 9) ftX7, llk 99 ntX7, llk none kcX7, llk none klX7, llk dEnt E_Things_begin, 0, 3, false)
theorem xok_Things_begin : Xok RX7 X_Things_begin := xok_of ftX7_ok ntX7_ok kcX7_ok klX7_ok (E := E_Things_begin) (fun _ h => absurd h List.not_mem_nil)
theorem xf_Things_begin_33 : xfl X_Things_begin 33 = (7, 7, 1) := by decide +kernel
theorem xf_Things_begin_36 : xfl X_Things_begin 36 = (7, 8, 1) := by decide +kernel
theorem xf_Things_begin_49 : xfl X_Things_begin 49 = (7, 12, 0) := by decide +kernel
theorem xf_Things_begin_59 : xfl X_Things_begin 59 = (7, 15, 0) := by decide +kernel
theorem xf_Things_begin_62 : xfl X_Things_begin 62 = (7, 16, 0) := by decide +kernel
theorem xf_Things_begin_65 : xfl X_Things_begin 65 = (7, 17, 2) := by decide +kernel
theorem xd_Things_begin : xd X_Things_begin = 0 := rfl
theorem xrb_Things_begin : xrb X_Things_begin = 3 := rfl
theorem xin_Things_begin : xin X_Things_begin = false := rfl
set_option maxHeartbeats 4000000 in
set_option maxRecDepth 100000 in
theorem S_Things_begin : Snd yX7_begin cX7_begin 1 none T_Things_begin 0 0 0 := by
  refine snd_of (X := X_Things_begin) (P := P_Things_begin) (tb := tb_Things_begin) (own := RX7) (by decide) rfl rfl (by decide +kernel) xok_Things_begin rfl rk3 (fun h => by first | rfl | cases h) ?_
  intro as M k has hM hT0
  obtain ⟨sz, sl, lay, ρ, σ, τ⟩ := M
  obtain ⟨o, as1, e, hlo, hT1⟩ := mkT_r hT0
  clear hT0
  subst e
  obtain ⟨e, hT⟩ := hT1
  subst e
  replace hlo : lay o = (17, 0) := hlo
  clear has
  replace hM : ∀ a i, -2147483648 ≤ σ a i ∧ σ a i ≤ 2147483647 := hM
  replace hT : TF_Things_begin o sz sl lay ρ σ τ k := hT
  unfold TF_Things_begin at hT
  obtain ⟨hL, hn, hT⟩ := hT
  obtain ⟨lh, lp0, lp1, lp2, lp3, lp4, lp5, lp6, lp7, lp8, lp9, lp10, lp11, lq0, lq1, lq2, lq3, lq4, lq5, lq6, lq7, lq8, lq9, lq10, lq11⟩ := (show LThings lay ρ _ from hL)
  refine ⟨Nat.le_of_ble_eq_true rfl, fun _ _ _ => False, fun _ _ _ => 0, 26, ?_, fun _ _ _ _ _ _ h => h.elim⟩
  unfold wps
  simp only [si_iload_n0, si_iload_n1, si_iload_n2, si_iload_n3, si_iload, si_lload_n0, si_lload_n1, si_lload_n2, si_lload_n3, si_lload, si_aload_n0, si_aload_n1, si_aload_n2, si_aload_n3, si_aload, si_istore_n0, si_istore_n1, si_istore_n2, si_istore_n3, si_istore, si_astore_n0, si_astore_n1, si_astore_n2, si_astore_n3, si_astore, si_lstore_n0, si_lstore_n1, si_lstore_n2, si_lstore_n3, si_lstore, si_iconst, si_bipush, si_sipush, si_ldc, si_ldc2_w, si_lconst0, si_lconst1, si_aconst_null, si_iinc, si_dup, si_dup2, si_iadd, si_isub, si_imul, si_idiv, si_irem, si_iand, si_ior, si_ishl, si_ishr, si_ladd, si_lmul, si_lor, si_lxor, si_lshl, si_lushr, si_lcmp, si_i2b, si_i2l, si_l2i, si_icmp_eq, si_icmp_ne, si_icmp_lt, si_icmp_ge, si_icmp_gt, si_icmp_le, si_if_eq, si_if_ne, si_if_lt, si_if_ge, si_if_gt, si_if_le, si_ifnull, si_ifnonnull, si_goto, si_tableswitch, si_lookupswitch, si_getfield, si_putfield, si_getstatic, si_iaload, si_baload, si_laload, si_aaload, si_iastore, si_bastore, si_lastore, si_aastore, si_arraylength, si_new, si_newarray, si_anewarray, si_invokevirtual, si_invokespecial, si_invokestatic, si_ireturn, si_lreturn, si_areturn, si_return_, pI_e, pL_e, pR_e, pA_r, pA_n, pN_n, pN_r, oI_e, oL_e, oA_r, oA_n, lget_e, lrm1_0, lrm2_0, lrm1_i, lrm1_r, lrm1_n, lrm1_l, lrm2_i, lrm2_r, lrm2_n, lrm2_l, popN_0, popN_s, acat_i, acat_l, acat_r, acat_n, stw_0, stw_s, psh_s, psh_n, wgf_r, wgf_i, wgf_b, wgf_n, wgf_m, wpf_i, wpf_r, wpf_b, wnew_e, callE_e, rbk_0, rbk_1, tsw_0, tsw_s, lsw_0, lsw_s, wp_s, wq_t, wq_f, oV_e, pick_0, pick_s, oZ_e, oY_e, r_Things_begin_0, r_Things_begin_1, r_Things_begin_2, r_Things_begin_5, r_Things_begin_6, r_Things_begin_9, r_Things_begin_10, r_Things_begin_13, r_Things_begin_14, r_Things_begin_15, r_Things_begin_18, r_Things_begin_19, r_Things_begin_22, r_Things_begin_23, r_Things_begin_26, r_Things_begin_27, r_Things_begin_28, r_Things_begin_31, xf_Things_begin_33, xf_Things_begin_36, xf_Things_begin_49, xf_Things_begin_59, xf_Things_begin_62, xf_Things_begin_65, xd_Things_begin, xrb_Things_begin, xin_Things_begin, lh, lp0, lp1, lp2, lp3, lp4, lp5, lp6, lp7, lp8, lp9, lp10, lp11, lq0, lq1, lq2, lq3, lq4, lq5, lq6, lq7, lq8, lq9, lq10, lq11, Nat.reduceAdd, Nat.reduceMul, Nat.reduceEqDiff, reduceIte, Int.reduceNeg, Int.reduceLE, Int.reduceLT, Int.reduceAdd, Int.reduceSub, Int.reduceToNat, true_and, and_true, inR_e, Nat.reduceLT, Nat.reduceLeDiff, reduceCtorEq, Nat.add_zero, Nat.zero_add, or_false, false_or, or_true, true_or, not_true_eq_false, not_false_eq_true, Classical.not_not, Nat.add_eq_zero_iff, and_false, false_and, Int.reduceEq, List.mem_cons, List.not_mem_nil, forall_eq_or_imp, forall_eq, false_implies, implies_true, forall_const, aargs_0, aargs_i, aargs_r, aargs_l, aargs_n, nfT_e, eq_self, and_self, Nat.le_refl, fu_s, fu_fu, iu_iu, iu_s, fu_am, fu_a0, fu_0a, iu_l, Nat.reduceBEq, Int.reduceBEq, T_objInit_e]
  repeat' (first | assumption | intro _ | apply And.intro)
  all_goals first | omega | assumption
def TF_Things_clear (o : Nat) (sz sl : Nat) (lay : Nat → Nat × Int) (ρ : Nat → Int → Nat) (σ : Nat → Int → Int) (τ : Nat → Int → Int64) (k : Option AV → Mm → Prop) : Prop := LThings lay ρ o ∧ k none (sz, sl, lay, ρ, fu (fu (fu σ o (iu (iu (iu (σ o) 12 0) 13 0) 14 0)) (o + 8) (iu (σ (o + 8)) 0 0)) (o + 9) (iu (σ (o + 9)) 0 0), τ)
def T_Things_clear : Tr := mkT 7 fun o as M k => as = [] ∧ TF_Things_clear o M.1 M.2.1 M.2.2.1 M.2.2.2.1 M.2.2.2.2.1 M.2.2.2.2.2 k
theorem T_Things_clear_e {o : Nat} {sz sl : Nat} {lay : Nat → Nat × Int} {ρ : Nat → Int → Nat} {σ : Nat → Int → Int} {τ : Nat → Int → Int64} {k : Option AV → Mm → Prop} : T_Things_clear [vR o] (sz, sl, lay, ρ, σ, τ) k = (lay o = (17, 0) ∧ TF_Things_clear o sz sl lay ρ σ τ k) := by simp [T_Things_clear, mkT_e, pI_e, pR_e, pL_e]
theorem T_Things_clear_r (as : List AV) (M : Mm) (k : Option AV → Mm → Prop) (h : T_Things_clear as M k) : ∃ b As, as = vR b :: As ∧ M.2.2.1 b = (10 + 7, 0) := by
  obtain ⟨b, As, h1, h2, -⟩ := mkT_r h
  exact ⟨b, As, h1, h2⟩
def tb_Things_clear : List (Nat × Option (List Nat) × Instr × List Nat) := [(0, none, .aload_n 0, []), (1, none, .iconst 0, []), (2, none, .putfield 49, []), (5, none, .aload_n 0, []), (6, none, .iconst 0, []), (7, none, .putfield 53, []), (10, none, .aload_n 0, []), (11, none, .iconst 0, []), (12, none, .putfield 56, []), (15, none, .aload_n 0, []), (16, none, .getfield 33, []), (19, none, .iconst 0, []), (20, none, .iconst 0, []), (21, none, .iastore, []), (22, none, .aload_n 0, []), (23, none, .getfield 36, []), (26, none, .iconst 0, []), (27, none, .iconst 0, []), (28, none, .iastore, []), (29, none, .return_, [])]
def P_Things_clear : Nat → Option (List Nat) × Instr × List Nat := plk tb_Things_clear
theorem r_Things_clear_0 : P_Things_clear 0 = (none, .aload_n 0, []) := by decide +kernel
theorem r_Things_clear_1 : P_Things_clear 1 = (none, .iconst 0, []) := by decide +kernel
theorem r_Things_clear_2 : P_Things_clear 2 = (none, .putfield 49, []) := by decide +kernel
theorem r_Things_clear_5 : P_Things_clear 5 = (none, .aload_n 0, []) := by decide +kernel
theorem r_Things_clear_6 : P_Things_clear 6 = (none, .iconst 0, []) := by decide +kernel
theorem r_Things_clear_7 : P_Things_clear 7 = (none, .putfield 53, []) := by decide +kernel
theorem r_Things_clear_10 : P_Things_clear 10 = (none, .aload_n 0, []) := by decide +kernel
theorem r_Things_clear_11 : P_Things_clear 11 = (none, .iconst 0, []) := by decide +kernel
theorem r_Things_clear_12 : P_Things_clear 12 = (none, .putfield 56, []) := by decide +kernel
theorem r_Things_clear_15 : P_Things_clear 15 = (none, .aload_n 0, []) := by decide +kernel
theorem r_Things_clear_16 : P_Things_clear 16 = (none, .getfield 33, []) := by decide +kernel
theorem r_Things_clear_19 : P_Things_clear 19 = (none, .iconst 0, []) := by decide +kernel
theorem r_Things_clear_20 : P_Things_clear 20 = (none, .iconst 0, []) := by decide +kernel
theorem r_Things_clear_21 : P_Things_clear 21 = (none, .iastore, []) := by decide +kernel
theorem r_Things_clear_22 : P_Things_clear 22 = (none, .aload_n 0, []) := by decide +kernel
theorem r_Things_clear_23 : P_Things_clear 23 = (none, .getfield 36, []) := by decide +kernel
theorem r_Things_clear_26 : P_Things_clear 26 = (none, .iconst 0, []) := by decide +kernel
theorem r_Things_clear_27 : P_Things_clear 27 = (none, .iconst 0, []) := by decide +kernel
theorem r_Things_clear_28 : P_Things_clear 28 = (none, .iastore, []) := by decide +kernel
theorem r_Things_clear_29 : P_Things_clear 29 = (none, .return_, []) := by decide +kernel
def E_Things_clear : List (Nat × Ent) := []
def X_Things_clear : Cx := (llk (0, 0, 9) ftX7, llk 99 ntX7, llk none kcX7, llk none klX7, llk dEnt E_Things_clear, 0, 3, false)
theorem xok_Things_clear : Xok RX7 X_Things_clear := xok_of ftX7_ok ntX7_ok kcX7_ok klX7_ok (E := E_Things_clear) (fun _ h => absurd h List.not_mem_nil)
theorem xf_Things_clear_33 : xfl X_Things_clear 33 = (7, 7, 1) := by decide +kernel
theorem xf_Things_clear_36 : xfl X_Things_clear 36 = (7, 8, 1) := by decide +kernel
theorem xf_Things_clear_49 : xfl X_Things_clear 49 = (7, 12, 0) := by decide +kernel
theorem xf_Things_clear_53 : xfl X_Things_clear 53 = (7, 13, 0) := by decide +kernel
theorem xf_Things_clear_56 : xfl X_Things_clear 56 = (7, 14, 0) := by decide +kernel
theorem xd_Things_clear : xd X_Things_clear = 0 := rfl
theorem xrb_Things_clear : xrb X_Things_clear = 3 := rfl
theorem xin_Things_clear : xin X_Things_clear = false := rfl
set_option maxHeartbeats 4000000 in
set_option maxRecDepth 100000 in
theorem S_Things_clear : Snd yX7_clear cX7_clear 1 none T_Things_clear 0 0 0 := by
  refine snd_of (X := X_Things_clear) (P := P_Things_clear) (tb := tb_Things_clear) (own := RX7) (by decide) rfl rfl (by decide +kernel) xok_Things_clear rfl rk3 (fun h => by first | rfl | cases h) ?_
  intro as M k has hM hT0
  obtain ⟨sz, sl, lay, ρ, σ, τ⟩ := M
  obtain ⟨o, as1, e, hlo, hT1⟩ := mkT_r hT0
  clear hT0
  subst e
  obtain ⟨e, hT⟩ := hT1
  subst e
  replace hlo : lay o = (17, 0) := hlo
  clear has
  replace hM : ∀ a i, -2147483648 ≤ σ a i ∧ σ a i ≤ 2147483647 := hM
  replace hT : TF_Things_clear o sz sl lay ρ σ τ k := hT
  unfold TF_Things_clear at hT
  obtain ⟨hL, hT⟩ := hT
  obtain ⟨lh, lp0, lp1, lp2, lp3, lp4, lp5, lp6, lp7, lp8, lp9, lp10, lp11, lq0, lq1, lq2, lq3, lq4, lq5, lq6, lq7, lq8, lq9, lq10, lq11⟩ := (show LThings lay ρ _ from hL)
  refine ⟨Nat.le_of_ble_eq_true rfl, fun _ _ _ => False, fun _ _ _ => 0, 28, ?_, fun _ _ _ _ _ _ h => h.elim⟩
  unfold wps
  simp only [si_iload_n0, si_iload_n1, si_iload_n2, si_iload_n3, si_iload, si_lload_n0, si_lload_n1, si_lload_n2, si_lload_n3, si_lload, si_aload_n0, si_aload_n1, si_aload_n2, si_aload_n3, si_aload, si_istore_n0, si_istore_n1, si_istore_n2, si_istore_n3, si_istore, si_astore_n0, si_astore_n1, si_astore_n2, si_astore_n3, si_astore, si_lstore_n0, si_lstore_n1, si_lstore_n2, si_lstore_n3, si_lstore, si_iconst, si_bipush, si_sipush, si_ldc, si_ldc2_w, si_lconst0, si_lconst1, si_aconst_null, si_iinc, si_dup, si_dup2, si_iadd, si_isub, si_imul, si_idiv, si_irem, si_iand, si_ior, si_ishl, si_ishr, si_ladd, si_lmul, si_lor, si_lxor, si_lshl, si_lushr, si_lcmp, si_i2b, si_i2l, si_l2i, si_icmp_eq, si_icmp_ne, si_icmp_lt, si_icmp_ge, si_icmp_gt, si_icmp_le, si_if_eq, si_if_ne, si_if_lt, si_if_ge, si_if_gt, si_if_le, si_ifnull, si_ifnonnull, si_goto, si_tableswitch, si_lookupswitch, si_getfield, si_putfield, si_getstatic, si_iaload, si_baload, si_laload, si_aaload, si_iastore, si_bastore, si_lastore, si_aastore, si_arraylength, si_new, si_newarray, si_anewarray, si_invokevirtual, si_invokespecial, si_invokestatic, si_ireturn, si_lreturn, si_areturn, si_return_, pI_e, pL_e, pR_e, pA_r, pA_n, pN_n, pN_r, oI_e, oL_e, oA_r, oA_n, lget_e, lrm1_0, lrm2_0, lrm1_i, lrm1_r, lrm1_n, lrm1_l, lrm2_i, lrm2_r, lrm2_n, lrm2_l, popN_0, popN_s, acat_i, acat_l, acat_r, acat_n, stw_0, stw_s, psh_s, psh_n, wgf_r, wgf_i, wgf_b, wgf_n, wgf_m, wpf_i, wpf_r, wpf_b, wnew_e, callE_e, rbk_0, rbk_1, tsw_0, tsw_s, lsw_0, lsw_s, wp_s, wq_t, wq_f, oV_e, pick_0, pick_s, oZ_e, oY_e, r_Things_clear_0, r_Things_clear_1, r_Things_clear_2, r_Things_clear_5, r_Things_clear_6, r_Things_clear_7, r_Things_clear_10, r_Things_clear_11, r_Things_clear_12, r_Things_clear_15, r_Things_clear_16, r_Things_clear_19, r_Things_clear_20, r_Things_clear_21, r_Things_clear_22, r_Things_clear_23, r_Things_clear_26, r_Things_clear_27, r_Things_clear_28, r_Things_clear_29, xf_Things_clear_33, xf_Things_clear_36, xf_Things_clear_49, xf_Things_clear_53, xf_Things_clear_56, xd_Things_clear, xrb_Things_clear, xin_Things_clear, lh, lp0, lp1, lp2, lp3, lp4, lp5, lp6, lp7, lp8, lp9, lp10, lp11, lq0, lq1, lq2, lq3, lq4, lq5, lq6, lq7, lq8, lq9, lq10, lq11, Nat.reduceAdd, Nat.reduceMul, Nat.reduceEqDiff, reduceIte, Int.reduceNeg, Int.reduceLE, Int.reduceLT, Int.reduceAdd, Int.reduceSub, Int.reduceToNat, true_and, and_true, inR_e, Nat.reduceLT, Nat.reduceLeDiff, reduceCtorEq, Nat.add_zero, Nat.zero_add, or_false, false_or, or_true, true_or, not_true_eq_false, not_false_eq_true, Classical.not_not, Nat.add_eq_zero_iff, and_false, false_and, Int.reduceEq, List.mem_cons, List.not_mem_nil, forall_eq_or_imp, forall_eq, false_implies, implies_true, forall_const, aargs_0, aargs_i, aargs_r, aargs_l, aargs_n, nfT_e, eq_self, and_self, Nat.le_refl, fu_s, fu_fu, iu_iu, iu_s, fu_am, fu_a0, fu_0a, iu_l, Nat.reduceBEq, Int.reduceBEq, T_objInit_e]
  repeat' (first | assumption | intro _ | apply And.intro)
  all_goals first | omega | assumption
def TF_Things_addValue (o : Nat) (s : Int) (v : Int64) (sz sl : Nat) (lay : Nat → Nat × Int) (ρ : Nat → Int → Nat) (σ : Nat → Int → Int) (τ : Nat → Int → Int64) (k : Option AV → Mm → Prop) : Prop := LThings lay ρ o ∧ (0 ≤ σ o 15 ∧ σ o 15 < 8000) ∧ (0 ≤ σ o 16 ∧ (s = 5 → σ o 16 < 4000)) ∧ (s = 4 ∧ (v < 0 ∨ 1 < v) → k none (sz, sl, lay, ρ, fu σ o (iu (σ o) 17 1), τ)) ∧ (¬ (s = 4 ∧ (v < 0 ∨ 1 < v)) ∧ ¬ s = 5 → k none (sz, sl, lay, ρ, fu σ o (iu (σ o) 15 (σ o 15 + 1)), fu τ (o + 10) (iu (τ (o + 10)) (σ o 15) v))) ∧ (¬ (s = 4 ∧ (v < 0 ∨ 1 < v)) ∧ s = 5 → k none (sz, sl, lay, ρ, fu (fu σ (o + 11) (iu (σ (o + 11)) (σ o 16) (l2iZ v))) o (iu (iu (σ o) 15 (σ o 15 + 1)) 16 (σ o 16 + 1)), fu τ (o + 10) (iu (τ (o + 10)) (σ o 15) v)))
def T_Things_addValue : Tr := mkT 7 fun o as M k => pI as fun s as => pL as fun v as => as = [] ∧ TF_Things_addValue o s v M.1 M.2.1 M.2.2.1 M.2.2.2.1 M.2.2.2.2.1 M.2.2.2.2.2 k
theorem T_Things_addValue_e {o : Nat} {s : Int} {v : Int64} {sz sl : Nat} {lay : Nat → Nat × Int} {ρ : Nat → Int → Nat} {σ : Nat → Int → Int} {τ : Nat → Int → Int64} {k : Option AV → Mm → Prop} : T_Things_addValue [vR o, vI s, vL v] (sz, sl, lay, ρ, σ, τ) k = (lay o = (17, 0) ∧ TF_Things_addValue o s v sz sl lay ρ σ τ k) := by simp [T_Things_addValue, mkT_e, pI_e, pR_e, pL_e]
theorem T_Things_addValue_r (as : List AV) (M : Mm) (k : Option AV → Mm → Prop) (h : T_Things_addValue as M k) : ∃ b As, as = vR b :: As ∧ M.2.2.1 b = (10 + 7, 0) := by
  obtain ⟨b, As, h1, h2, -⟩ := mkT_r h
  exact ⟨b, As, h1, h2⟩
def tb_Things_addValue : List (Nat × Option (List Nat) × Instr × List Nat) := [(0, none, .iload_n 1, []), (1, none, .iconst 4, []), (2, none, .if_icmp .ne 19, [21]), (5, none, .lload_n 2, []), (6, none, .lconst 0, []), (7, none, .lcmp, []), (8, none, .ifCond .lt 9, [17]), (11, none, .lload_n 2, []), (12, none, .lconst 1, []), (13, none, .lcmp, []), (14, none, .ifCond .le 7, [21]), (17, none, .iconst 1, []), (18, none, .goto 4, [22]), (21, none, .iconst 0, []), (22, none, .istore 4, []), (24, none, .aload_n 0, []), (25, none, .getfield 59, []), (28, none, .sipush 8000, []), (31, none, .if_icmp .ge 18, [49]), (34, none, .iload_n 1, []), (35, none, .iconst 5, []), (36, none, .if_icmp .ne 17, [53]), (39, none, .aload_n 0, []), (40, none, .getfield 62, []), (43, none, .sipush 4000, []), (46, none, .if_icmp .lt 7, [53]), (49, none, .iconst 1, []), (50, none, .goto 4, [54]), (53, none, .iconst 0, []), (54, none, .istore 5, []), (56, none, .iload 4, []), (58, none, .ifCond .ne 8, [66]), (61, none, .iload 5, []), (63, none, .ifCond .eq 9, [72]), (66, none, .aload_n 0, []), (67, none, .iconst 1, []), (68, none, .putfield 65, []), (71, none, .return_, []), (72, none, .aload_n 0, []), (73, none, .getfield 39, []), (76, none, .aload_n 0, []), (77, none, .getfield 59, []), (80, none, .lload_n 2, []), (81, none, .lastore, []), (82, none, .aload_n 0, []), (83, none, .dup, []), (84, none, .getfield 59, []), (87, none, .iconst 1, []), (88, none, .iadd, []), (89, none, .putfield 59, []), (92, none, .iload_n 1, []), (93, none, .iconst 5, []), (94, none, .if_icmp .ne 24, [118]), (97, none, .aload_n 0, []), (98, none, .getfield 43, []), (101, none, .aload_n 0, []), (102, none, .getfield 62, []), (105, none, .lload_n 2, []), (106, none, .l2i, []), (107, none, .iastore, []), (108, none, .aload_n 0, []), (109, none, .dup, []), (110, none, .getfield 62, []), (113, none, .iconst 1, []), (114, none, .iadd, []), (115, none, .putfield 62, []), (118, none, .return_, [])]
def P_Things_addValue : Nat → Option (List Nat) × Instr × List Nat := plk tb_Things_addValue
theorem r_Things_addValue_0 : P_Things_addValue 0 = (none, .iload_n 1, []) := by decide +kernel
theorem r_Things_addValue_1 : P_Things_addValue 1 = (none, .iconst 4, []) := by decide +kernel
theorem r_Things_addValue_2 : P_Things_addValue 2 = (none, .if_icmp .ne 19, [21]) := by decide +kernel
theorem r_Things_addValue_5 : P_Things_addValue 5 = (none, .lload_n 2, []) := by decide +kernel
theorem r_Things_addValue_6 : P_Things_addValue 6 = (none, .lconst 0, []) := by decide +kernel
theorem r_Things_addValue_7 : P_Things_addValue 7 = (none, .lcmp, []) := by decide +kernel
theorem r_Things_addValue_8 : P_Things_addValue 8 = (none, .ifCond .lt 9, [17]) := by decide +kernel
theorem r_Things_addValue_11 : P_Things_addValue 11 = (none, .lload_n 2, []) := by decide +kernel
theorem r_Things_addValue_12 : P_Things_addValue 12 = (none, .lconst 1, []) := by decide +kernel
theorem r_Things_addValue_13 : P_Things_addValue 13 = (none, .lcmp, []) := by decide +kernel
theorem r_Things_addValue_14 : P_Things_addValue 14 = (none, .ifCond .le 7, [21]) := by decide +kernel
theorem r_Things_addValue_17 : P_Things_addValue 17 = (none, .iconst 1, []) := by decide +kernel
theorem r_Things_addValue_18 : P_Things_addValue 18 = (none, .goto 4, [22]) := by decide +kernel
theorem r_Things_addValue_21 : P_Things_addValue 21 = (none, .iconst 0, []) := by decide +kernel
theorem r_Things_addValue_22 : P_Things_addValue 22 = (none, .istore 4, []) := by decide +kernel
theorem r_Things_addValue_24 : P_Things_addValue 24 = (none, .aload_n 0, []) := by decide +kernel
theorem r_Things_addValue_25 : P_Things_addValue 25 = (none, .getfield 59, []) := by decide +kernel
theorem r_Things_addValue_28 : P_Things_addValue 28 = (none, .sipush 8000, []) := by decide +kernel
theorem r_Things_addValue_31 : P_Things_addValue 31 = (none, .if_icmp .ge 18, [49]) := by decide +kernel
theorem r_Things_addValue_34 : P_Things_addValue 34 = (none, .iload_n 1, []) := by decide +kernel
theorem r_Things_addValue_35 : P_Things_addValue 35 = (none, .iconst 5, []) := by decide +kernel
theorem r_Things_addValue_36 : P_Things_addValue 36 = (none, .if_icmp .ne 17, [53]) := by decide +kernel
theorem r_Things_addValue_39 : P_Things_addValue 39 = (none, .aload_n 0, []) := by decide +kernel
theorem r_Things_addValue_40 : P_Things_addValue 40 = (none, .getfield 62, []) := by decide +kernel
theorem r_Things_addValue_43 : P_Things_addValue 43 = (none, .sipush 4000, []) := by decide +kernel
theorem r_Things_addValue_46 : P_Things_addValue 46 = (none, .if_icmp .lt 7, [53]) := by decide +kernel
theorem r_Things_addValue_49 : P_Things_addValue 49 = (none, .iconst 1, []) := by decide +kernel
theorem r_Things_addValue_50 : P_Things_addValue 50 = (none, .goto 4, [54]) := by decide +kernel
theorem r_Things_addValue_53 : P_Things_addValue 53 = (none, .iconst 0, []) := by decide +kernel
theorem r_Things_addValue_54 : P_Things_addValue 54 = (none, .istore 5, []) := by decide +kernel
theorem r_Things_addValue_56 : P_Things_addValue 56 = (none, .iload 4, []) := by decide +kernel
theorem r_Things_addValue_58 : P_Things_addValue 58 = (none, .ifCond .ne 8, [66]) := by decide +kernel
theorem r_Things_addValue_61 : P_Things_addValue 61 = (none, .iload 5, []) := by decide +kernel
theorem r_Things_addValue_63 : P_Things_addValue 63 = (none, .ifCond .eq 9, [72]) := by decide +kernel
theorem r_Things_addValue_66 : P_Things_addValue 66 = (none, .aload_n 0, []) := by decide +kernel
theorem r_Things_addValue_67 : P_Things_addValue 67 = (none, .iconst 1, []) := by decide +kernel
theorem r_Things_addValue_68 : P_Things_addValue 68 = (none, .putfield 65, []) := by decide +kernel
theorem r_Things_addValue_71 : P_Things_addValue 71 = (none, .return_, []) := by decide +kernel
theorem r_Things_addValue_72 : P_Things_addValue 72 = (none, .aload_n 0, []) := by decide +kernel
theorem r_Things_addValue_73 : P_Things_addValue 73 = (none, .getfield 39, []) := by decide +kernel
theorem r_Things_addValue_76 : P_Things_addValue 76 = (none, .aload_n 0, []) := by decide +kernel
theorem r_Things_addValue_77 : P_Things_addValue 77 = (none, .getfield 59, []) := by decide +kernel
theorem r_Things_addValue_80 : P_Things_addValue 80 = (none, .lload_n 2, []) := by decide +kernel
theorem r_Things_addValue_81 : P_Things_addValue 81 = (none, .lastore, []) := by decide +kernel
theorem r_Things_addValue_82 : P_Things_addValue 82 = (none, .aload_n 0, []) := by decide +kernel
theorem r_Things_addValue_83 : P_Things_addValue 83 = (none, .dup, []) := by decide +kernel
theorem r_Things_addValue_84 : P_Things_addValue 84 = (none, .getfield 59, []) := by decide +kernel
theorem r_Things_addValue_87 : P_Things_addValue 87 = (none, .iconst 1, []) := by decide +kernel
theorem r_Things_addValue_88 : P_Things_addValue 88 = (none, .iadd, []) := by decide +kernel
theorem r_Things_addValue_89 : P_Things_addValue 89 = (none, .putfield 59, []) := by decide +kernel
theorem r_Things_addValue_92 : P_Things_addValue 92 = (none, .iload_n 1, []) := by decide +kernel
theorem r_Things_addValue_93 : P_Things_addValue 93 = (none, .iconst 5, []) := by decide +kernel
theorem r_Things_addValue_94 : P_Things_addValue 94 = (none, .if_icmp .ne 24, [118]) := by decide +kernel
theorem r_Things_addValue_97 : P_Things_addValue 97 = (none, .aload_n 0, []) := by decide +kernel
theorem r_Things_addValue_98 : P_Things_addValue 98 = (none, .getfield 43, []) := by decide +kernel
theorem r_Things_addValue_101 : P_Things_addValue 101 = (none, .aload_n 0, []) := by decide +kernel
theorem r_Things_addValue_102 : P_Things_addValue 102 = (none, .getfield 62, []) := by decide +kernel
theorem r_Things_addValue_105 : P_Things_addValue 105 = (none, .lload_n 2, []) := by decide +kernel
theorem r_Things_addValue_106 : P_Things_addValue 106 = (none, .l2i, []) := by decide +kernel
theorem r_Things_addValue_107 : P_Things_addValue 107 = (none, .iastore, []) := by decide +kernel
theorem r_Things_addValue_108 : P_Things_addValue 108 = (none, .aload_n 0, []) := by decide +kernel
theorem r_Things_addValue_109 : P_Things_addValue 109 = (none, .dup, []) := by decide +kernel
theorem r_Things_addValue_110 : P_Things_addValue 110 = (none, .getfield 62, []) := by decide +kernel
theorem r_Things_addValue_113 : P_Things_addValue 113 = (none, .iconst 1, []) := by decide +kernel
theorem r_Things_addValue_114 : P_Things_addValue 114 = (none, .iadd, []) := by decide +kernel
theorem r_Things_addValue_115 : P_Things_addValue 115 = (none, .putfield 62, []) := by decide +kernel
theorem r_Things_addValue_118 : P_Things_addValue 118 = (none, .return_, []) := by decide +kernel
def E_Things_addValue : List (Nat × Ent) := []
def X_Things_addValue : Cx := (llk (0, 0, 9) ftX7, llk 99 ntX7, llk none kcX7, llk none klX7, llk dEnt E_Things_addValue, 0, 3, false)
theorem xok_Things_addValue : Xok RX7 X_Things_addValue := xok_of ftX7_ok ntX7_ok kcX7_ok klX7_ok (E := E_Things_addValue) (fun _ h => absurd h List.not_mem_nil)
theorem xf_Things_addValue_39 : xfl X_Things_addValue 39 = (7, 9, 1) := by decide +kernel
theorem xf_Things_addValue_43 : xfl X_Things_addValue 43 = (7, 10, 1) := by decide +kernel
theorem xf_Things_addValue_59 : xfl X_Things_addValue 59 = (7, 15, 0) := by decide +kernel
theorem xf_Things_addValue_62 : xfl X_Things_addValue 62 = (7, 16, 0) := by decide +kernel
theorem xf_Things_addValue_65 : xfl X_Things_addValue 65 = (7, 17, 2) := by decide +kernel
theorem xd_Things_addValue : xd X_Things_addValue = 0 := rfl
theorem xrb_Things_addValue : xrb X_Things_addValue = 3 := rfl
theorem xin_Things_addValue : xin X_Things_addValue = false := rfl
set_option maxHeartbeats 8000000 in
set_option maxRecDepth 100000 in
theorem S_Things_addValue : Snd yX7_addValue cX7_addValue 6 none T_Things_addValue 0 0 0 := by
  refine snd_of (X := X_Things_addValue) (P := P_Things_addValue) (tb := tb_Things_addValue) (own := RX7) (by decide) rfl rfl (by decide +kernel) xok_Things_addValue rfl rk3 (fun h => by first | rfl | cases h) ?_
  intro as M k has hM hT0
  obtain ⟨sz, sl, lay, ρ, σ, τ⟩ := M
  obtain ⟨o, as1, e, hlo, hT1⟩ := mkT_r hT0
  clear hT0
  subst e
  obtain ⟨s, as2, e, hT2⟩ := pI_x hT1
  clear hT1
  subst e
  obtain ⟨v, as3, e, hT3⟩ := pL_x hT2
  clear hT2
  subst e
  obtain ⟨e, hT⟩ := hT3
  subst e
  replace hlo : lay o = (17, 0) := hlo
  have r_s : -2147483648 ≤ s ∧ s ≤ 2147483647 := has (vI s) (by simp)
  clear has
  replace hM : ∀ a i, -2147483648 ≤ σ a i ∧ σ a i ≤ 2147483647 := hM
  replace hT : TF_Things_addValue o s v sz sl lay ρ σ τ k := hT
  unfold TF_Things_addValue at hT
  obtain ⟨hL, he, hr, h1, h2, h3⟩ := hT
  obtain ⟨lh, lp0, lp1, lp2, lp3, lp4, lp5, lp6, lp7, lp8, lp9, lp10, lp11, lq0, lq1, lq2, lq3, lq4, lq5, lq6, lq7, lq8, lq9, lq10, lq11⟩ := (show LThings lay ρ _ from hL)
  refine ⟨Nat.le_of_ble_eq_true rfl, fun _ _ _ => False, fun _ _ _ => 0, 75, ?_, fun _ _ _ _ _ _ h => h.elim⟩
  unfold wps
  simp only [si_iload_n0, si_iload_n1, si_iload_n2, si_iload_n3, si_iload, si_lload_n0, si_lload_n1, si_lload_n2, si_lload_n3, si_lload, si_aload_n0, si_aload_n1, si_aload_n2, si_aload_n3, si_aload, si_istore_n0, si_istore_n1, si_istore_n2, si_istore_n3, si_istore, si_astore_n0, si_astore_n1, si_astore_n2, si_astore_n3, si_astore, si_lstore_n0, si_lstore_n1, si_lstore_n2, si_lstore_n3, si_lstore, si_iconst, si_bipush, si_sipush, si_ldc, si_ldc2_w, si_lconst0, si_lconst1, si_aconst_null, si_iinc, si_dup, si_dup2, si_iadd, si_isub, si_imul, si_idiv, si_irem, si_iand, si_ior, si_ishl, si_ishr, si_ladd, si_lmul, si_lor, si_lxor, si_lshl, si_lushr, si_lcmp, si_i2b, si_i2l, si_l2i, si_icmp_eq, si_icmp_ne, si_icmp_lt, si_icmp_ge, si_icmp_gt, si_icmp_le, si_if_eq, si_if_ne, si_if_lt, si_if_ge, si_if_gt, si_if_le, si_ifnull, si_ifnonnull, si_goto, si_tableswitch, si_lookupswitch, si_getfield, si_putfield, si_getstatic, si_iaload, si_baload, si_laload, si_aaload, si_iastore, si_bastore, si_lastore, si_aastore, si_arraylength, si_new, si_newarray, si_anewarray, si_invokevirtual, si_invokespecial, si_invokestatic, si_ireturn, si_lreturn, si_areturn, si_return_, pI_e, pL_e, pR_e, pA_r, pA_n, pN_n, pN_r, oI_e, oL_e, oA_r, oA_n, lget_e, lrm1_0, lrm2_0, lrm1_i, lrm1_r, lrm1_n, lrm1_l, lrm2_i, lrm2_r, lrm2_n, lrm2_l, popN_0, popN_s, acat_i, acat_l, acat_r, acat_n, stw_0, stw_s, psh_s, psh_n, wgf_r, wgf_i, wgf_b, wgf_n, wgf_m, wpf_i, wpf_r, wpf_b, wnew_e, callE_e, rbk_0, rbk_1, tsw_0, tsw_s, lsw_0, lsw_s, wp_s, wq_t, wq_f, oV_e, pick_0, pick_s, oZ_e, oY_e, r_Things_addValue_0, r_Things_addValue_1, r_Things_addValue_2, r_Things_addValue_5, r_Things_addValue_6, r_Things_addValue_7, r_Things_addValue_8, r_Things_addValue_11, r_Things_addValue_12, r_Things_addValue_13, r_Things_addValue_14, r_Things_addValue_17, r_Things_addValue_18, r_Things_addValue_21, r_Things_addValue_22, r_Things_addValue_24, r_Things_addValue_25, r_Things_addValue_28, r_Things_addValue_31, r_Things_addValue_34, r_Things_addValue_35, r_Things_addValue_36, r_Things_addValue_39, r_Things_addValue_40, r_Things_addValue_43, r_Things_addValue_46, r_Things_addValue_49, r_Things_addValue_50, r_Things_addValue_53, r_Things_addValue_54, r_Things_addValue_56, r_Things_addValue_58, r_Things_addValue_61, r_Things_addValue_63, r_Things_addValue_66, r_Things_addValue_67, r_Things_addValue_68, r_Things_addValue_71, r_Things_addValue_72, r_Things_addValue_73, r_Things_addValue_76, r_Things_addValue_77, r_Things_addValue_80, r_Things_addValue_81, r_Things_addValue_82, r_Things_addValue_83, r_Things_addValue_84, r_Things_addValue_87, r_Things_addValue_88, r_Things_addValue_89, r_Things_addValue_92, r_Things_addValue_93, r_Things_addValue_94, r_Things_addValue_97, r_Things_addValue_98, r_Things_addValue_101, r_Things_addValue_102, r_Things_addValue_105, r_Things_addValue_106, r_Things_addValue_107, r_Things_addValue_108, r_Things_addValue_109, r_Things_addValue_110, r_Things_addValue_113, r_Things_addValue_114, r_Things_addValue_115, r_Things_addValue_118, xf_Things_addValue_39, xf_Things_addValue_43, xf_Things_addValue_59, xf_Things_addValue_62, xf_Things_addValue_65, xd_Things_addValue, xrb_Things_addValue, xin_Things_addValue, lh, lp0, lp1, lp2, lp3, lp4, lp5, lp6, lp7, lp8, lp9, lp10, lp11, lq0, lq1, lq2, lq3, lq4, lq5, lq6, lq7, lq8, lq9, lq10, lq11, fu_skip, cmpL_lt, cmpL_gt, cmpL_le, cmpL_ge, cmpL_eq, Nat.reduceAdd, Nat.reduceMul, Nat.reduceEqDiff, reduceIte, Int.reduceNeg, Int.reduceLE, Int.reduceLT, Int.reduceAdd, Int.reduceSub, Int.reduceToNat, true_and, and_true, inR_e, Nat.reduceLT, Nat.reduceLeDiff, reduceCtorEq, Nat.add_zero, Nat.zero_add, or_false, false_or, or_true, true_or, not_true_eq_false, not_false_eq_true, Classical.not_not, Nat.add_eq_zero_iff, and_false, false_and, Int.reduceEq, List.mem_cons, List.not_mem_nil, forall_eq_or_imp, forall_eq, false_implies, implies_true, forall_const, aargs_0, aargs_i, aargs_r, aargs_l, aargs_n, nfT_e, eq_self, and_self, Nat.le_refl, fu_s, fu_fu, iu_iu, iu_s, fu_am, fu_a0, fu_0a, iu_l, Nat.reduceBEq, Int.reduceBEq, T_objInit_e]
  repeat' (first | assumption | intro _ | apply And.intro)
  all_goals first | omega | assumption | (exact h1 (by omega)) | (exact h2 (by omega)) | (exact h3 (by omega)) | (exact h1 ⟨by omega, by omega⟩) | (exact h2 ⟨by omega, by omega⟩) | (exact h3 ⟨by omega, by omega⟩) | (exact h1 ⟨by omega, by omega, by omega⟩) | (exact h2 ⟨by omega, by omega, by omega⟩) | (exact h3 ⟨by omega, by omega, by omega⟩) | (exact h1 ⟨by omega, by first | exact Or.inl (by assumption) | exact Or.inr (by assumption)⟩) | (exact h2 ⟨fun z => by rcases z.2 with z | z <;> contradiction, by omega⟩) | (exact h3 ⟨fun z => by rcases z.2 with z | z <;> contradiction, by omega⟩) | (exact h2 ⟨fun z => by omega, by omega⟩) | (exact h3 ⟨fun z => by omega, by omega⟩)

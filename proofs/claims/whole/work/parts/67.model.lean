/-- the reference's bytes and kinds of a picture -/
def MB (σ : Nat → Int → Int) (m : Nat) (p : Int) (U : Int → Int) (len : Int) (A : Int → Int) : Prop := (0 ≤ p ∧ p < 3) ∧ (0 ≤ len ∧ len ≤ 8000) ∧ (∀ i, 0 ≤ i ∧ i < len → σ (m + 2) (8000 * p + i) % 256 = U i) ∧ (∀ k, 0 ≤ k ∧ k < 40 → σ (m + 11) (40 * p + k) = A k) ∧ KW U A ∧ (∀ k, 0 ≤ k ∧ k < 40 → 0 ≤ A k → A k + 4 + U (A k + 3) ≤ len) ∧ (∀ i, -128 ≤ σ (m + 2) i ∧ σ (m + 2) i ≤ 127)
theorem MB.cg {σ σ2 : Nat → Int → Int} {m : Nat} {p : Int} {U : Int → Int} {len : Int} {A : Int → Int} (h : MB σ m p U len A) (e2 : σ2 (m + 2) = σ (m + 2)) (e11 : σ2 (m + 11) = σ (m + 11)) : MB σ2 m p U len A := by
  unfold MB
  rw [e2, e11]
  exact h
def TF_Model_isPicture (p : Int) (sz sl : Nat) (lay : Nat → Nat × Int) (ρ : Nat → Int → Nat) (σ : Nat → Int → Int) (τ : Nat → Int → Int64) (k : Option AV → Mm → Prop) : Prop := (0 ≤ p ∧ p < 3 → k (some (vI (1))) (sz, sl, lay, ρ, σ, τ)) ∧ (¬ (0 ≤ p ∧ p < 3) → k (some (vI (0))) (sz, sl, lay, ρ, σ, τ))
def T_Model_isPicture : Tr := fun as M k => pI as fun p as => as = [] ∧ TF_Model_isPicture p M.1 M.2.1 M.2.2.1 M.2.2.2.1 M.2.2.2.2.1 M.2.2.2.2.2 k
theorem T_Model_isPicture_e {p : Int} {sz sl : Nat} {lay : Nat → Nat × Int} {ρ : Nat → Int → Nat} {σ : Nat → Int → Int} {τ : Nat → Int → Int64} {k : Option AV → Mm → Prop} : T_Model_isPicture [vI p] (sz, sl, lay, ρ, σ, τ) k = TF_Model_isPicture p sz sl lay ρ σ τ k := by simp [T_Model_isPicture, pI_e, pR_e, pL_e]
def tb_Model_isPicture : List (Nat × Option (List Nat) × Instr × List Nat) := [(0, none, .iload_n 0, []), (1, none, .ifCond .lt 12, [13]), (4, none, .iload_n 0, []), (5, none, .iconst 3, []), (6, none, .if_icmp .ge 7, [13]), (9, none, .iconst 1, []), (10, none, .goto 4, [14]), (13, none, .iconst 0, []), (14, none, .ireturn, [])]
def P_Model_isPicture : Nat → Option (List Nat) × Instr × List Nat := plk tb_Model_isPicture
theorem r_Model_isPicture_0 : P_Model_isPicture 0 = (none, .iload_n 0, []) := by decide +kernel
theorem r_Model_isPicture_1 : P_Model_isPicture 1 = (none, .ifCond .lt 12, [13]) := by decide +kernel
theorem r_Model_isPicture_4 : P_Model_isPicture 4 = (none, .iload_n 0, []) := by decide +kernel
theorem r_Model_isPicture_5 : P_Model_isPicture 5 = (none, .iconst 3, []) := by decide +kernel
theorem r_Model_isPicture_6 : P_Model_isPicture 6 = (none, .if_icmp .ge 7, [13]) := by decide +kernel
theorem r_Model_isPicture_9 : P_Model_isPicture 9 = (none, .iconst 1, []) := by decide +kernel
theorem r_Model_isPicture_10 : P_Model_isPicture 10 = (none, .goto 4, [14]) := by decide +kernel
theorem r_Model_isPicture_13 : P_Model_isPicture 13 = (none, .iconst 0, []) := by decide +kernel
theorem r_Model_isPicture_14 : P_Model_isPicture 14 = (none, .ireturn, []) := by decide +kernel
def E_Model_isPicture : List (Nat × Ent) := []
def X_Model_isPicture : Cx := (llk (0, 0, 9) ftX11, llk 99 ntX11, llk none kcX11, llk none klX11, llk dEnt E_Model_isPicture, 0, 1, false)
theorem xok_Model_isPicture : Xok RX11 X_Model_isPicture := xok_of ftX11_ok ntX11_ok kcX11_ok klX11_ok (E := E_Model_isPicture) (fun _ h => absurd h List.not_mem_nil)
theorem xd_Model_isPicture : xd X_Model_isPicture = 0 := rfl
theorem xrb_Model_isPicture : xrb X_Model_isPicture = 1 := rfl
theorem xin_Model_isPicture : xin X_Model_isPicture = false := rfl
set_option maxHeartbeats 4000000 in
set_option maxRecDepth 100000 in
theorem S_Model_isPicture : Snd yX11_isPicture cX11_isPicture 1 (some .boolean) T_Model_isPicture 0 0 0 := by
  refine snd_of (X := X_Model_isPicture) (P := P_Model_isPicture) (tb := tb_Model_isPicture) (own := RX11) (by decide) rfl rfl (by decide +kernel) xok_Model_isPicture rfl rk1 (fun h => by first | rfl | cases h) ?_
  intro as M k has hM hT0
  obtain ⟨sz, sl, lay, ρ, σ, τ⟩ := M
  obtain ⟨p, as1, e, hT1⟩ := pI_x hT0
  clear hT0
  subst e
  obtain ⟨e, hT⟩ := hT1
  subst e
  have r_p : -2147483648 ≤ p ∧ p ≤ 2147483647 := has (vI p) (by simp)
  clear has
  replace hM : ∀ a i, -2147483648 ≤ σ a i ∧ σ a i ≤ 2147483647 := hM
  replace hT : TF_Model_isPicture p sz sl lay ρ σ τ k := hT
  unfold TF_Model_isPicture at hT
  obtain ⟨h1, h0⟩ := hT
  refine ⟨Nat.le_of_ble_eq_true rfl, fun _ _ _ => False, fun _ _ _ => 0, 17, ?_, fun _ _ _ _ _ _ h => h.elim⟩
  unfold wps
  simp only [si_iload_n0, si_iload_n1, si_iload_n2, si_iload_n3, si_iload, si_lload_n0, si_lload_n1, si_lload_n2, si_lload_n3, si_lload, si_aload_n0, si_aload_n1, si_aload_n2, si_aload_n3, si_aload, si_istore_n0, si_istore_n1, si_istore_n2, si_istore_n3, si_istore, si_astore_n0, si_astore_n1, si_astore_n2, si_astore_n3, si_astore, si_lstore_n0, si_lstore_n1, si_lstore_n2, si_lstore_n3, si_lstore, si_iconst, si_bipush, si_sipush, si_ldc, si_ldc2_w, si_lconst0, si_lconst1, si_aconst_null, si_iinc, si_dup, si_dup2, si_iadd, si_isub, si_imul, si_idiv, si_irem, si_iand, si_ior, si_ishl, si_ishr, si_ladd, si_lmul, si_lor, si_lxor, si_lshl, si_lushr, si_lcmp, si_i2b, si_i2l, si_l2i, si_icmp_eq, si_icmp_ne, si_icmp_lt, si_icmp_ge, si_icmp_gt, si_icmp_le, si_if_eq, si_if_ne, si_if_lt, si_if_ge, si_if_gt, si_if_le, si_ifnull, si_ifnonnull, si_goto, si_tableswitch, si_lookupswitch, si_getfield, si_putfield, si_getstatic, si_iaload, si_baload, si_laload, si_aaload, si_iastore, si_bastore, si_lastore, si_aastore, si_arraylength, si_new, si_newarray, si_anewarray, si_invokevirtual, si_invokespecial, si_invokestatic, si_ireturn, si_lreturn, si_areturn, si_return_, pI_e, pL_e, pR_e, pA_r, pA_n, pN_n, pN_r, oI_e, oL_e, oA_r, oA_n, lget_e, lrm1_0, lrm2_0, lrm1_i, lrm1_r, lrm1_n, lrm1_l, lrm2_i, lrm2_r, lrm2_n, lrm2_l, popN_0, popN_s, acat_i, acat_l, acat_r, acat_n, stw_0, stw_s, psh_s, psh_n, wgf_r, wgf_i, wgf_b, wgf_n, wgf_m, wpf_i, wpf_r, wpf_b, wnew_e, callE_e, rbk_0, rbk_1, tsw_0, tsw_s, lsw_0, lsw_s, wp_s, wq_t, wq_f, oV_e, pick_0, pick_s, oZ_e, oY_e, r_Model_isPicture_0, r_Model_isPicture_1, r_Model_isPicture_4, r_Model_isPicture_5, r_Model_isPicture_6, r_Model_isPicture_9, r_Model_isPicture_10, r_Model_isPicture_13, r_Model_isPicture_14, xd_Model_isPicture, xrb_Model_isPicture, xin_Model_isPicture, Nat.reduceAdd, Nat.reduceMul, Nat.reduceEqDiff, reduceIte, Int.reduceNeg, Int.reduceLE, Int.reduceLT, Int.reduceAdd, Int.reduceSub, Int.reduceToNat, true_and, and_true, inR_e, Nat.reduceLT, Nat.reduceLeDiff, reduceCtorEq, Nat.add_zero, Nat.zero_add, or_false, false_or, or_true, true_or, not_true_eq_false, not_false_eq_true, Classical.not_not, Nat.add_eq_zero_iff, and_false, false_and, Int.reduceEq, List.mem_cons, List.not_mem_nil, forall_eq_or_imp, forall_eq, false_implies, implies_true, forall_const, aargs_0, aargs_i, aargs_r, aargs_l, aargs_n, nfT_e, eq_self, and_self, Nat.le_refl, fu_s, fu_fu, iu_iu, iu_s, fu_am, fu_a0, fu_0a, iu_l, Nat.reduceBEq, Int.reduceBEq, T_objInit_e]
  repeat' (first | assumption | intro _ | apply And.intro)
  all_goals first | omega | assumption | (exact h1 (by omega)) | (exact h0 (by omega)) | (exact h1 ⟨by omega, by omega⟩) | (exact h0 ⟨by omega, by omega⟩) | (exact h1 ⟨by omega, by omega, by omega⟩) | (exact h0 ⟨by omega, by omega, by omega⟩)
def TF_Model_width (s : Int) (sz sl : Nat) (lay : Nat → Nat × Int) (ρ : Nat → Int → Nat) (σ : Nat → Int → Int) (τ : Nat → Int → Int64) (k : Option AV → Mm → Prop) : Prop := (0 ≤ s ∧ s < 6) ∧ k (some (vI (wd s))) (sz, sl, lay, ρ, σ, τ)
def T_Model_width : Tr := fun as M k => pI as fun s as => as = [] ∧ TF_Model_width s M.1 M.2.1 M.2.2.1 M.2.2.2.1 M.2.2.2.2.1 M.2.2.2.2.2 k
theorem T_Model_width_e {s : Int} {sz sl : Nat} {lay : Nat → Nat × Int} {ρ : Nat → Int → Nat} {σ : Nat → Int → Int} {τ : Nat → Int → Int64} {k : Option AV → Mm → Prop} : T_Model_width [vI s] (sz, sl, lay, ρ, σ, τ) k = TF_Model_width s sz sl lay ρ σ τ k := by simp [T_Model_width, pI_e, pR_e, pL_e]
def tb_Model_width : List (Nat × Option (List Nat) × Instr × List Nat) := [(0, none, .iload_n 0, []), (1, none, .ifCond .eq 8, [9]), (4, none, .iload_n 0, []), (5, none, .iconst 4, []), (6, none, .if_icmp .ne 7, [13]), (9, none, .iconst 1, []), (10, none, .goto 28, [38]), (13, none, .iload_n 0, []), (14, none, .iconst 1, []), (15, none, .if_icmp .eq 8, [23]), (18, none, .iload_n 0, []), (19, none, .iconst 5, []), (20, none, .if_icmp .ne 7, [27]), (23, none, .iconst 2, []), (24, none, .goto 14, [38]), (27, none, .iload_n 0, []), (28, none, .iconst 2, []), (29, none, .if_icmp .ne 7, [36]), (32, none, .iconst 4, []), (33, none, .goto 5, [38]), (36, none, .bipush 8, []), (38, none, .ireturn, [])]
def P_Model_width : Nat → Option (List Nat) × Instr × List Nat := plk tb_Model_width
theorem r_Model_width_0 : P_Model_width 0 = (none, .iload_n 0, []) := by decide +kernel
theorem r_Model_width_1 : P_Model_width 1 = (none, .ifCond .eq 8, [9]) := by decide +kernel
theorem r_Model_width_4 : P_Model_width 4 = (none, .iload_n 0, []) := by decide +kernel
theorem r_Model_width_5 : P_Model_width 5 = (none, .iconst 4, []) := by decide +kernel
theorem r_Model_width_6 : P_Model_width 6 = (none, .if_icmp .ne 7, [13]) := by decide +kernel
theorem r_Model_width_9 : P_Model_width 9 = (none, .iconst 1, []) := by decide +kernel
theorem r_Model_width_10 : P_Model_width 10 = (none, .goto 28, [38]) := by decide +kernel
theorem r_Model_width_13 : P_Model_width 13 = (none, .iload_n 0, []) := by decide +kernel
theorem r_Model_width_14 : P_Model_width 14 = (none, .iconst 1, []) := by decide +kernel
theorem r_Model_width_15 : P_Model_width 15 = (none, .if_icmp .eq 8, [23]) := by decide +kernel
theorem r_Model_width_18 : P_Model_width 18 = (none, .iload_n 0, []) := by decide +kernel
theorem r_Model_width_19 : P_Model_width 19 = (none, .iconst 5, []) := by decide +kernel
theorem r_Model_width_20 : P_Model_width 20 = (none, .if_icmp .ne 7, [27]) := by decide +kernel
theorem r_Model_width_23 : P_Model_width 23 = (none, .iconst 2, []) := by decide +kernel
theorem r_Model_width_24 : P_Model_width 24 = (none, .goto 14, [38]) := by decide +kernel
theorem r_Model_width_27 : P_Model_width 27 = (none, .iload_n 0, []) := by decide +kernel
theorem r_Model_width_28 : P_Model_width 28 = (none, .iconst 2, []) := by decide +kernel
theorem r_Model_width_29 : P_Model_width 29 = (none, .if_icmp .ne 7, [36]) := by decide +kernel
theorem r_Model_width_32 : P_Model_width 32 = (none, .iconst 4, []) := by decide +kernel
theorem r_Model_width_33 : P_Model_width 33 = (none, .goto 5, [38]) := by decide +kernel
theorem r_Model_width_36 : P_Model_width 36 = (none, .bipush 8, []) := by decide +kernel
theorem r_Model_width_38 : P_Model_width 38 = (none, .ireturn, []) := by decide +kernel
def E_Model_width : List (Nat × Ent) := []
def X_Model_width : Cx := (llk (0, 0, 9) ftX11, llk 99 ntX11, llk none kcX11, llk none klX11, llk dEnt E_Model_width, 0, 0, false)
theorem xok_Model_width : Xok RX11 X_Model_width := xok_of ftX11_ok ntX11_ok kcX11_ok klX11_ok (E := E_Model_width) (fun _ h => absurd h List.not_mem_nil)
theorem xd_Model_width : xd X_Model_width = 0 := rfl
theorem xrb_Model_width : xrb X_Model_width = 0 := rfl
theorem xin_Model_width : xin X_Model_width = false := rfl
set_option maxHeartbeats 4000000 in
set_option maxRecDepth 100000 in
theorem S_Model_width : Snd yX11_width cX11_width 1 (some .int) T_Model_width 0 0 0 := by
  refine snd_of (X := X_Model_width) (P := P_Model_width) (tb := tb_Model_width) (own := RX11) (by decide) rfl rfl (by decide +kernel) xok_Model_width rfl rk0 (fun h => by first | rfl | cases h) ?_
  intro as M k has hM hT0
  obtain ⟨sz, sl, lay, ρ, σ, τ⟩ := M
  obtain ⟨s, as1, e, hT1⟩ := pI_x hT0
  clear hT0
  subst e
  obtain ⟨e, hT⟩ := hT1
  subst e
  have r_s : -2147483648 ≤ s ∧ s ≤ 2147483647 := has (vI s) (by simp)
  clear has
  replace hM : ∀ a i, -2147483648 ≤ σ a i ∧ σ a i ≤ 2147483647 := hM
  replace hT : TF_Model_width s sz sl lay ρ σ τ k := hT
  unfold TF_Model_width at hT
  obtain ⟨hs, hT⟩ := hT
  refine ⟨Nat.le_of_ble_eq_true rfl, fun _ _ _ => False, fun _ _ _ => 0, 30, ?_, fun _ _ _ _ _ _ h => h.elim⟩
  unfold wps
  simp only [si_iload_n0, si_iload_n1, si_iload_n2, si_iload_n3, si_iload, si_lload_n0, si_lload_n1, si_lload_n2, si_lload_n3, si_lload, si_aload_n0, si_aload_n1, si_aload_n2, si_aload_n3, si_aload, si_istore_n0, si_istore_n1, si_istore_n2, si_istore_n3, si_istore, si_astore_n0, si_astore_n1, si_astore_n2, si_astore_n3, si_astore, si_lstore_n0, si_lstore_n1, si_lstore_n2, si_lstore_n3, si_lstore, si_iconst, si_bipush, si_sipush, si_ldc, si_ldc2_w, si_lconst0, si_lconst1, si_aconst_null, si_iinc, si_dup, si_dup2, si_iadd, si_isub, si_imul, si_idiv, si_irem, si_iand, si_ior, si_ishl, si_ishr, si_ladd, si_lmul, si_lor, si_lxor, si_lshl, si_lushr, si_lcmp, si_i2b, si_i2l, si_l2i, si_icmp_eq, si_icmp_ne, si_icmp_lt, si_icmp_ge, si_icmp_gt, si_icmp_le, si_if_eq, si_if_ne, si_if_lt, si_if_ge, si_if_gt, si_if_le, si_ifnull, si_ifnonnull, si_goto, si_tableswitch, si_lookupswitch, si_getfield, si_putfield, si_getstatic, si_iaload, si_baload, si_laload, si_aaload, si_iastore, si_bastore, si_lastore, si_aastore, si_arraylength, si_new, si_newarray, si_anewarray, si_invokevirtual, si_invokespecial, si_invokestatic, si_ireturn, si_lreturn, si_areturn, si_return_, pI_e, pL_e, pR_e, pA_r, pA_n, pN_n, pN_r, oI_e, oL_e, oA_r, oA_n, lget_e, lrm1_0, lrm2_0, lrm1_i, lrm1_r, lrm1_n, lrm1_l, lrm2_i, lrm2_r, lrm2_n, lrm2_l, popN_0, popN_s, acat_i, acat_l, acat_r, acat_n, stw_0, stw_s, psh_s, psh_n, wgf_r, wgf_i, wgf_b, wgf_n, wgf_m, wpf_i, wpf_r, wpf_b, wnew_e, callE_e, rbk_0, rbk_1, tsw_0, tsw_s, lsw_0, lsw_s, wp_s, wq_t, wq_f, oV_e, pick_0, pick_s, oZ_e, oY_e, r_Model_width_0, r_Model_width_1, r_Model_width_4, r_Model_width_5, r_Model_width_6, r_Model_width_9, r_Model_width_10, r_Model_width_13, r_Model_width_14, r_Model_width_15, r_Model_width_18, r_Model_width_19, r_Model_width_20, r_Model_width_23, r_Model_width_24, r_Model_width_27, r_Model_width_28, r_Model_width_29, r_Model_width_32, r_Model_width_33, r_Model_width_36, r_Model_width_38, xd_Model_width, xrb_Model_width, xin_Model_width, Nat.reduceAdd, Nat.reduceMul, Nat.reduceEqDiff, reduceIte, Int.reduceNeg, Int.reduceLE, Int.reduceLT, Int.reduceAdd, Int.reduceSub, Int.reduceToNat, true_and, and_true, inR_e, Nat.reduceLT, Nat.reduceLeDiff, reduceCtorEq, Nat.add_zero, Nat.zero_add, or_false, false_or, or_true, true_or, not_true_eq_false, not_false_eq_true, Classical.not_not, Nat.add_eq_zero_iff, and_false, false_and, Int.reduceEq, List.mem_cons, List.not_mem_nil, forall_eq_or_imp, forall_eq, false_implies, implies_true, forall_const, aargs_0, aargs_i, aargs_r, aargs_l, aargs_n, nfT_e, eq_self, and_self, Nat.le_refl, fu_s, fu_fu, iu_iu, iu_s, fu_am, fu_a0, fu_0a, iu_l, Nat.reduceBEq, Int.reduceBEq, T_objInit_e]
  have h3 : s = 0 ∨ s = 1 ∨ s = 2 ∨ s = 3 ∨ s = 4 ∨ s = 5 := by omega
  rcases h3 with rfl | rfl | rfl | rfl | rfl | rfl
  all_goals simp [wd_0, wd_1, wd_2, wd_3, wd_4, wd_5] at hT ⊢
  all_goals exact hT
def TF_Model_at (o : Nat) (p : Int) (i : Int) (sz sl : Nat) (lay : Nat → Nat × Int) (ρ : Nat → Int → Nat) (σ : Nat → Int → Int) (τ : Nat → Int → Int64) (k : Option AV → Mm → Prop) : Prop := LModel lay ρ o ∧ (0 ≤ p ∧ p < 3) ∧ (0 ≤ i ∧ i < 8000) ∧ k (some (vI (σ (o + 2) (8000 * p + i) % 256))) (sz, sl, lay, ρ, σ, τ)
def T_Model_at : Tr := mkT 11 fun o as M k => pI as fun p as => pI as fun i as => as = [] ∧ TF_Model_at o p i M.1 M.2.1 M.2.2.1 M.2.2.2.1 M.2.2.2.2.1 M.2.2.2.2.2 k
theorem T_Model_at_e {o : Nat} {p : Int} {i : Int} {sz sl : Nat} {lay : Nat → Nat × Int} {ρ : Nat → Int → Nat} {σ : Nat → Int → Int} {τ : Nat → Int → Int64} {k : Option AV → Mm → Prop} : T_Model_at [vR o, vI p, vI i] (sz, sl, lay, ρ, σ, τ) k = (lay o = (21, 0) ∧ TF_Model_at o p i sz sl lay ρ σ τ k) := by simp [T_Model_at, mkT_e, pI_e, pR_e, pL_e]
theorem T_Model_at_r (as : List AV) (M : Mm) (k : Option AV → Mm → Prop) (h : T_Model_at as M k) : ∃ b As, as = vR b :: As ∧ M.2.2.1 b = (10 + 11, 0) := by
  obtain ⟨b, As, h1, h2, -⟩ := mkT_r h
  exact ⟨b, As, h1, h2⟩
def tb_Model_at : List (Nat × Option (List Nat) × Instr × List Nat) := [(0, none, .aload_n 0, []), (1, none, .getfield 13, []), (4, none, .sipush 8000, []), (7, none, .iload_n 1, []), (8, none, .imul, []), (9, none, .iload_n 2, []), (10, none, .iadd, []), (11, none, .baload, []), (12, none, .sipush 255, []), (15, none, .iand, []), (16, none, .ireturn, [])]
def P_Model_at : Nat → Option (List Nat) × Instr × List Nat := plk tb_Model_at
theorem r_Model_at_0 : P_Model_at 0 = (none, .aload_n 0, []) := by decide +kernel
theorem r_Model_at_1 : P_Model_at 1 = (none, .getfield 13, []) := by decide +kernel
theorem r_Model_at_4 : P_Model_at 4 = (none, .sipush 8000, []) := by decide +kernel
theorem r_Model_at_7 : P_Model_at 7 = (none, .iload_n 1, []) := by decide +kernel
theorem r_Model_at_8 : P_Model_at 8 = (none, .imul, []) := by decide +kernel
theorem r_Model_at_9 : P_Model_at 9 = (none, .iload_n 2, []) := by decide +kernel
theorem r_Model_at_10 : P_Model_at 10 = (none, .iadd, []) := by decide +kernel
theorem r_Model_at_11 : P_Model_at 11 = (none, .baload, []) := by decide +kernel
theorem r_Model_at_12 : P_Model_at 12 = (none, .sipush 255, []) := by decide +kernel
theorem r_Model_at_15 : P_Model_at 15 = (none, .iand, []) := by decide +kernel
theorem r_Model_at_16 : P_Model_at 16 = (none, .ireturn, []) := by decide +kernel
def E_Model_at : List (Nat × Ent) := []
def X_Model_at : Cx := (llk (0, 0, 9) ftX11, llk 99 ntX11, llk none kcX11, llk none klX11, llk dEnt E_Model_at, 0, 0, false)
theorem xok_Model_at : Xok RX11 X_Model_at := xok_of ftX11_ok ntX11_ok kcX11_ok klX11_ok (E := E_Model_at) (fun _ h => absurd h List.not_mem_nil)
theorem xf_Model_at_13 : xfl X_Model_at 13 = (11, 2, 1) := by decide +kernel
theorem xd_Model_at : xd X_Model_at = 0 := rfl
theorem xrb_Model_at : xrb X_Model_at = 0 := rfl
theorem xin_Model_at : xin X_Model_at = false := rfl
set_option maxHeartbeats 4000000 in
set_option maxRecDepth 100000 in
theorem S_Model_at : Snd yX11_at cX11_at 3 (some .int) T_Model_at 0 0 0 := by
  refine snd_of (X := X_Model_at) (P := P_Model_at) (tb := tb_Model_at) (own := RX11) (by decide) rfl rfl (by decide +kernel) xok_Model_at rfl rk0 (fun h => by first | rfl | cases h) ?_
  intro as M k has hM hT0
  obtain ⟨sz, sl, lay, ρ, σ, τ⟩ := M
  obtain ⟨o, as1, e, hlo, hT1⟩ := mkT_r hT0
  clear hT0
  subst e
  obtain ⟨p, as2, e, hT2⟩ := pI_x hT1
  clear hT1
  subst e
  obtain ⟨i, as3, e, hT3⟩ := pI_x hT2
  clear hT2
  subst e
  obtain ⟨e, hT⟩ := hT3
  subst e
  replace hlo : lay o = (21, 0) := hlo
  have r_p : -2147483648 ≤ p ∧ p ≤ 2147483647 := has (vI p) (by simp)
  have r_i : -2147483648 ≤ i ∧ i ≤ 2147483647 := has (vI i) (by simp)
  clear has
  replace hM : ∀ a i, -2147483648 ≤ σ a i ∧ σ a i ≤ 2147483647 := hM
  replace hT : TF_Model_at o p i sz sl lay ρ σ τ k := hT
  unfold TF_Model_at at hT
  obtain ⟨hL, hp, hi, hT⟩ := hT
  refine ⟨Nat.le_of_ble_eq_true rfl, fun _ _ _ => False, fun _ _ _ => 0, 19, ?_, fun _ _ _ _ _ _ h => h.elim⟩
  obtain ⟨mh, mp0, mp2, mp3, mp4, mp5, mp6, mp7, mp8, mp9, mp10, mp11, mp12, mp13, mp14, mp15, mp16, mp17, mp18, mp19, mp20, mp21, mp22, mp24, mp25, mp26, mp27, mq0, mq2, mq3, mq4, mq5, mq6, mq7, mq8, mq9, mq10, mq11, mq12, mq13, mq14, mq15, mq16, mq17, mq18, mq19, mq20, mq21, mq22, mq24, mq25, mq26, mq27⟩ := (show LModel lay ρ _ from hL)
  unfold wps
  simp only [si_iload_n0, si_iload_n1, si_iload_n2, si_iload_n3, si_iload, si_lload_n0, si_lload_n1, si_lload_n2, si_lload_n3, si_lload, si_aload_n0, si_aload_n1, si_aload_n2, si_aload_n3, si_aload, si_istore_n0, si_istore_n1, si_istore_n2, si_istore_n3, si_istore, si_astore_n0, si_astore_n1, si_astore_n2, si_astore_n3, si_astore, si_lstore_n0, si_lstore_n1, si_lstore_n2, si_lstore_n3, si_lstore, si_iconst, si_bipush, si_sipush, si_ldc, si_ldc2_w, si_lconst0, si_lconst1, si_aconst_null, si_iinc, si_dup, si_dup2, si_iadd, si_isub, si_imul, si_idiv, si_irem, si_iand, si_ior, si_ishl, si_ishr, si_ladd, si_lmul, si_lor, si_lxor, si_lshl, si_lushr, si_lcmp, si_i2b, si_i2l, si_l2i, si_icmp_eq, si_icmp_ne, si_icmp_lt, si_icmp_ge, si_icmp_gt, si_icmp_le, si_if_eq, si_if_ne, si_if_lt, si_if_ge, si_if_gt, si_if_le, si_ifnull, si_ifnonnull, si_goto, si_tableswitch, si_lookupswitch, si_getfield, si_putfield, si_getstatic, si_iaload, si_baload, si_laload, si_aaload, si_iastore, si_bastore, si_lastore, si_aastore, si_arraylength, si_new, si_newarray, si_anewarray, si_invokevirtual, si_invokespecial, si_invokestatic, si_ireturn, si_lreturn, si_areturn, si_return_, pI_e, pL_e, pR_e, pA_r, pA_n, pN_n, pN_r, oI_e, oL_e, oA_r, oA_n, lget_e, lrm1_0, lrm2_0, lrm1_i, lrm1_r, lrm1_n, lrm1_l, lrm2_i, lrm2_r, lrm2_n, lrm2_l, popN_0, popN_s, acat_i, acat_l, acat_r, acat_n, stw_0, stw_s, psh_s, psh_n, wgf_r, wgf_i, wgf_b, wgf_n, wgf_m, wpf_i, wpf_r, wpf_b, wnew_e, callE_e, rbk_0, rbk_1, tsw_0, tsw_s, lsw_0, lsw_s, wp_s, wq_t, wq_f, oV_e, pick_0, pick_s, oZ_e, oY_e, r_Model_at_0, r_Model_at_1, r_Model_at_4, r_Model_at_7, r_Model_at_8, r_Model_at_9, r_Model_at_10, r_Model_at_11, r_Model_at_12, r_Model_at_15, r_Model_at_16, xf_Model_at_13, xd_Model_at, xrb_Model_at, xin_Model_at, andZ_255, mh, mp0, mp2, mp3, mp4, mp5, mp6, mp7, mp8, mp9, mp10, mp11, mp12, mp13, mp14, mp15, mp16, mp17, mp18, mp19, mp20, mp21, mp22, mp24, mp25, mp26, mp27, mq0, mq2, mq3, mq4, mq5, mq6, mq7, mq8, mq9, mq10, mq11, mq12, mq13, mq14, mq15, mq16, mq17, mq18, mq19, mq20, mq21, mq22, mq24, mq25, mq26, mq27, Nat.reduceAdd, Nat.reduceMul, Nat.reduceEqDiff, reduceIte, Int.reduceNeg, Int.reduceLE, Int.reduceLT, Int.reduceAdd, Int.reduceSub, Int.reduceToNat, true_and, and_true, inR_e, Nat.reduceLT, Nat.reduceLeDiff, reduceCtorEq, Nat.add_zero, Nat.zero_add, or_false, false_or, or_true, true_or, not_true_eq_false, not_false_eq_true, Classical.not_not, Nat.add_eq_zero_iff, and_false, false_and, Int.reduceEq, List.mem_cons, List.not_mem_nil, forall_eq_or_imp, forall_eq, false_implies, implies_true, forall_const, aargs_0, aargs_i, aargs_r, aargs_l, aargs_n, nfT_e, eq_self, and_self, Nat.le_refl, fu_s, fu_fu, iu_iu, iu_s, fu_am, fu_a0, fu_0a, iu_l, Nat.reduceBEq, Int.reduceBEq, T_objInit_e]
  clear mp0 mp2 mp3 mp4 mp5 mp6 mp7 mp8 mp9 mp10 mp11 mp12 mp13 mp14 mp15 mp16 mp17 mp18 mp19 mp20 mp21 mp22 mp24 mp25 mp26 mp27
  repeat' (first | assumption | intro _ | apply And.intro)
  all_goals first | omega | assumption
theorem co_X11_380 : CallOK RX11 (.invokevirtual 95) (3, 0, 0, 0, T_Model_at) := call_V S_Model_at (by decide) (ci := 11) rfl (by decide +kernel) (by decide +kernel) (by decide +kernel) (by decide +kernel) (by decide +kernel) (by decide +kernel) T_Model_at_r
def TF_Model_two (o : Nat) (p : Int) (i : Int) (sz sl : Nat) (lay : Nat → Nat × Int) (ρ : Nat → Int → Nat) (σ : Nat → Int → Int) (τ : Nat → Int → Int64) (k : Option AV → Mm → Prop) : Prop := LModel lay ρ o ∧ (0 ≤ p ∧ p < 3) ∧ (0 ≤ i ∧ i + 1 < 8000) ∧ k (some (vI (σ (o + 2) (8000 * p + i) % 256 * 256 + σ (o + 2) (8000 * p + (i + 1)) % 256))) (sz, sl, lay, ρ, σ, τ)
def T_Model_two : Tr := mkT 11 fun o as M k => pI as fun p as => pI as fun i as => as = [] ∧ TF_Model_two o p i M.1 M.2.1 M.2.2.1 M.2.2.2.1 M.2.2.2.2.1 M.2.2.2.2.2 k
theorem T_Model_two_e {o : Nat} {p : Int} {i : Int} {sz sl : Nat} {lay : Nat → Nat × Int} {ρ : Nat → Int → Nat} {σ : Nat → Int → Int} {τ : Nat → Int → Int64} {k : Option AV → Mm → Prop} : T_Model_two [vR o, vI p, vI i] (sz, sl, lay, ρ, σ, τ) k = (lay o = (21, 0) ∧ TF_Model_two o p i sz sl lay ρ σ τ k) := by simp [T_Model_two, mkT_e, pI_e, pR_e, pL_e]
theorem T_Model_two_r (as : List AV) (M : Mm) (k : Option AV → Mm → Prop) (h : T_Model_two as M k) : ∃ b As, as = vR b :: As ∧ M.2.2.1 b = (10 + 11, 0) := by
  obtain ⟨b, As, h1, h2, -⟩ := mkT_r h
  exact ⟨b, As, h1, h2⟩
def tb_Model_two : List (Nat × Option (List Nat) × Instr × List Nat) := [(0, none, .aload_n 0, []), (1, none, .iload_n 1, []), (2, none, .iload_n 2, []), (3, none, .invokevirtual 95, []), (6, none, .sipush 256, []), (9, none, .imul, []), (10, none, .aload_n 0, []), (11, none, .iload_n 1, []), (12, none, .iload_n 2, []), (13, none, .iconst 1, []), (14, none, .iadd, []), (15, none, .invokevirtual 95, []), (18, none, .iadd, []), (19, none, .ireturn, [])]
def P_Model_two : Nat → Option (List Nat) × Instr × List Nat := plk tb_Model_two
theorem r_Model_two_0 : P_Model_two 0 = (none, .aload_n 0, []) := by decide +kernel
theorem r_Model_two_1 : P_Model_two 1 = (none, .iload_n 1, []) := by decide +kernel
theorem r_Model_two_2 : P_Model_two 2 = (none, .iload_n 2, []) := by decide +kernel
theorem r_Model_two_3 : P_Model_two 3 = (none, .invokevirtual 95, []) := by decide +kernel
theorem r_Model_two_6 : P_Model_two 6 = (none, .sipush 256, []) := by decide +kernel
theorem r_Model_two_9 : P_Model_two 9 = (none, .imul, []) := by decide +kernel
theorem r_Model_two_10 : P_Model_two 10 = (none, .aload_n 0, []) := by decide +kernel
theorem r_Model_two_11 : P_Model_two 11 = (none, .iload_n 1, []) := by decide +kernel
theorem r_Model_two_12 : P_Model_two 12 = (none, .iload_n 2, []) := by decide +kernel
theorem r_Model_two_13 : P_Model_two 13 = (none, .iconst 1, []) := by decide +kernel
theorem r_Model_two_14 : P_Model_two 14 = (none, .iadd, []) := by decide +kernel
theorem r_Model_two_15 : P_Model_two 15 = (none, .invokevirtual 95, []) := by decide +kernel
theorem r_Model_two_18 : P_Model_two 18 = (none, .iadd, []) := by decide +kernel
theorem r_Model_two_19 : P_Model_two 19 = (none, .ireturn, []) := by decide +kernel
def E_Model_two : List (Nat × Ent) := [(380, (3, 0, 0, 0, T_Model_at))]
def X_Model_two : Cx := (llk (0, 0, 9) ftX11, llk 99 ntX11, llk none kcX11, llk none klX11, llk dEnt E_Model_two, 1, 0, false)
theorem xok_Model_two : Xok RX11 X_Model_two := xok_of ftX11_ok ntX11_ok kcX11_ok klX11_ok (E := E_Model_two) (List.forall_mem_cons.mpr ⟨co_X11_380, fun _ h => absurd h List.not_mem_nil⟩)
theorem xe_Model_two_380 : xE X_Model_two (4 * 95 + 0) = (3, 0, 0, 0, T_Model_at) := rfl
theorem xd_Model_two : xd X_Model_two = 1 := rfl
theorem xrb_Model_two : xrb X_Model_two = 0 := rfl
theorem xin_Model_two : xin X_Model_two = false := rfl
set_option maxHeartbeats 4000000 in
set_option maxRecDepth 100000 in
theorem S_Model_two : Snd yX11_two cX11_two 3 (some .int) T_Model_two 1 0 0 := by
  refine snd_of (X := X_Model_two) (P := P_Model_two) (tb := tb_Model_two) (own := RX11) (by decide) rfl rfl (by decide +kernel) xok_Model_two rfl rk0 (fun h => by first | rfl | cases h) ?_
  intro as M k has hM hT0
  obtain ⟨sz, sl, lay, ρ, σ, τ⟩ := M
  obtain ⟨o, as1, e, hlo, hT1⟩ := mkT_r hT0
  clear hT0
  subst e
  obtain ⟨p, as2, e, hT2⟩ := pI_x hT1
  clear hT1
  subst e
  obtain ⟨i, as3, e, hT3⟩ := pI_x hT2
  clear hT2
  subst e
  obtain ⟨e, hT⟩ := hT3
  subst e
  replace hlo : lay o = (21, 0) := hlo
  have r_p : -2147483648 ≤ p ∧ p ≤ 2147483647 := has (vI p) (by simp)
  have r_i : -2147483648 ≤ i ∧ i ≤ 2147483647 := has (vI i) (by simp)
  clear has
  replace hM : ∀ a i, -2147483648 ≤ σ a i ∧ σ a i ≤ 2147483647 := hM
  replace hT : TF_Model_two o p i sz sl lay ρ σ τ k := hT
  unfold TF_Model_two at hT
  obtain ⟨hL, hp, hi, hT⟩ := hT
  refine ⟨Nat.le_of_ble_eq_true rfl, fun _ _ _ => False, fun _ _ _ => 0, 22, ?_, fun _ _ _ _ _ _ h => h.elim⟩
  obtain ⟨mh, mp0, mp2, mp3, mp4, mp5, mp6, mp7, mp8, mp9, mp10, mp11, mp12, mp13, mp14, mp15, mp16, mp17, mp18, mp19, mp20, mp21, mp22, mp24, mp25, mp26, mp27, mq0, mq2, mq3, mq4, mq5, mq6, mq7, mq8, mq9, mq10, mq11, mq12, mq13, mq14, mq15, mq16, mq17, mq18, mq19, mq20, mq21, mq22, mq24, mq25, mq26, mq27⟩ := (show LModel lay ρ _ from hL)
  unfold wps
  simp only [si_iload_n0, si_iload_n1, si_iload_n2, si_iload_n3, si_iload, si_lload_n0, si_lload_n1, si_lload_n2, si_lload_n3, si_lload, si_aload_n0, si_aload_n1, si_aload_n2, si_aload_n3, si_aload, si_istore_n0, si_istore_n1, si_istore_n2, si_istore_n3, si_istore, si_astore_n0, si_astore_n1, si_astore_n2, si_astore_n3, si_astore, si_lstore_n0, si_lstore_n1, si_lstore_n2, si_lstore_n3, si_lstore, si_iconst, si_bipush, si_sipush, si_ldc, si_ldc2_w, si_lconst0, si_lconst1, si_aconst_null, si_iinc, si_dup, si_dup2, si_iadd, si_isub, si_imul, si_idiv, si_irem, si_iand, si_ior, si_ishl, si_ishr, si_ladd, si_lmul, si_lor, si_lxor, si_lshl, si_lushr, si_lcmp, si_i2b, si_i2l, si_l2i, si_icmp_eq, si_icmp_ne, si_icmp_lt, si_icmp_ge, si_icmp_gt, si_icmp_le, si_if_eq, si_if_ne, si_if_lt, si_if_ge, si_if_gt, si_if_le, si_ifnull, si_ifnonnull, si_goto, si_tableswitch, si_lookupswitch, si_getfield, si_putfield, si_getstatic, si_iaload, si_baload, si_laload, si_aaload, si_iastore, si_bastore, si_lastore, si_aastore, si_arraylength, si_new, si_newarray, si_anewarray, si_invokevirtual, si_invokespecial, si_invokestatic, si_ireturn, si_lreturn, si_areturn, si_return_, pI_e, pL_e, pR_e, pA_r, pA_n, pN_n, pN_r, oI_e, oL_e, oA_r, oA_n, lget_e, lrm1_0, lrm2_0, lrm1_i, lrm1_r, lrm1_n, lrm1_l, lrm2_i, lrm2_r, lrm2_n, lrm2_l, popN_0, popN_s, acat_i, acat_l, acat_r, acat_n, stw_0, stw_s, psh_s, psh_n, wgf_r, wgf_i, wgf_b, wgf_n, wgf_m, wpf_i, wpf_r, wpf_b, wnew_e, callE_e, rbk_0, rbk_1, tsw_0, tsw_s, lsw_0, lsw_s, wp_s, wq_t, wq_f, oV_e, pick_0, pick_s, oZ_e, oY_e, r_Model_two_0, r_Model_two_1, r_Model_two_2, r_Model_two_3, r_Model_two_6, r_Model_two_9, r_Model_two_10, r_Model_two_11, r_Model_two_12, r_Model_two_13, r_Model_two_14, r_Model_two_15, r_Model_two_18, r_Model_two_19, xe_Model_two_380, xd_Model_two, xrb_Model_two, xin_Model_two, T_Model_at_e, TF_Model_at, mh, mp0, mp2, mp3, mp4, mp5, mp6, mp7, mp8, mp9, mp10, mp11, mp12, mp13, mp14, mp15, mp16, mp17, mp18, mp19, mp20, mp21, mp22, mp24, mp25, mp26, mp27, mq0, mq2, mq3, mq4, mq5, mq6, mq7, mq8, mq9, mq10, mq11, mq12, mq13, mq14, mq15, mq16, mq17, mq18, mq19, mq20, mq21, mq22, mq24, mq25, mq26, mq27, Nat.reduceAdd, Nat.reduceMul, Nat.reduceEqDiff, reduceIte, Int.reduceNeg, Int.reduceLE, Int.reduceLT, Int.reduceAdd, Int.reduceSub, Int.reduceToNat, true_and, and_true, inR_e, Nat.reduceLT, Nat.reduceLeDiff, reduceCtorEq, Nat.add_zero, Nat.zero_add, or_false, false_or, or_true, true_or, not_true_eq_false, not_false_eq_true, Classical.not_not, Nat.add_eq_zero_iff, and_false, false_and, Int.reduceEq, List.mem_cons, List.not_mem_nil, forall_eq_or_imp, forall_eq, false_implies, implies_true, forall_const, aargs_0, aargs_i, aargs_r, aargs_l, aargs_n, nfT_e, eq_self, and_self, Nat.le_refl, fu_s, fu_fu, iu_iu, iu_s, fu_am, fu_a0, fu_0a, iu_l, Nat.reduceBEq, Int.reduceBEq, T_objInit_e]
  clear mp0 mp2 mp3 mp4 mp5 mp6 mp7 mp8 mp9 mp10 mp11 mp12 mp13 mp14 mp15 mp16 mp17 mp18 mp19 mp20 mp21 mp22 mp24 mp25 mp26 mp27
  repeat' (first | assumption | intro _ | apply And.intro)
  all_goals first | omega | assumption
def TF_Model_kindPlace (o : Nat) (p : Int) (x : Int) (sz sl : Nat) (lay : Nat → Nat × Int) (ρ : Nat → Int → Nat) (σ : Nat → Int → Int) (τ : Nat → Int → Int64) (k : Option AV → Mm → Prop) : Prop := LModel lay ρ o ∧ (0 ≤ p ∧ p < 3) ∧ (0 ≤ x ∧ x < 40 → k (some (vI (σ (o + 11) (40 * p + x)))) (sz, sl, lay, ρ, σ, τ)) ∧ (¬ (0 ≤ x ∧ x < 40) → k (some (vI (-1))) (sz, sl, lay, ρ, σ, τ))
def T_Model_kindPlace : Tr := mkT 11 fun o as M k => pI as fun p as => pI as fun x as => as = [] ∧ TF_Model_kindPlace o p x M.1 M.2.1 M.2.2.1 M.2.2.2.1 M.2.2.2.2.1 M.2.2.2.2.2 k
theorem T_Model_kindPlace_e {o : Nat} {p : Int} {x : Int} {sz sl : Nat} {lay : Nat → Nat × Int} {ρ : Nat → Int → Nat} {σ : Nat → Int → Int} {τ : Nat → Int → Int64} {k : Option AV → Mm → Prop} : T_Model_kindPlace [vR o, vI p, vI x] (sz, sl, lay, ρ, σ, τ) k = (lay o = (21, 0) ∧ TF_Model_kindPlace o p x sz sl lay ρ σ τ k) := by simp [T_Model_kindPlace, mkT_e, pI_e, pR_e, pL_e]
theorem T_Model_kindPlace_r (as : List AV) (M : Mm) (k : Option AV → Mm → Prop) (h : T_Model_kindPlace as M k) : ∃ b As, as = vR b :: As ∧ M.2.2.1 b = (10 + 11, 0) := by
  obtain ⟨b, As, h1, h2, -⟩ := mkT_r h
  exact ⟨b, As, h1, h2⟩
def tb_Model_kindPlace : List (Nat × Option (List Nat) × Instr × List Nat) := [(0, none, .iload_n 2, []), (1, none, .ifCond .lt 9, [10]), (4, none, .iload_n 2, []), (5, none, .bipush 40, []), (7, none, .if_icmp .lt 7, [14]), (10, none, .iconst (-1), []), (11, none, .goto 14, [25]), (14, none, .aload_n 0, []), (15, none, .getfield 41, []), (18, none, .bipush 40, []), (20, none, .iload_n 1, []), (21, none, .imul, []), (22, none, .iload_n 2, []), (23, none, .iadd, []), (24, none, .iaload, []), (25, none, .ireturn, [])]
def P_Model_kindPlace : Nat → Option (List Nat) × Instr × List Nat := plk tb_Model_kindPlace
theorem r_Model_kindPlace_0 : P_Model_kindPlace 0 = (none, .iload_n 2, []) := by decide +kernel
theorem r_Model_kindPlace_1 : P_Model_kindPlace 1 = (none, .ifCond .lt 9, [10]) := by decide +kernel
theorem r_Model_kindPlace_4 : P_Model_kindPlace 4 = (none, .iload_n 2, []) := by decide +kernel
theorem r_Model_kindPlace_5 : P_Model_kindPlace 5 = (none, .bipush 40, []) := by decide +kernel
theorem r_Model_kindPlace_7 : P_Model_kindPlace 7 = (none, .if_icmp .lt 7, [14]) := by decide +kernel
theorem r_Model_kindPlace_10 : P_Model_kindPlace 10 = (none, .iconst (-1), []) := by decide +kernel
theorem r_Model_kindPlace_11 : P_Model_kindPlace 11 = (none, .goto 14, [25]) := by decide +kernel
theorem r_Model_kindPlace_14 : P_Model_kindPlace 14 = (none, .aload_n 0, []) := by decide +kernel
theorem r_Model_kindPlace_15 : P_Model_kindPlace 15 = (none, .getfield 41, []) := by decide +kernel
theorem r_Model_kindPlace_18 : P_Model_kindPlace 18 = (none, .bipush 40, []) := by decide +kernel
theorem r_Model_kindPlace_20 : P_Model_kindPlace 20 = (none, .iload_n 1, []) := by decide +kernel
theorem r_Model_kindPlace_21 : P_Model_kindPlace 21 = (none, .imul, []) := by decide +kernel
theorem r_Model_kindPlace_22 : P_Model_kindPlace 22 = (none, .iload_n 2, []) := by decide +kernel
theorem r_Model_kindPlace_23 : P_Model_kindPlace 23 = (none, .iadd, []) := by decide +kernel
theorem r_Model_kindPlace_24 : P_Model_kindPlace 24 = (none, .iaload, []) := by decide +kernel
theorem r_Model_kindPlace_25 : P_Model_kindPlace 25 = (none, .ireturn, []) := by decide +kernel
def E_Model_kindPlace : List (Nat × Ent) := []
def X_Model_kindPlace : Cx := (llk (0, 0, 9) ftX11, llk 99 ntX11, llk none kcX11, llk none klX11, llk dEnt E_Model_kindPlace, 0, 0, false)
theorem xok_Model_kindPlace : Xok RX11 X_Model_kindPlace := xok_of ftX11_ok ntX11_ok kcX11_ok klX11_ok (E := E_Model_kindPlace) (fun _ h => absurd h List.not_mem_nil)
theorem xf_Model_kindPlace_41 : xfl X_Model_kindPlace 41 = (11, 11, 1) := by decide +kernel
theorem xd_Model_kindPlace : xd X_Model_kindPlace = 0 := rfl
theorem xrb_Model_kindPlace : xrb X_Model_kindPlace = 0 := rfl
theorem xin_Model_kindPlace : xin X_Model_kindPlace = false := rfl
set_option maxHeartbeats 4000000 in
set_option maxRecDepth 100000 in
theorem S_Model_kindPlace : Snd yX11_kindPlace cX11_kindPlace 3 (some .int) T_Model_kindPlace 0 0 0 := by
  refine snd_of (X := X_Model_kindPlace) (P := P_Model_kindPlace) (tb := tb_Model_kindPlace) (own := RX11) (by decide) rfl rfl (by decide +kernel) xok_Model_kindPlace rfl rk0 (fun h => by first | rfl | cases h) ?_
  intro as M k has hM hT0
  obtain ⟨sz, sl, lay, ρ, σ, τ⟩ := M
  obtain ⟨o, as1, e, hlo, hT1⟩ := mkT_r hT0
  clear hT0
  subst e
  obtain ⟨p, as2, e, hT2⟩ := pI_x hT1
  clear hT1
  subst e
  obtain ⟨x, as3, e, hT3⟩ := pI_x hT2
  clear hT2
  subst e
  obtain ⟨e, hT⟩ := hT3
  subst e
  replace hlo : lay o = (21, 0) := hlo
  have r_p : -2147483648 ≤ p ∧ p ≤ 2147483647 := has (vI p) (by simp)
  have r_x : -2147483648 ≤ x ∧ x ≤ 2147483647 := has (vI x) (by simp)
  clear has
  replace hM : ∀ a i, -2147483648 ≤ σ a i ∧ σ a i ≤ 2147483647 := hM
  replace hT : TF_Model_kindPlace o p x sz sl lay ρ σ τ k := hT
  unfold TF_Model_kindPlace at hT
  obtain ⟨hL, hp, h1, h0⟩ := hT
  refine ⟨Nat.le_of_ble_eq_true rfl, fun _ _ _ => False, fun _ _ _ => 0, 24, ?_, fun _ _ _ _ _ _ h => h.elim⟩
  obtain ⟨mh, mp0, mp2, mp3, mp4, mp5, mp6, mp7, mp8, mp9, mp10, mp11, mp12, mp13, mp14, mp15, mp16, mp17, mp18, mp19, mp20, mp21, mp22, mp24, mp25, mp26, mp27, mq0, mq2, mq3, mq4, mq5, mq6, mq7, mq8, mq9, mq10, mq11, mq12, mq13, mq14, mq15, mq16, mq17, mq18, mq19, mq20, mq21, mq22, mq24, mq25, mq26, mq27⟩ := (show LModel lay ρ _ from hL)
  unfold wps
  simp only [si_iload_n0, si_iload_n1, si_iload_n2, si_iload_n3, si_iload, si_lload_n0, si_lload_n1, si_lload_n2, si_lload_n3, si_lload, si_aload_n0, si_aload_n1, si_aload_n2, si_aload_n3, si_aload, si_istore_n0, si_istore_n1, si_istore_n2, si_istore_n3, si_istore, si_astore_n0, si_astore_n1, si_astore_n2, si_astore_n3, si_astore, si_lstore_n0, si_lstore_n1, si_lstore_n2, si_lstore_n3, si_lstore, si_iconst, si_bipush, si_sipush, si_ldc, si_ldc2_w, si_lconst0, si_lconst1, si_aconst_null, si_iinc, si_dup, si_dup2, si_iadd, si_isub, si_imul, si_idiv, si_irem, si_iand, si_ior, si_ishl, si_ishr, si_ladd, si_lmul, si_lor, si_lxor, si_lshl, si_lushr, si_lcmp, si_i2b, si_i2l, si_l2i, si_icmp_eq, si_icmp_ne, si_icmp_lt, si_icmp_ge, si_icmp_gt, si_icmp_le, si_if_eq, si_if_ne, si_if_lt, si_if_ge, si_if_gt, si_if_le, si_ifnull, si_ifnonnull, si_goto, si_tableswitch, si_lookupswitch, si_getfield, si_putfield, si_getstatic, si_iaload, si_baload, si_laload, si_aaload, si_iastore, si_bastore, si_lastore, si_aastore, si_arraylength, si_new, si_newarray, si_anewarray, si_invokevirtual, si_invokespecial, si_invokestatic, si_ireturn, si_lreturn, si_areturn, si_return_, pI_e, pL_e, pR_e, pA_r, pA_n, pN_n, pN_r, oI_e, oL_e, oA_r, oA_n, lget_e, lrm1_0, lrm2_0, lrm1_i, lrm1_r, lrm1_n, lrm1_l, lrm2_i, lrm2_r, lrm2_n, lrm2_l, popN_0, popN_s, acat_i, acat_l, acat_r, acat_n, stw_0, stw_s, psh_s, psh_n, wgf_r, wgf_i, wgf_b, wgf_n, wgf_m, wpf_i, wpf_r, wpf_b, wnew_e, callE_e, rbk_0, rbk_1, tsw_0, tsw_s, lsw_0, lsw_s, wp_s, wq_t, wq_f, oV_e, pick_0, pick_s, oZ_e, oY_e, r_Model_kindPlace_0, r_Model_kindPlace_1, r_Model_kindPlace_4, r_Model_kindPlace_5, r_Model_kindPlace_7, r_Model_kindPlace_10, r_Model_kindPlace_11, r_Model_kindPlace_14, r_Model_kindPlace_15, r_Model_kindPlace_18, r_Model_kindPlace_20, r_Model_kindPlace_21, r_Model_kindPlace_22, r_Model_kindPlace_23, r_Model_kindPlace_24, r_Model_kindPlace_25, xf_Model_kindPlace_41, xd_Model_kindPlace, xrb_Model_kindPlace, xin_Model_kindPlace, mh, mp0, mp2, mp3, mp4, mp5, mp6, mp7, mp8, mp9, mp10, mp11, mp12, mp13, mp14, mp15, mp16, mp17, mp18, mp19, mp20, mp21, mp22, mp24, mp25, mp26, mp27, mq0, mq2, mq3, mq4, mq5, mq6, mq7, mq8, mq9, mq10, mq11, mq12, mq13, mq14, mq15, mq16, mq17, mq18, mq19, mq20, mq21, mq22, mq24, mq25, mq26, mq27, Nat.reduceAdd, Nat.reduceMul, Nat.reduceEqDiff, reduceIte, Int.reduceNeg, Int.reduceLE, Int.reduceLT, Int.reduceAdd, Int.reduceSub, Int.reduceToNat, true_and, and_true, inR_e, Nat.reduceLT, Nat.reduceLeDiff, reduceCtorEq, Nat.add_zero, Nat.zero_add, or_false, false_or, or_true, true_or, not_true_eq_false, not_false_eq_true, Classical.not_not, Nat.add_eq_zero_iff, and_false, false_and, Int.reduceEq, List.mem_cons, List.not_mem_nil, forall_eq_or_imp, forall_eq, false_implies, implies_true, forall_const, aargs_0, aargs_i, aargs_r, aargs_l, aargs_n, nfT_e, eq_self, and_self, Nat.le_refl, fu_s, fu_fu, iu_iu, iu_s, fu_am, fu_a0, fu_0a, iu_l, Nat.reduceBEq, Int.reduceBEq, T_objInit_e]
  clear mp0 mp2 mp3 mp4 mp5 mp6 mp7 mp8 mp9 mp10 mp11 mp12 mp13 mp14 mp15 mp16 mp17 mp18 mp19 mp20 mp21 mp22 mp24 mp25 mp26 mp27
  repeat' (first | assumption | intro _ | apply And.intro)
  all_goals first | omega | assumption | (exact h1 (by omega)) | (exact h0 (by omega)) | (exact h1 ⟨by omega, by omega⟩) | (exact h0 ⟨by omega, by omega⟩) | (exact h1 ⟨by omega, by omega, by omega⟩) | (exact h0 ⟨by omega, by omega, by omega⟩)
def TF_Model_find (o : Nat) (p : Int) (x : Int) (sz sl : Nat) (lay : Nat → Nat × Int) (ρ : Nat → Int → Nat) (σ : Nat → Int → Int) (τ : Nat → Int → Int64) (k : Option AV → Mm → Prop) : Prop := LModel lay ρ o ∧ (0 ≤ p ∧ p < 3) ∧ (0 ≤ x ∧ x < 65536 → 0 ≤ σ (o + 26) (65536 * p + x)) ∧ (0 ≤ x ∧ x < 65536 → k (some (vI (σ (o + 26) (65536 * p + x) - 1))) (sz, sl, lay, ρ, σ, τ)) ∧ (¬ (0 ≤ x ∧ x < 65536) → k (some (vI (-1))) (sz, sl, lay, ρ, σ, τ))
def T_Model_find : Tr := mkT 11 fun o as M k => pI as fun p as => pI as fun x as => as = [] ∧ TF_Model_find o p x M.1 M.2.1 M.2.2.1 M.2.2.2.1 M.2.2.2.2.1 M.2.2.2.2.2 k
theorem T_Model_find_e {o : Nat} {p : Int} {x : Int} {sz sl : Nat} {lay : Nat → Nat × Int} {ρ : Nat → Int → Nat} {σ : Nat → Int → Int} {τ : Nat → Int → Int64} {k : Option AV → Mm → Prop} : T_Model_find [vR o, vI p, vI x] (sz, sl, lay, ρ, σ, τ) k = (lay o = (21, 0) ∧ TF_Model_find o p x sz sl lay ρ σ τ k) := by simp [T_Model_find, mkT_e, pI_e, pR_e, pL_e]
theorem T_Model_find_r (as : List AV) (M : Mm) (k : Option AV → Mm → Prop) (h : T_Model_find as M k) : ∃ b As, as = vR b :: As ∧ M.2.2.1 b = (10 + 11, 0) := by
  obtain ⟨b, As, h1, h2, -⟩ := mkT_r h
  exact ⟨b, As, h1, h2⟩
def tb_Model_find : List (Nat × Option (List Nat) × Instr × List Nat) := [(0, none, .iload_n 2, []), (1, none, .ifCond .lt 9, [10]), (4, none, .iload_n 2, []), (5, none, .ldc 105, []), (7, none, .if_icmp .le 7, [14]), (10, none, .iconst (-1), []), (11, none, .goto 16, [27]), (14, none, .aload_n 0, []), (15, none, .getfield 88, []), (18, none, .ldc 106, []), (20, none, .iload_n 1, []), (21, none, .imul, []), (22, none, .iload_n 2, []), (23, none, .iadd, []), (24, none, .iaload, []), (25, none, .iconst 1, []), (26, none, .isub, []), (27, none, .ireturn, [])]
def P_Model_find : Nat → Option (List Nat) × Instr × List Nat := plk tb_Model_find
theorem r_Model_find_0 : P_Model_find 0 = (none, .iload_n 2, []) := by decide +kernel
theorem r_Model_find_1 : P_Model_find 1 = (none, .ifCond .lt 9, [10]) := by decide +kernel
theorem r_Model_find_4 : P_Model_find 4 = (none, .iload_n 2, []) := by decide +kernel
theorem r_Model_find_5 : P_Model_find 5 = (none, .ldc 105, []) := by decide +kernel
theorem r_Model_find_7 : P_Model_find 7 = (none, .if_icmp .le 7, [14]) := by decide +kernel
theorem r_Model_find_10 : P_Model_find 10 = (none, .iconst (-1), []) := by decide +kernel
theorem r_Model_find_11 : P_Model_find 11 = (none, .goto 16, [27]) := by decide +kernel
theorem r_Model_find_14 : P_Model_find 14 = (none, .aload_n 0, []) := by decide +kernel
theorem r_Model_find_15 : P_Model_find 15 = (none, .getfield 88, []) := by decide +kernel
theorem r_Model_find_18 : P_Model_find 18 = (none, .ldc 106, []) := by decide +kernel
theorem r_Model_find_20 : P_Model_find 20 = (none, .iload_n 1, []) := by decide +kernel
theorem r_Model_find_21 : P_Model_find 21 = (none, .imul, []) := by decide +kernel
theorem r_Model_find_22 : P_Model_find 22 = (none, .iload_n 2, []) := by decide +kernel
theorem r_Model_find_23 : P_Model_find 23 = (none, .iadd, []) := by decide +kernel
theorem r_Model_find_24 : P_Model_find 24 = (none, .iaload, []) := by decide +kernel
theorem r_Model_find_25 : P_Model_find 25 = (none, .iconst 1, []) := by decide +kernel
theorem r_Model_find_26 : P_Model_find 26 = (none, .isub, []) := by decide +kernel
theorem r_Model_find_27 : P_Model_find 27 = (none, .ireturn, []) := by decide +kernel
def E_Model_find : List (Nat × Ent) := []
def X_Model_find : Cx := (llk (0, 0, 9) ftX11, llk 99 ntX11, llk none kcX11, llk none klX11, llk dEnt E_Model_find, 0, 0, false)
theorem xok_Model_find : Xok RX11 X_Model_find := xok_of ftX11_ok ntX11_ok kcX11_ok klX11_ok (E := E_Model_find) (fun _ h => absurd h List.not_mem_nil)
theorem xf_Model_find_88 : xfl X_Model_find 88 = (11, 27, 1) := by decide +kernel
theorem xk_Model_find_105 : xkc X_Model_find 105 = some 65535 := by decide +kernel
theorem xk_Model_find_106 : xkc X_Model_find 106 = some 65536 := by decide +kernel
theorem xd_Model_find : xd X_Model_find = 0 := rfl
theorem xrb_Model_find : xrb X_Model_find = 0 := rfl
theorem xin_Model_find : xin X_Model_find = false := rfl
set_option maxHeartbeats 4000000 in
set_option maxRecDepth 100000 in
theorem S_Model_find : Snd yX11_find cX11_find 3 (some .int) T_Model_find 0 0 0 := by
  refine snd_of (X := X_Model_find) (P := P_Model_find) (tb := tb_Model_find) (own := RX11) (by decide) rfl rfl (by decide +kernel) xok_Model_find rfl rk0 (fun h => by first | rfl | cases h) ?_
  intro as M k has hM hT0
  obtain ⟨sz, sl, lay, ρ, σ, τ⟩ := M
  obtain ⟨o, as1, e, hlo, hT1⟩ := mkT_r hT0
  clear hT0
  subst e
  obtain ⟨p, as2, e, hT2⟩ := pI_x hT1
  clear hT1
  subst e
  obtain ⟨x, as3, e, hT3⟩ := pI_x hT2
  clear hT2
  subst e
  obtain ⟨e, hT⟩ := hT3
  subst e
  replace hlo : lay o = (21, 0) := hlo
  have r_p : -2147483648 ≤ p ∧ p ≤ 2147483647 := has (vI p) (by simp)
  have r_x : -2147483648 ≤ x ∧ x ≤ 2147483647 := has (vI x) (by simp)
  clear has
  replace hM : ∀ a i, -2147483648 ≤ σ a i ∧ σ a i ≤ 2147483647 := hM
  replace hT : TF_Model_find o p x sz sl lay ρ σ τ k := hT
  unfold TF_Model_find at hT
  obtain ⟨hL, hp, hz, h1, h0⟩ := hT
  have hz2 := hM (o + 26) (65536 * p + x)
  refine ⟨Nat.le_of_ble_eq_true rfl, fun _ _ _ => False, fun _ _ _ => 0, 26, ?_, fun _ _ _ _ _ _ h => h.elim⟩
  obtain ⟨mh, mp0, mp2, mp3, mp4, mp5, mp6, mp7, mp8, mp9, mp10, mp11, mp12, mp13, mp14, mp15, mp16, mp17, mp18, mp19, mp20, mp21, mp22, mp24, mp25, mp26, mp27, mq0, mq2, mq3, mq4, mq5, mq6, mq7, mq8, mq9, mq10, mq11, mq12, mq13, mq14, mq15, mq16, mq17, mq18, mq19, mq20, mq21, mq22, mq24, mq25, mq26, mq27⟩ := (show LModel lay ρ _ from hL)
  unfold wps
  simp only [si_iload_n0, si_iload_n1, si_iload_n2, si_iload_n3, si_iload, si_lload_n0, si_lload_n1, si_lload_n2, si_lload_n3, si_lload, si_aload_n0, si_aload_n1, si_aload_n2, si_aload_n3, si_aload, si_istore_n0, si_istore_n1, si_istore_n2, si_istore_n3, si_istore, si_astore_n0, si_astore_n1, si_astore_n2, si_astore_n3, si_astore, si_lstore_n0, si_lstore_n1, si_lstore_n2, si_lstore_n3, si_lstore, si_iconst, si_bipush, si_sipush, si_ldc, si_ldc2_w, si_lconst0, si_lconst1, si_aconst_null, si_iinc, si_dup, si_dup2, si_iadd, si_isub, si_imul, si_idiv, si_irem, si_iand, si_ior, si_ishl, si_ishr, si_ladd, si_lmul, si_lor, si_lxor, si_lshl, si_lushr, si_lcmp, si_i2b, si_i2l, si_l2i, si_icmp_eq, si_icmp_ne, si_icmp_lt, si_icmp_ge, si_icmp_gt, si_icmp_le, si_if_eq, si_if_ne, si_if_lt, si_if_ge, si_if_gt, si_if_le, si_ifnull, si_ifnonnull, si_goto, si_tableswitch, si_lookupswitch, si_getfield, si_putfield, si_getstatic, si_iaload, si_baload, si_laload, si_aaload, si_iastore, si_bastore, si_lastore, si_aastore, si_arraylength, si_new, si_newarray, si_anewarray, si_invokevirtual, si_invokespecial, si_invokestatic, si_ireturn, si_lreturn, si_areturn, si_return_, pI_e, pL_e, pR_e, pA_r, pA_n, pN_n, pN_r, oI_e, oL_e, oA_r, oA_n, lget_e, lrm1_0, lrm2_0, lrm1_i, lrm1_r, lrm1_n, lrm1_l, lrm2_i, lrm2_r, lrm2_n, lrm2_l, popN_0, popN_s, acat_i, acat_l, acat_r, acat_n, stw_0, stw_s, psh_s, psh_n, wgf_r, wgf_i, wgf_b, wgf_n, wgf_m, wpf_i, wpf_r, wpf_b, wnew_e, callE_e, rbk_0, rbk_1, tsw_0, tsw_s, lsw_0, lsw_s, wp_s, wq_t, wq_f, oV_e, pick_0, pick_s, oZ_e, oY_e, r_Model_find_0, r_Model_find_1, r_Model_find_4, r_Model_find_5, r_Model_find_7, r_Model_find_10, r_Model_find_11, r_Model_find_14, r_Model_find_15, r_Model_find_18, r_Model_find_20, r_Model_find_21, r_Model_find_22, r_Model_find_23, r_Model_find_24, r_Model_find_25, r_Model_find_26, r_Model_find_27, xf_Model_find_88, xk_Model_find_105, xk_Model_find_106, xd_Model_find, xrb_Model_find, xin_Model_find, mh, mp0, mp2, mp3, mp4, mp5, mp6, mp7, mp8, mp9, mp10, mp11, mp12, mp13, mp14, mp15, mp16, mp17, mp18, mp19, mp20, mp21, mp22, mp24, mp25, mp26, mp27, mq0, mq2, mq3, mq4, mq5, mq6, mq7, mq8, mq9, mq10, mq11, mq12, mq13, mq14, mq15, mq16, mq17, mq18, mq19, mq20, mq21, mq22, mq24, mq25, mq26, mq27, Nat.reduceAdd, Nat.reduceMul, Nat.reduceEqDiff, reduceIte, Int.reduceNeg, Int.reduceLE, Int.reduceLT, Int.reduceAdd, Int.reduceSub, Int.reduceToNat, true_and, and_true, inR_e, Nat.reduceLT, Nat.reduceLeDiff, reduceCtorEq, Nat.add_zero, Nat.zero_add, or_false, false_or, or_true, true_or, not_true_eq_false, not_false_eq_true, Classical.not_not, Nat.add_eq_zero_iff, and_false, false_and, Int.reduceEq, List.mem_cons, List.not_mem_nil, forall_eq_or_imp, forall_eq, false_implies, implies_true, forall_const, aargs_0, aargs_i, aargs_r, aargs_l, aargs_n, nfT_e, eq_self, and_self, Nat.le_refl, fu_s, fu_fu, iu_iu, iu_s, fu_am, fu_a0, fu_0a, iu_l, Nat.reduceBEq, Int.reduceBEq, T_objInit_e]
  clear mp0 mp2 mp3 mp4 mp5 mp6 mp7 mp8 mp9 mp10 mp11 mp12 mp13 mp14 mp15 mp16 mp17 mp18 mp19 mp20 mp21 mp22 mp24 mp25 mp26 mp27
  repeat' (first | assumption | intro _ | apply And.intro)
  all_goals first | omega | assumption | (exact h1 (by omega)) | (exact h0 (by omega)) | (exact h1 ⟨by omega, by omega⟩) | (exact h0 ⟨by omega, by omega⟩) | (exact h1 ⟨by omega, by omega, by omega⟩) | (exact h0 ⟨by omega, by omega, by omega⟩)

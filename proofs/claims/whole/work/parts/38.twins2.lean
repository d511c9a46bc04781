theorem mul_R6 {a b : Int} (ha : -1 ≤ a ∧ a ≤ 599) (hb : 0 ≤ b ∧ b ≤ 100000) : -100000 ≤ a * b ∧ a * b ≤ 59900000 := by
  have h1 := Int.mul_le_mul_of_nonneg_right ha.1 hb.1
  have h2 := Int.mul_le_mul_of_nonneg_right ha.2 hb.1
  omega
theorem LkT.fr {σ σ2 : Nat → Int → Int} {τ : Nat → Int → Int64} {o m t : Nat} (hf : Fr σ σ2 o m) (ht : t + 13 ≤ o) : LkT σ2 τ t = LkT σ τ t := by
  funext i j
  unfold LkT
  rw [hf.lo (t := t + 2) (by omega), hf.lo (t := t + 3) (by omega), hf.lo (t := t + 8) (by omega)]
theorem prZ.fr {σ σ2 : Nat → Int → Int} {τ : Nat → Int → Int64} {o m t : Nat} (hf : Fr σ σ2 o m) (ht : t + 13 ≤ o) : prZ σ2 τ t = prZ σ τ t := by
  funext i
  unfold prZ
  rw [hf.lo (t := t + 8) (by omega)]
def GpT (σ : Nat → Int → Int) (τ : Nat → Int → Int64) (t : Nat) (x : Int) : Prop := Fst σ τ t x ∧ 2 ≤ Mem σ τ t x (σ t 12).toNat
/-- the groups, in the order of their first rows -/
def TwS (σ σ2 : Nat → Int → Int) (τ : Nat → Int → Int64) (t o : Nat) : Prop := σ2 o 3 = cntP (GpT σ τ t) (σ t 12).toNat ∧ ∀ x : Nat, x < σ t 12 → GpT σ τ t x → σ2 (o + 1) (cntP (GpT σ τ t) x) = x ∧ σ2 (o + 2) (cntP (GpT σ τ t) x) = Mem σ τ t x (σ t 12).toNat
theorem TwI.gp {σ : Nat → Int → Int} {τ : Nat → Int → Int64} {t : Nat} {H M P : Int → Int} {cnt : Int} (h : TwI σ τ t H M P cnt (σ t 12).toNat) : ∀ x : Nat, x ≤ σ t 12 → cntP (fun i => 2 ≤ M i) (cntP (Fst σ τ t) x).toNat = cntP (GpT σ τ t) x
  | 0, _ => rfl
  | x + 1, hx => by
    have ih := h.gp x (by omega)
    have hr := @cntP_R (Fst σ τ t) x
    by_cases f : Fst σ τ t x
    · have h2 := h.2.1 x (by omega) f
      rw [cntP_st f, show (cntP (Fst σ τ t) x + 1).toNat = (cntP (Fst σ τ t) x).toNat + 1 by omega]
      have e : (((cntP (Fst σ τ t) x).toNat : Nat) : Int) = cntP (Fst σ τ t) x := by omega
      by_cases g : 2 ≤ Mem σ τ t x (σ t 12).toNat
      · rw [cntP_st (P := fun i => 2 ≤ M i) (by rw [e, h2.2.1]; exact g), cntP_st (P := GpT σ τ t) ⟨f, g⟩, ih]
      · rw [cntP_sf (P := fun i => 2 ≤ M i) (by rw [e, h2.2.1]; exact g), cntP_sf (P := GpT σ τ t) (fun z => g z.2), ih]
    · rw [cntP_sf f, cntP_sf (P := GpT σ τ t) (fun z => f z.1), ih]
theorem co_X9_100 : CallOK RX9 (.invokevirtual 25) (1, 0, 0, 0, T_Things_size) := call_V S_Things_size (by decide) (ci := 7) rfl (by decide +kernel) (by decide +kernel) (by decide +kernel) (by decide +kernel) (by decide +kernel) (by decide +kernel) T_Things_size_r
theorem co_X9_124 : CallOK RX9 (.invokevirtual 31) (2, 1, 0, 0, T_Things_isRow) := call_V S_Things_isRow (by decide) (ci := 7) rfl (by decide +kernel) (by decide +kernel) (by decide +kernel) (by decide +kernel) (by decide +kernel) (by decide +kernel) T_Things_isRow_r
theorem co_X9_140 : CallOK RX9 (.invokevirtual 35) (3, 4, 0, 0, T_Twins_join) := call_V S_Twins_join (by decide) (ci := 9) rfl (by decide +kernel) (by decide +kernel) (by decide +kernel) (by decide +kernel) (by decide +kernel) (by decide +kernel) T_Twins_join_r
theorem co_X9_156 : CallOK RX9 (.invokevirtual 39) (1, 0, 0, 0, T_Twins_dropLone) := call_V S_Twins_dropLone (by decide) (ci := 9) rfl (by decide +kernel) (by decide +kernel) (by decide +kernel) (by decide +kernel) (by decide +kernel) (by decide +kernel) T_Twins_dropLone_r
def TF_Twins_settle (o : Nat) (t : Nat) (sz sl : Nat) (lay : Nat → Nat × Int) (ρ : Nat → Int → Nat) (σ : Nat → Int → Int) (τ : Nat → Int → Int64) (k : Option AV → Mm → Prop) : Prop := LTwins lay ρ o ∧ LThings lay ρ t ∧ (0 ≤ σ t 12 ∧ σ t 12 ≤ 600) ∧ (t + 13 ≤ o) ∧ (∀ i, 0 ≤ i → i ≤ σ t 12 → 0 ≤ σ (t + 8) i ∧ σ (t + 8) i ≤ 8000) ∧ (∀ i, 0 ≤ i ∧ i < σ t 12 → 0 ≤ σ (t + 8) (i + 1) - σ (t + 8) i) ∧ (∀ σ2 : Nat → Int → Int, Fr σ σ2 o 3 → TwS σ σ2 τ t o → k none (sz, sl, lay, ρ, σ2, τ))
def T_Twins_settle : Tr := mkT 9 fun o as M k => pR as fun t as => as = [] ∧ TF_Twins_settle o t M.1 M.2.1 M.2.2.1 M.2.2.2.1 M.2.2.2.2.1 M.2.2.2.2.2 k
theorem T_Twins_settle_e {o : Nat} {t : Nat} {sz sl : Nat} {lay : Nat → Nat × Int} {ρ : Nat → Int → Nat} {σ : Nat → Int → Int} {τ : Nat → Int → Int64} {k : Option AV → Mm → Prop} : T_Twins_settle [vR o, vR t] (sz, sl, lay, ρ, σ, τ) k = (lay o = (19, 0) ∧ TF_Twins_settle o t sz sl lay ρ σ τ k) := by simp [T_Twins_settle, mkT_e, pI_e, pR_e, pL_e]
theorem T_Twins_settle_r (as : List AV) (M : Mm) (k : Option AV → Mm → Prop) (h : T_Twins_settle as M k) : ∃ b As, as = vR b :: As ∧ M.2.2.1 b = (10 + 9, 0) := by
  obtain ⟨b, As, h1, h2, -⟩ := mkT_r h
  exact ⟨b, As, h1, h2⟩
def tb_Twins_settle : List (Nat × Option (List Nat) × Instr × List Nat) := [(0, none, .aload_n 0, []), (1, none, .iconst 0, []), (2, none, .putfield 21, []), (5, none, .iconst 0, []), (6, none, .istore_n 2, []), (7, some [0, 1, 2], .iload_n 2, []), (8, none, .aload_n 1, []), (9, none, .invokevirtual 25, []), (12, none, .if_icmp .ge 23, [35]), (15, none, .aload_n 1, []), (16, none, .iload_n 2, []), (17, none, .invokevirtual 31, []), (20, none, .ifCond .eq 9, [29]), (23, none, .aload_n 0, []), (24, none, .aload_n 1, []), (25, none, .iload_n 2, []), (26, none, .invokevirtual 35, []), (29, none, .iinc 2 1, []), (32, none, .goto (-25), [7]), (35, none, .aload_n 0, []), (36, none, .invokevirtual 39, []), (39, none, .return_, [])]
def P_Twins_settle : Nat → Option (List Nat) × Instr × List Nat := plk tb_Twins_settle
theorem r_Twins_settle_0 : P_Twins_settle 0 = (none, .aload_n 0, []) := by decide +kernel
theorem r_Twins_settle_1 : P_Twins_settle 1 = (none, .iconst 0, []) := by decide +kernel
theorem r_Twins_settle_2 : P_Twins_settle 2 = (none, .putfield 21, []) := by decide +kernel
theorem r_Twins_settle_5 : P_Twins_settle 5 = (none, .iconst 0, []) := by decide +kernel
theorem r_Twins_settle_6 : P_Twins_settle 6 = (none, .istore_n 2, []) := by decide +kernel
theorem r_Twins_settle_7 : P_Twins_settle 7 = (some [0, 1, 2], .iload_n 2, []) := by decide +kernel
theorem r_Twins_settle_8 : P_Twins_settle 8 = (none, .aload_n 1, []) := by decide +kernel
theorem r_Twins_settle_9 : P_Twins_settle 9 = (none, .invokevirtual 25, []) := by decide +kernel
theorem r_Twins_settle_12 : P_Twins_settle 12 = (none, .if_icmp .ge 23, [35]) := by decide +kernel
theorem r_Twins_settle_15 : P_Twins_settle 15 = (none, .aload_n 1, []) := by decide +kernel
theorem r_Twins_settle_16 : P_Twins_settle 16 = (none, .iload_n 2, []) := by decide +kernel
theorem r_Twins_settle_17 : P_Twins_settle 17 = (none, .invokevirtual 31, []) := by decide +kernel
theorem r_Twins_settle_20 : P_Twins_settle 20 = (none, .ifCond .eq 9, [29]) := by decide +kernel
theorem r_Twins_settle_23 : P_Twins_settle 23 = (none, .aload_n 0, []) := by decide +kernel
theorem r_Twins_settle_24 : P_Twins_settle 24 = (none, .aload_n 1, []) := by decide +kernel
theorem r_Twins_settle_25 : P_Twins_settle 25 = (none, .iload_n 2, []) := by decide +kernel
theorem r_Twins_settle_26 : P_Twins_settle 26 = (none, .invokevirtual 35, []) := by decide +kernel
theorem r_Twins_settle_29 : P_Twins_settle 29 = (none, .iinc 2 1, []) := by decide +kernel
theorem r_Twins_settle_32 : P_Twins_settle 32 = (none, .goto (-25), [7]) := by decide +kernel
theorem r_Twins_settle_35 : P_Twins_settle 35 = (none, .aload_n 0, []) := by decide +kernel
theorem r_Twins_settle_36 : P_Twins_settle 36 = (none, .invokevirtual 39, []) := by decide +kernel
theorem r_Twins_settle_39 : P_Twins_settle 39 = (none, .return_, []) := by decide +kernel
def E_Twins_settle : List (Nat × Ent) := [(100, (1, 0, 0, 0, T_Things_size)), (124, (2, 1, 0, 0, T_Things_isRow)), (140, (3, 4, 0, 0, T_Twins_join)), (156, (1, 0, 0, 0, T_Twins_dropLone))]
def X_Twins_settle : Cx := (llk (0, 0, 9) ftX9, llk 99 ntX9, llk none kcX9, llk none klX9, llk dEnt E_Twins_settle, 5, 3, false)
theorem xok_Twins_settle : Xok RX9 X_Twins_settle := xok_of ftX9_ok ntX9_ok kcX9_ok klX9_ok (E := E_Twins_settle) (List.forall_mem_cons.mpr ⟨co_X9_100, List.forall_mem_cons.mpr ⟨co_X9_124, List.forall_mem_cons.mpr ⟨co_X9_140, List.forall_mem_cons.mpr ⟨co_X9_156, fun _ h => absurd h List.not_mem_nil⟩⟩⟩⟩)
theorem xf_Twins_settle_21 : xfl X_Twins_settle 21 = (9, 3, 0) := by decide +kernel
theorem xe_Twins_settle_100 : xE X_Twins_settle (4 * 25 + 0) = (1, 0, 0, 0, T_Things_size) := rfl
theorem xe_Twins_settle_124 : xE X_Twins_settle (4 * 31 + 0) = (2, 1, 0, 0, T_Things_isRow) := rfl
theorem xe_Twins_settle_140 : xE X_Twins_settle (4 * 35 + 0) = (3, 4, 0, 0, T_Twins_join) := rfl
theorem xe_Twins_settle_156 : xE X_Twins_settle (4 * 39 + 0) = (1, 0, 0, 0, T_Twins_dropLone) := rfl
theorem xd_Twins_settle : xd X_Twins_settle = 5 := rfl
theorem xrb_Twins_settle : xrb X_Twins_settle = 3 := rfl
theorem xin_Twins_settle : xin X_Twins_settle = false := rfl
set_option maxHeartbeats 4000000 in
set_option maxRecDepth 100000 in
theorem S_Twins_settle : Snd yX9_settle cX9_settle 3 none T_Twins_settle 5 0 0 := by
  refine snd_of (X := X_Twins_settle) (P := P_Twins_settle) (tb := tb_Twins_settle) (own := RX9) (by decide) rfl rfl (by decide +kernel) xok_Twins_settle rfl rk3 (fun h => by first | rfl | cases h) ?_
  intro as M k has hM hT0
  obtain ⟨sz, sl, lay, ρ, σ, τ⟩ := M
  obtain ⟨o, as1, e, hlo, hT1⟩ := mkT_r hT0
  clear hT0
  subst e
  obtain ⟨t, as2, e, hT2⟩ := pR_x hT1
  clear hT1
  subst e
  obtain ⟨e, hT⟩ := hT2
  subst e
  replace hlo : lay o = (19, 0) := hlo
  clear has
  replace hM : ∀ a i, -2147483648 ≤ σ a i ∧ σ a i ≤ 2147483647 := hM
  replace hT : TF_Twins_settle o t sz sl lay ρ σ τ k := hT
  unfold TF_Twins_settle at hT
  obtain ⟨hW, hL, hn, hto, hv, hvn, hT⟩ := hT
  obtain ⟨J, hJd⟩ : ∃ J : Nat → List AV → Mm → Prop, J = (fun c vs M1 => c = 7 ∧ ∃ (N : Nat) (σ1 : Nat → Int → Int), N ≤ σ t 12 ∧ Fr σ σ1 o 3 ∧ TwI σ τ t (σ1 (o + 1)) (σ1 (o + 2)) (σ1 (o + 3)) (σ1 o 3) N ∧ vs = [vR o, vR t, vI N] ∧ M1 = (sz, sl, lay, ρ, σ1, τ)) := ⟨_, rfl⟩
  obtain ⟨μ, hμ⟩ : ∃ μ : Nat → List AV → Mm → Nat, μ = (fun _ vs _ => (600 - gI (vs.getD 2 vN)).toNat) := ⟨_, rfl⟩
  refine ⟨Nat.le_of_ble_eq_true rfl, J, μ, 30, ?_, ?_⟩
  · obtain ⟨wh, wp0, wp1, wp2, wq0, wq1, wq2⟩ := (show LTwins lay ρ _ from hW)
    obtain ⟨lh, lp0, lp1, lp2, lp3, lp4, lp5, lp6, lp7, lp8, lp9, lp10, lp11, lq0, lq1, lq2, lq3, lq4, lq5, lq6, lq7, lq8, lq9, lq10, lq11⟩ := (show LThings lay ρ _ from hL)
    unfold wps
    simp only [si_iload_n0, si_iload_n1, si_iload_n2, si_iload_n3, si_iload, si_lload_n0, si_lload_n1, si_lload_n2, si_lload_n3, si_lload, si_aload_n0, si_aload_n1, si_aload_n2, si_aload_n3, si_aload, si_istore_n0, si_istore_n1, si_istore_n2, si_istore_n3, si_istore, si_astore_n0, si_astore_n1, si_astore_n2, si_astore_n3, si_astore, si_lstore_n0, si_lstore_n1, si_lstore_n2, si_lstore_n3, si_lstore, si_iconst, si_bipush, si_sipush, si_ldc, si_ldc2_w, si_lconst0, si_lconst1, si_aconst_null, si_iinc, si_dup, si_dup2, si_iadd, si_isub, si_imul, si_idiv, si_irem, si_iand, si_ior, si_ishl, si_ishr, si_ladd, si_lmul, si_lor, si_lxor, si_lshl, si_lushr, si_lcmp, si_i2b, si_i2l, si_l2i, si_icmp_eq, si_icmp_ne, si_icmp_lt, si_icmp_ge, si_icmp_gt, si_icmp_le, si_if_eq, si_if_ne, si_if_lt, si_if_ge, si_if_gt, si_if_le, si_ifnull, si_ifnonnull, si_goto, si_tableswitch, si_lookupswitch, si_getfield, si_putfield, si_getstatic, si_iaload, si_baload, si_laload, si_aaload, si_iastore, si_bastore, si_lastore, si_aastore, si_arraylength, si_new, si_newarray, si_anewarray, si_invokevirtual, si_invokespecial, si_invokestatic, si_ireturn, si_lreturn, si_areturn, si_return_, pI_e, pL_e, pR_e, pA_r, pA_n, pN_n, pN_r, oI_e, oL_e, oA_r, oA_n, lget_e, lrm1_0, lrm2_0, lrm1_i, lrm1_r, lrm1_n, lrm1_l, lrm2_i, lrm2_r, lrm2_n, lrm2_l, popN_0, popN_s, acat_i, acat_l, acat_r, acat_n, stw_0, stw_s, psh_s, psh_n, wgf_r, wgf_i, wgf_b, wgf_n, wgf_m, wpf_i, wpf_r, wpf_b, wnew_e, callE_e, rbk_0, rbk_1, tsw_0, tsw_s, lsw_0, lsw_s, wp_s, wq_t, wq_f, oV_e, pick_0, pick_s, oZ_e, oY_e, r_Twins_settle_0, r_Twins_settle_1, r_Twins_settle_2, r_Twins_settle_5, r_Twins_settle_6, r_Twins_settle_7, r_Twins_settle_8, r_Twins_settle_9, r_Twins_settle_12, r_Twins_settle_15, r_Twins_settle_16, r_Twins_settle_17, r_Twins_settle_20, r_Twins_settle_23, r_Twins_settle_24, r_Twins_settle_25, r_Twins_settle_26, r_Twins_settle_29, r_Twins_settle_32, r_Twins_settle_35, r_Twins_settle_36, r_Twins_settle_39, xf_Twins_settle_21, xe_Twins_settle_100, xe_Twins_settle_124, xe_Twins_settle_140, xe_Twins_settle_156, xd_Twins_settle, xrb_Twins_settle, xin_Twins_settle, T_Things_size_e, TF_Things_size, T_Things_isRow_e, TF_Things_isRow, T_Twins_join_e, TF_Twins_join, T_Twins_dropLone_e, TF_Twins_dropLone, fu_f1, fu_f2, fu_f3, fu_f4, hto, wh, wp0, wp1, wp2, wq0, wq1, wq2, lh, lp0, lp1, lp2, lp3, lp4, lp5, lp6, lp7, lp8, lp9, lp10, lp11, lq0, lq1, lq2, lq3, lq4, lq5, lq6, lq7, lq8, lq9, lq10, lq11, Nat.reduceAdd, Nat.reduceMul, Nat.reduceEqDiff, reduceIte, Int.reduceNeg, Int.reduceLE, Int.reduceLT, Int.reduceAdd, Int.reduceSub, Int.reduceToNat, true_and, and_true, inR_e, Nat.reduceLT, Nat.reduceLeDiff, reduceCtorEq, Nat.add_zero, Nat.zero_add, or_false, false_or, or_true, true_or, not_true_eq_false, not_false_eq_true, Classical.not_not, Nat.add_eq_zero_iff, and_false, false_and, Int.reduceEq, List.mem_cons, List.not_mem_nil, forall_eq_or_imp, forall_eq, false_implies, implies_true, forall_const, aargs_0, aargs_i, aargs_r, aargs_l, aargs_n, nfT_e, eq_self, and_self, Nat.le_refl, fu_s, fu_fu, iu_iu, iu_s, fu_am, fu_a0, fu_0a, iu_l, Nat.reduceBEq, Int.reduceBEq, T_objInit_e]
    clear wp0 wp1 wp2 lp0 lp1 lp2 lp3 lp4 lp5 lp6 lp7 lp8 lp9 lp10 lp11
    rw [hJd]
    refine ⟨rfl, 0, _, by omega, Fr.rfl'.fu (by omega), ?_, rfl, rfl⟩
    rw [fu_s, iu_s]
    exact ⟨rfl, fun x hx => by omega, fun x hx => by omega⟩
  · intro cp vs M1 hvs hM1 hlen hJ
    rw [hJd] at hJ
    obtain ⟨rfl, N, σ1, g1, g2, g3, rfl, rfl⟩ := hJ
    have e0 : σ1 t = σ t := g2.lo (by omega)
    have e2 : σ1 (t + 2) = σ (t + 2) := g2.lo (by omega)
    have e8 : σ1 (t + 8) = σ (t + 8) := g2.lo (by omega)
    have eL : LkT σ1 τ t = LkT σ τ t := LkT.fr g2 hto
    have eP : prZ σ1 τ t = prZ σ τ t := prZ.fr g2 hto
    have hr := @cntP_R (Fst σ τ t) N
    have h3 := g3.1
    (obtain ⟨wh, wp0, wp1, wp2, wq0, wq1, wq2⟩ := (show LTwins lay ρ _ from hW); obtain ⟨lh, lp0, lp1, lp2, lp3, lp4, lp5, lp6, lp7, lp8, lp9, lp10, lp11, lq0, lq1, lq2, lq3, lq4, lq5, lq6, lq7, lq8, lq9, lq10, lq11⟩ := (show LThings lay ρ _ from hL); unfold wps; simp only [Option.getD_some, List.zip_cons_cons, List.zip_nil_left, List.zip_nil_right, List.zip_nil_right, e0, e2, e8, eL, eP, si_iload_n0, si_iload_n1, si_iload_n2, si_iload_n3, si_iload, si_lload_n0, si_lload_n1, si_lload_n2, si_lload_n3, si_lload, si_aload_n0, si_aload_n1, si_aload_n2, si_aload_n3, si_aload, si_istore_n0, si_istore_n1, si_istore_n2, si_istore_n3, si_istore, si_astore_n0, si_astore_n1, si_astore_n2, si_astore_n3, si_astore, si_lstore_n0, si_lstore_n1, si_lstore_n2, si_lstore_n3, si_lstore, si_iconst, si_bipush, si_sipush, si_ldc, si_ldc2_w, si_lconst0, si_lconst1, si_aconst_null, si_iinc, si_dup, si_dup2, si_iadd, si_isub, si_imul, si_idiv, si_irem, si_iand, si_ior, si_ishl, si_ishr, si_ladd, si_lmul, si_lor, si_lxor, si_lshl, si_lushr, si_lcmp, si_i2b, si_i2l, si_l2i, si_icmp_eq, si_icmp_ne, si_icmp_lt, si_icmp_ge, si_icmp_gt, si_icmp_le, si_if_eq, si_if_ne, si_if_lt, si_if_ge, si_if_gt, si_if_le, si_ifnull, si_ifnonnull, si_goto, si_tableswitch, si_lookupswitch, si_getfield, si_putfield, si_getstatic, si_iaload, si_baload, si_laload, si_aaload, si_iastore, si_bastore, si_lastore, si_aastore, si_arraylength, si_new, si_newarray, si_anewarray, si_invokevirtual, si_invokespecial, si_invokestatic, si_ireturn, si_lreturn, si_areturn, si_return_, pI_e, pL_e, pR_e, pA_r, pA_n, pN_n, pN_r, oI_e, oL_e, oA_r, oA_n, lget_e, lrm1_0, lrm2_0, lrm1_i, lrm1_r, lrm1_n, lrm1_l, lrm2_i, lrm2_r, lrm2_n, lrm2_l, popN_0, popN_s, acat_i, acat_l, acat_r, acat_n, stw_0, stw_s, psh_s, psh_n, wgf_r, wgf_i, wgf_b, wgf_n, wgf_m, wpf_i, wpf_r, wpf_b, wnew_e, callE_e, rbk_0, rbk_1, tsw_0, tsw_s, lsw_0, lsw_s, wp_s, wq_t, wq_f, oV_e, pick_0, pick_s, oZ_e, oY_e, r_Twins_settle_0, r_Twins_settle_1, r_Twins_settle_2, r_Twins_settle_5, r_Twins_settle_6, r_Twins_settle_7, r_Twins_settle_8, r_Twins_settle_9, r_Twins_settle_12, r_Twins_settle_15, r_Twins_settle_16, r_Twins_settle_17, r_Twins_settle_20, r_Twins_settle_23, r_Twins_settle_24, r_Twins_settle_25, r_Twins_settle_26, r_Twins_settle_29, r_Twins_settle_32, r_Twins_settle_35, r_Twins_settle_36, r_Twins_settle_39, xf_Twins_settle_21, xe_Twins_settle_100, xe_Twins_settle_124, xe_Twins_settle_140, xe_Twins_settle_156, xd_Twins_settle, xrb_Twins_settle, xin_Twins_settle, T_Things_size_e, TF_Things_size, T_Things_isRow_e, TF_Things_isRow, T_Twins_join_e, TF_Twins_join, T_Twins_dropLone_e, TF_Twins_dropLone, fu_f1, fu_f2, fu_f3, fu_f4, hto, wh, wp0, wp1, wp2, wq0, wq1, wq2, lh, lp0, lp1, lp2, lp3, lp4, lp5, lp6, lp7, lp8, lp9, lp10, lp11, lq0, lq1, lq2, lq3, lq4, lq5, lq6, lq7, lq8, lq9, lq10, lq11, Nat.reduceAdd, Nat.reduceMul, Nat.reduceEqDiff, reduceIte, Int.reduceNeg, Int.reduceLE, Int.reduceLT, Int.reduceAdd, Int.reduceSub, Int.reduceToNat, true_and, and_true, inR_e, Nat.reduceLT, Nat.reduceLeDiff, reduceCtorEq, Nat.add_zero, Nat.zero_add, or_false, false_or, or_true, true_or, not_true_eq_false, not_false_eq_true, Classical.not_not, Nat.add_eq_zero_iff, and_false, false_and, Int.reduceEq, List.mem_cons, List.not_mem_nil, forall_eq_or_imp, forall_eq, false_implies, implies_true, forall_const, aargs_0, aargs_i, aargs_r, aargs_l, aargs_n, nfT_e, eq_self, and_self, Nat.le_refl, fu_s, fu_fu, iu_iu, iu_s, fu_am, fu_a0, fu_0a, iu_l, Nat.reduceBEq, Int.reduceBEq, T_objInit_e]; clear wp0 wp1 wp2 lp0 lp1 lp2 lp3 lp4 lp5 lp6 lp7 lp8 lp9 lp10 lp11)
    refine ⟨fun h => ⟨hW, by omega, fun σ2 w1 w2 w3 => ?_⟩, fun h => ⟨hL, hn, fun a => ?_, fun a => ⟨by omega, ?_, (by rw [hμ]; simp only [gI_e, List.getD_cons_succ, List.getD_cons_zero]; omega)⟩⟩⟩
    · have e : N = (σ t 12).toNat := by omega
      subst e
      refine hT σ2 (g2.trans w1) ⟨?_, fun x hx hg => ?_⟩
      · rw [w2, h3, g3.gp _ (by omega)]
      · have hf := hg.1
        obtain ⟨f1, f2, f3⟩ := g3.2.1 x (by omega) hf
        have hl := cntP_lt (P := Fst σ τ t) (a := x) (b := (σ t 12).toNat) (by omega) hf
        have hx2 := @cntP_R (Fst σ τ t) x
        have e : (((cntP (Fst σ τ t) x).toNat : Nat) : Int) = cntP (Fst σ τ t) x := by omega
        have w4 := w3 (cntP (Fst σ τ t) x).toNat (by omega) (by rw [e, f2]; exact hg.2)
        rw [e, f1, f2, g3.gp x (by omega)] at w4
        exact w4
    · refine ⟨hW, hL, hn, hv, hvn, by omega, by omega, fun i hi => ?_, fun i hi hl => ⟨by omega, ?_, (by rw [hμ]; simp only [gI_e, List.getD_cons_succ, List.getD_cons_zero]; omega)⟩, fun hl => ⟨by omega, ?_, (by rw [hμ]; simp only [gI_e, List.getD_cons_succ, List.getD_cons_zero]; omega)⟩⟩
      · obtain ⟨x, x1, x2, x3, x4, x5, x6⟩ := g3.hd hi
        have := @cntP_R (fun y => σ (t + 2) y = 1 ∧ LkT σ τ t x y) N
        rw [x4, x5, x6]
        exact ⟨by omega, by unfold Mem; omega, rfl⟩
      · rw [hJd]
        refine ⟨rfl, N + 1, _, by omega, g2.fu (by omega), ?_, rfl, rfl⟩
        rw [fu_am (by decide), fu_s, fu_am (by decide), fu_a0 (by decide)]
        exact g3.old a.2.2 hi hl
      · rw [hJd]
        refine ⟨rfl, N + 1, _, by omega, (((g2.fu (by omega)).fu (by omega)).fu (by omega)).fu (by omega), ?_, rfl, rfl⟩
        rw [fu_0a (by decide), fu_am (by decide), fu_am (by decide), fu_s, fu_0a (by decide), fu_am (by decide), fu_s, fu_0a (by decide), fu_s, fu_s, iu_s]
        exact g3.new a.2.2 hl
    · rw [hJd]
      exact ⟨rfl, N + 1, σ1, by omega, g2, g3.skip (fun z => a ⟨by omega, by omega, z⟩), rfl, rfl⟩
theorem co_X9_212 : CallOK RX9 (.invokevirtual 53) (2, 1, 0, 0, T_Things_numberOf) := call_V S_Things_numberOf (by decide) (ci := 7) rfl (by decide +kernel) (by decide +kernel) (by decide +kernel) (by decide +kernel) (by decide +kernel) (by decide +kernel) T_Things_numberOf_r
theorem co_X9_224 : CallOK RX9 (.invokevirtual 56) (2, 1, 0, 0, T_Things_sizeOf) := call_V S_Things_sizeOf (by decide) (ci := 7) rfl (by decide +kernel) (by decide +kernel) (by decide +kernel) (by decide +kernel) (by decide +kernel) (by decide +kernel) T_Things_sizeOf_r
def TF_Twins_tell (o : Nat) (t : Nat) (i : Int) (w : Int) (sz sl : Nat) (lay : Nat → Nat × Int) (ρ : Nat → Int → Nat) (σ : Nat → Int → Int) (τ : Nat → Int → Int64) (k : Option AV → Mm → Prop) : Prop := LTwins lay ρ o ∧ LThings lay ρ t ∧ (0 ≤ σ t 12 ∧ σ t 12 ≤ 600) ∧ (0 ≤ σ o 3 ∧ σ o 3 ≤ 600) ∧ (0 ≤ i ∧ i < σ o 3 → (0 ≤ σ (o + 1) i ∧ σ (o + 1) i < σ t 12) ∧ (0 ≤ σ (o + 2) i ∧ σ (o + 2) i ≤ 600) ∧ (0 ≤ σ (t + 5) (σ (o + 1) i) ∧ σ (t + 5) (σ (o + 1) i) ≤ 100000)) ∧ (0 ≤ i ∧ i < σ o 3 ∧ w = 0 → k (some (vI (σ (t + 1) (σ (o + 1) i)))) (sz, sl, lay, ρ, σ, τ)) ∧ (0 ≤ i ∧ i < σ o 3 ∧ w = 1 → k (some (vI (σ (o + 2) i))) (sz, sl, lay, ρ, σ, τ)) ∧ (0 ≤ i ∧ i < σ o 3 ∧ w = 2 → k (some (vI ((σ (o + 2) i - 1) * σ (t + 5) (σ (o + 1) i)))) (sz, sl, lay, ρ, σ, τ)) ∧ (¬ (0 ≤ i ∧ i < σ o 3 ∧ 0 ≤ w ∧ w ≤ 2) → k (some (vI (-1))) (sz, sl, lay, ρ, σ, τ))
def T_Twins_tell : Tr := mkT 9 fun o as M k => pR as fun t as => pI as fun i as => pI as fun w as => as = [] ∧ TF_Twins_tell o t i w M.1 M.2.1 M.2.2.1 M.2.2.2.1 M.2.2.2.2.1 M.2.2.2.2.2 k
theorem T_Twins_tell_e {o : Nat} {t : Nat} {i : Int} {w : Int} {sz sl : Nat} {lay : Nat → Nat × Int} {ρ : Nat → Int → Nat} {σ : Nat → Int → Int} {τ : Nat → Int → Int64} {k : Option AV → Mm → Prop} : T_Twins_tell [vR o, vR t, vI i, vI w] (sz, sl, lay, ρ, σ, τ) k = (lay o = (19, 0) ∧ TF_Twins_tell o t i w sz sl lay ρ σ τ k) := by simp [T_Twins_tell, mkT_e, pI_e, pR_e, pL_e]
theorem T_Twins_tell_r (as : List AV) (M : Mm) (k : Option AV → Mm → Prop) (h : T_Twins_tell as M k) : ∃ b As, as = vR b :: As ∧ M.2.2.1 b = (10 + 9, 0) := by
  obtain ⟨b, As, h1, h2, -⟩ := mkT_r h
  exact ⟨b, As, h1, h2⟩
def tb_Twins_tell : List (Nat × Option (List Nat) × Instr × List Nat) := [(0, none, .iload_n 2, []), (1, none, .ifCond .lt 11, [12]), (4, none, .iload_n 2, []), (5, none, .aload_n 0, []), (6, none, .getfield 21, []), (9, none, .if_icmp .lt 5, [14]), (12, none, .iconst (-1), []), (13, none, .ireturn, []), (14, none, .iload_n 3, []), (15, none, .tableswitch 63 0 2 #[25, 36, 43], [78, 40, 51, 58]), (40, none, .aload_n 1, []), (41, none, .aload_n 0, []), (42, none, .getfield 9, []), (45, none, .iload_n 2, []), (46, none, .iaload, []), (47, none, .invokevirtual 53, []), (50, none, .ireturn, []), (51, none, .aload_n 0, []), (52, none, .getfield 15, []), (55, none, .iload_n 2, []), (56, none, .iaload, []), (57, none, .ireturn, []), (58, none, .aload_n 0, []), (59, none, .getfield 15, []), (62, none, .iload_n 2, []), (63, none, .iaload, []), (64, none, .iconst 1, []), (65, none, .isub, []), (66, none, .aload_n 1, []), (67, none, .aload_n 0, []), (68, none, .getfield 9, []), (71, none, .iload_n 2, []), (72, none, .iaload, []), (73, none, .invokevirtual 56, []), (76, none, .imul, []), (77, none, .ireturn, []), (78, none, .iconst (-1), []), (79, none, .ireturn, [])]
def P_Twins_tell : Nat → Option (List Nat) × Instr × List Nat := plk tb_Twins_tell
theorem r_Twins_tell_0 : P_Twins_tell 0 = (none, .iload_n 2, []) := by decide +kernel
theorem r_Twins_tell_1 : P_Twins_tell 1 = (none, .ifCond .lt 11, [12]) := by decide +kernel
theorem r_Twins_tell_4 : P_Twins_tell 4 = (none, .iload_n 2, []) := by decide +kernel
theorem r_Twins_tell_5 : P_Twins_tell 5 = (none, .aload_n 0, []) := by decide +kernel
theorem r_Twins_tell_6 : P_Twins_tell 6 = (none, .getfield 21, []) := by decide +kernel
theorem r_Twins_tell_9 : P_Twins_tell 9 = (none, .if_icmp .lt 5, [14]) := by decide +kernel
theorem r_Twins_tell_12 : P_Twins_tell 12 = (none, .iconst (-1), []) := by decide +kernel
theorem r_Twins_tell_13 : P_Twins_tell 13 = (none, .ireturn, []) := by decide +kernel
theorem r_Twins_tell_14 : P_Twins_tell 14 = (none, .iload_n 3, []) := by decide +kernel
theorem r_Twins_tell_15 : P_Twins_tell 15 = (none, .tableswitch 63 0 2 #[25, 36, 43], [78, 40, 51, 58]) := by decide +kernel
theorem r_Twins_tell_40 : P_Twins_tell 40 = (none, .aload_n 1, []) := by decide +kernel
theorem r_Twins_tell_41 : P_Twins_tell 41 = (none, .aload_n 0, []) := by decide +kernel
theorem r_Twins_tell_42 : P_Twins_tell 42 = (none, .getfield 9, []) := by decide +kernel
theorem r_Twins_tell_45 : P_Twins_tell 45 = (none, .iload_n 2, []) := by decide +kernel
theorem r_Twins_tell_46 : P_Twins_tell 46 = (none, .iaload, []) := by decide +kernel
theorem r_Twins_tell_47 : P_Twins_tell 47 = (none, .invokevirtual 53, []) := by decide +kernel
theorem r_Twins_tell_50 : P_Twins_tell 50 = (none, .ireturn, []) := by decide +kernel
theorem r_Twins_tell_51 : P_Twins_tell 51 = (none, .aload_n 0, []) := by decide +kernel
theorem r_Twins_tell_52 : P_Twins_tell 52 = (none, .getfield 15, []) := by decide +kernel
theorem r_Twins_tell_55 : P_Twins_tell 55 = (none, .iload_n 2, []) := by decide +kernel
theorem r_Twins_tell_56 : P_Twins_tell 56 = (none, .iaload, []) := by decide +kernel
theorem r_Twins_tell_57 : P_Twins_tell 57 = (none, .ireturn, []) := by decide +kernel
theorem r_Twins_tell_58 : P_Twins_tell 58 = (none, .aload_n 0, []) := by decide +kernel
theorem r_Twins_tell_59 : P_Twins_tell 59 = (none, .getfield 15, []) := by decide +kernel
theorem r_Twins_tell_62 : P_Twins_tell 62 = (none, .iload_n 2, []) := by decide +kernel
theorem r_Twins_tell_63 : P_Twins_tell 63 = (none, .iaload, []) := by decide +kernel
theorem r_Twins_tell_64 : P_Twins_tell 64 = (none, .iconst 1, []) := by decide +kernel
theorem r_Twins_tell_65 : P_Twins_tell 65 = (none, .isub, []) := by decide +kernel
theorem r_Twins_tell_66 : P_Twins_tell 66 = (none, .aload_n 1, []) := by decide +kernel
theorem r_Twins_tell_67 : P_Twins_tell 67 = (none, .aload_n 0, []) := by decide +kernel
theorem r_Twins_tell_68 : P_Twins_tell 68 = (none, .getfield 9, []) := by decide +kernel
theorem r_Twins_tell_71 : P_Twins_tell 71 = (none, .iload_n 2, []) := by decide +kernel
theorem r_Twins_tell_72 : P_Twins_tell 72 = (none, .iaload, []) := by decide +kernel
theorem r_Twins_tell_73 : P_Twins_tell 73 = (none, .invokevirtual 56, []) := by decide +kernel
theorem r_Twins_tell_76 : P_Twins_tell 76 = (none, .imul, []) := by decide +kernel
theorem r_Twins_tell_77 : P_Twins_tell 77 = (none, .ireturn, []) := by decide +kernel
theorem r_Twins_tell_78 : P_Twins_tell 78 = (none, .iconst (-1), []) := by decide +kernel
theorem r_Twins_tell_79 : P_Twins_tell 79 = (none, .ireturn, []) := by decide +kernel
def E_Twins_tell : List (Nat × Ent) := [(212, (2, 1, 0, 0, T_Things_numberOf)), (224, (2, 1, 0, 0, T_Things_sizeOf))]
def X_Twins_tell : Cx := (llk (0, 0, 9) ftX9, llk 99 ntX9, llk none kcX9, llk none klX9, llk dEnt E_Twins_tell, 2, 0, false)
theorem xok_Twins_tell : Xok RX9 X_Twins_tell := xok_of ftX9_ok ntX9_ok kcX9_ok klX9_ok (E := E_Twins_tell) (List.forall_mem_cons.mpr ⟨co_X9_212, List.forall_mem_cons.mpr ⟨co_X9_224, fun _ h => absurd h List.not_mem_nil⟩⟩)
theorem xf_Twins_tell_9 : xfl X_Twins_tell 9 = (9, 0, 1) := by decide +kernel
theorem xf_Twins_tell_15 : xfl X_Twins_tell 15 = (9, 1, 1) := by decide +kernel
theorem xf_Twins_tell_21 : xfl X_Twins_tell 21 = (9, 3, 0) := by decide +kernel
theorem xe_Twins_tell_212 : xE X_Twins_tell (4 * 53 + 0) = (2, 1, 0, 0, T_Things_numberOf) := rfl
theorem xe_Twins_tell_224 : xE X_Twins_tell (4 * 56 + 0) = (2, 1, 0, 0, T_Things_sizeOf) := rfl
theorem xd_Twins_tell : xd X_Twins_tell = 2 := rfl
theorem xrb_Twins_tell : xrb X_Twins_tell = 0 := rfl
theorem xin_Twins_tell : xin X_Twins_tell = false := rfl
set_option maxHeartbeats 4000000 in
set_option maxRecDepth 100000 in
theorem S_Twins_tell : Snd yX9_tell cX9_tell 4 (some .int) T_Twins_tell 2 0 0 := by
  refine snd_of (X := X_Twins_tell) (P := P_Twins_tell) (tb := tb_Twins_tell) (own := RX9) (by decide) rfl rfl (by decide +kernel) xok_Twins_tell rfl rk0 (fun h => by first | rfl | cases h) ?_
  intro as M k has hM hT0
  obtain ⟨sz, sl, lay, ρ, σ, τ⟩ := M
  obtain ⟨o, as1, e, hlo, hT1⟩ := mkT_r hT0
  clear hT0
  subst e
  obtain ⟨t, as2, e, hT2⟩ := pR_x hT1
  clear hT1
  subst e
  obtain ⟨i, as3, e, hT3⟩ := pI_x hT2
  clear hT2
  subst e
  obtain ⟨w, as4, e, hT4⟩ := pI_x hT3
  clear hT3
  subst e
  obtain ⟨e, hT⟩ := hT4
  subst e
  replace hlo : lay o = (19, 0) := hlo
  have r_i : -2147483648 ≤ i ∧ i ≤ 2147483647 := has (vI i) (by simp)
  have r_w : -2147483648 ≤ w ∧ w ≤ 2147483647 := has (vI w) (by simp)
  clear has
  replace hM : ∀ a i, -2147483648 ≤ σ a i ∧ σ a i ≤ 2147483647 := hM
  replace hT : TF_Twins_tell o t i w sz sl lay ρ σ τ k := hT
  unfold TF_Twins_tell at hT
  obtain ⟨hW, hL, hn, hc, hh, h0, h1, h2, h9⟩ := hT
  refine ⟨Nat.le_of_ble_eq_true rfl, fun _ _ _ => False, fun _ _ _ => 0, 46, ?_, fun _ _ _ _ _ _ h => h.elim⟩
  obtain ⟨wh, wp0, wp1, wp2, wq0, wq1, wq2⟩ := (show LTwins lay ρ _ from hW)
  obtain ⟨lh, lp0, lp1, lp2, lp3, lp4, lp5, lp6, lp7, lp8, lp9, lp10, lp11, lq0, lq1, lq2, lq3, lq4, lq5, lq6, lq7, lq8, lq9, lq10, lq11⟩ := (show LThings lay ρ _ from hL)
  unfold wps
  simp only [si_iload_n0, si_iload_n1, si_iload_n2, si_iload_n3, si_iload, si_lload_n0, si_lload_n1, si_lload_n2, si_lload_n3, si_lload, si_aload_n0, si_aload_n1, si_aload_n2, si_aload_n3, si_aload, si_istore_n0, si_istore_n1, si_istore_n2, si_istore_n3, si_istore, si_astore_n0, si_astore_n1, si_astore_n2, si_astore_n3, si_astore, si_lstore_n0, si_lstore_n1, si_lstore_n2, si_lstore_n3, si_lstore, si_iconst, si_bipush, si_sipush, si_ldc, si_ldc2_w, si_lconst0, si_lconst1, si_aconst_null, si_iinc, si_dup, si_dup2, si_iadd, si_isub, si_imul, si_idiv, si_irem, si_iand, si_ior, si_ishl, si_ishr, si_ladd, si_lmul, si_lor, si_lxor, si_lshl, si_lushr, si_lcmp, si_i2b, si_i2l, si_l2i, si_icmp_eq, si_icmp_ne, si_icmp_lt, si_icmp_ge, si_icmp_gt, si_icmp_le, si_if_eq, si_if_ne, si_if_lt, si_if_ge, si_if_gt, si_if_le, si_ifnull, si_ifnonnull, si_goto, si_tableswitch, si_lookupswitch, si_getfield, si_putfield, si_getstatic, si_iaload, si_baload, si_laload, si_aaload, si_iastore, si_bastore, si_lastore, si_aastore, si_arraylength, si_new, si_newarray, si_anewarray, si_invokevirtual, si_invokespecial, si_invokestatic, si_ireturn, si_lreturn, si_areturn, si_return_, pI_e, pL_e, pR_e, pA_r, pA_n, pN_n, pN_r, oI_e, oL_e, oA_r, oA_n, lget_e, lrm1_0, lrm2_0, lrm1_i, lrm1_r, lrm1_n, lrm1_l, lrm2_i, lrm2_r, lrm2_n, lrm2_l, popN_0, popN_s, acat_i, acat_l, acat_r, acat_n, stw_0, stw_s, psh_s, psh_n, wgf_r, wgf_i, wgf_b, wgf_n, wgf_m, wpf_i, wpf_r, wpf_b, wnew_e, callE_e, rbk_0, rbk_1, tsw_0, tsw_s, lsw_0, lsw_s, wp_s, wq_t, wq_f, oV_e, pick_0, pick_s, oZ_e, oY_e, r_Twins_tell_0, r_Twins_tell_1, r_Twins_tell_4, r_Twins_tell_5, r_Twins_tell_6, r_Twins_tell_9, r_Twins_tell_12, r_Twins_tell_13, r_Twins_tell_14, r_Twins_tell_15, r_Twins_tell_40, r_Twins_tell_41, r_Twins_tell_42, r_Twins_tell_45, r_Twins_tell_46, r_Twins_tell_47, r_Twins_tell_50, r_Twins_tell_51, r_Twins_tell_52, r_Twins_tell_55, r_Twins_tell_56, r_Twins_tell_57, r_Twins_tell_58, r_Twins_tell_59, r_Twins_tell_62, r_Twins_tell_63, r_Twins_tell_64, r_Twins_tell_65, r_Twins_tell_66, r_Twins_tell_67, r_Twins_tell_68, r_Twins_tell_71, r_Twins_tell_72, r_Twins_tell_73, r_Twins_tell_76, r_Twins_tell_77, r_Twins_tell_78, r_Twins_tell_79, xf_Twins_tell_9, xf_Twins_tell_15, xf_Twins_tell_21, xe_Twins_tell_212, xe_Twins_tell_224, xd_Twins_tell, xrb_Twins_tell, xin_Twins_tell, T_Things_numberOf_e, TF_Things_numberOf, T_Things_sizeOf_e, TF_Things_sizeOf, wh, wp0, wp1, wp2, wq0, wq1, wq2, lh, lp0, lp1, lp2, lp3, lp4, lp5, lp6, lp7, lp8, lp9, lp10, lp11, lq0, lq1, lq2, lq3, lq4, lq5, lq6, lq7, lq8, lq9, lq10, lq11, Nat.reduceAdd, Nat.reduceMul, Nat.reduceEqDiff, reduceIte, Int.reduceNeg, Int.reduceLE, Int.reduceLT, Int.reduceAdd, Int.reduceSub, Int.reduceToNat, true_and, and_true, inR_e, Nat.reduceLT, Nat.reduceLeDiff, reduceCtorEq, Nat.add_zero, Nat.zero_add, or_false, false_or, or_true, true_or, not_true_eq_false, not_false_eq_true, Classical.not_not, Nat.add_eq_zero_iff, and_false, false_and, Int.reduceEq, List.mem_cons, List.not_mem_nil, forall_eq_or_imp, forall_eq, false_implies, implies_true, forall_const, aargs_0, aargs_i, aargs_r, aargs_l, aargs_n, nfT_e, eq_self, and_self, Nat.le_refl, fu_s, fu_fu, iu_iu, iu_s, fu_am, fu_a0, fu_0a, iu_l, Nat.reduceBEq, Int.reduceBEq, T_objInit_e]
  clear wp0 wp1 wp2 lp0 lp1 lp2 lp3 lp4 lp5 lp6 lp7 lp8 lp9 lp10 lp11
  refine ⟨fun a => h9 (by omega), fun a => ⟨fun b => ?_, fun b => h9 (by omega)⟩⟩
  obtain ⟨q1, q2, q3⟩ := hh (by omega)
  have q4 := mul_R6 (a := σ (o + 2) i - 1) (by omega) q3
  refine ⟨⟨fun c => ⟨by omega, by omega, hL, hn, fun _ => h0 (by omega), fun z => absurd q1 z⟩, fun c => ⟨by omega, by omega, h1 (by omega)⟩, fun c => ⟨by omega, by omega, by omega, by omega, by omega, hL, hn, fun _ => ⟨by omega, h2 (by omega)⟩, fun z => absurd q1 z⟩⟩, fun c => h9 (by omega)⟩

/-- what is told of the living, in the keepers' terms -/
def LfI (σ σ2 : Nat → Int → Int) (t w o : Nat) : Prop := KI (gX σ t 0) (σ (w + 1)) (σ (w + 2)) (σ w 3) (σ2 (o + 1)) ∧ (∀ u v, Lv (σ (w + 1)) (σ w 3) u → gX σ t 0 u v → σ2 (o + 1) v = -1 ∨ Ch (σ2 (o + 1)) (σ2 (o + 1) v) u) ∧ (∀ x, Lv (σ (w + 1)) (σ w 3) x → σ2 (o + 2) x = cntP (fun y => Ch (σ2 (o + 1)) y x) (σ t 12).toNat) ∧ (∀ x, 0 ≤ x ∧ x < 600 → ¬ Lv (σ (w + 1)) (σ w 3) x → σ2 (o + 2) x = 0) ∧ (∀ y, Lv (σ (w + 1)) (σ w 3) y → σ2 (o + 3) y = sumP (fun x => Lv (σ (w + 1)) (σ w 3) x ∧ Ch (σ2 (o + 1)) y x) (σ (t + 5)) (σ t 12).toNat) ∧ σ2 o 5 = sumP (fun x => Lv (σ (w + 1)) (σ w 3) x) (σ (t + 5)) (σ t 12).toNat ∧ RkI (σ t 12) (σ (t + 1)) (σ (t + 7)) (fun x => 0 < σ2 (o + 2) x) (σ2 (o + 3)) (σ2 (o + 4)) (σ2 o 4) (σ t 12)
theorem gX.fr {σ σ2 : Nat → Int → Int} {o m t : Nat} {s : Int} (hf : Fr σ σ2 o m) (ht : t + 16 ≤ o) : gX σ2 t s = gX σ t s := by
  funext u v
  unfold gX gR gE
  rw [hf.lo (t := t) (by omega), hf.lo (t := t + 2) (by omega), hf.lo (t := t + 9) (by omega), hf.lo (t := t + 12) (by omega), hf.lo (t := t + 13) (by omega), hf.lo (t := t + 13 + 2) (by omega)]
theorem co_X2_124 : CallOK RX2 (.invokevirtual 31) (2, 1, 0, 0, T_Spread_beforeOf) := call_V S_Spread_beforeOf (by decide) (ci := 5) rfl (by decide +kernel) (by decide +kernel) (by decide +kernel) (by decide +kernel) (by decide +kernel) (by decide +kernel) T_Spread_beforeOf_r
theorem co_X2_172 : CallOK RX2 (.invokevirtual 43) (3, 3, 0, 0, T_Life_moveKeepers) := call_V S_Life_moveKeepers (by decide) (ci := 2) rfl (by decide +kernel) (by decide +kernel) (by decide +kernel) (by decide +kernel) (by decide +kernel) (by decide +kernel) T_Life_moveKeepers_r
theorem co_X2_188 : CallOK RX2 (.invokevirtual 47) (3, 3, 0, 0, T_Life_measure) := call_V S_Life_measure (by decide) (ci := 2) rfl (by decide +kernel) (by decide +kernel) (by decide +kernel) (by decide +kernel) (by decide +kernel) (by decide +kernel) T_Life_measure_r
theorem co_X2_204 : CallOK RX2 (.invokevirtual 51) (2, 3, 0, 0, T_Life_rank) := call_V S_Life_rank (by decide) (ci := 2) rfl (by decide +kernel) (by decide +kernel) (by decide +kernel) (by decide +kernel) (by decide +kernel) (by decide +kernel) T_Life_rank_r
def TF_Life_settle (o : Nat) (t : Nat) (w : Nat) (sz sl : Nat) (lay : Nat → Nat × Int) (ρ : Nat → Int → Nat) (σ : Nat → Int → Int) (τ : Nat → Int → Int64) (k : Option AV → Mm → Prop) : Prop := LLife lay ρ o ∧ LSpread lay ρ w ∧ LThings lay ρ t ∧ (0 ≤ σ t 12 ∧ σ t 12 ≤ 600) ∧ (t + 16 ≤ w) ∧ (w + 4 ≤ o) ∧ ThB σ t ∧ ThG σ t ∧ (∀ i, 0 ≤ i ∧ i < σ t 12 → 0 ≤ σ (t + 5) i ∧ σ (t + 5) i ≤ 100000) ∧ ∃ bp, SpW σ t w 0 bp ∧ (∀ σ2 : Nat → Int → Int, Fr σ σ2 o 4 → LfI σ σ2 t w o → k none (sz, sl, lay, ρ, σ2, τ))
def T_Life_settle : Tr := mkT 2 fun o as M k => pR as fun t as => pR as fun w as => as = [] ∧ TF_Life_settle o t w M.1 M.2.1 M.2.2.1 M.2.2.2.1 M.2.2.2.2.1 M.2.2.2.2.2 k
theorem T_Life_settle_e {o : Nat} {t : Nat} {w : Nat} {sz sl : Nat} {lay : Nat → Nat × Int} {ρ : Nat → Int → Nat} {σ : Nat → Int → Int} {τ : Nat → Int → Int64} {k : Option AV → Mm → Prop} : T_Life_settle [vR o, vR t, vR w] (sz, sl, lay, ρ, σ, τ) k = (lay o = (12, 0) ∧ TF_Life_settle o t w sz sl lay ρ σ τ k) := by simp [T_Life_settle, mkT_e, pI_e, pR_e, pL_e]
theorem T_Life_settle_r (as : List AV) (M : Mm) (k : Option AV → Mm → Prop) (h : T_Life_settle as M k) : ∃ b As, as = vR b :: As ∧ M.2.2.1 b = (10 + 2, 0) := by
  obtain ⟨b, As, h1, h2, -⟩ := mkT_r h
  exact ⟨b, As, h1, h2⟩
def tb_Life_settle : List (Nat × Option (List Nat) × Instr × List Nat) := [(0, none, .iconst 0, []), (1, none, .istore_n 3, []), (2, some [0, 1, 2, 3], .iload_n 3, []), (3, none, .sipush 600, []), (6, none, .if_icmp .ge 38, [44]), (9, none, .aload_n 0, []), (10, none, .getfield 9, []), (13, none, .iload_n 3, []), (14, none, .aload_n 2, []), (15, none, .iload_n 3, []), (16, none, .invokevirtual 31, []), (19, none, .iastore, []), (20, none, .aload_n 0, []), (21, none, .getfield 15, []), (24, none, .iload_n 3, []), (25, none, .iconst 0, []), (26, none, .iastore, []), (27, none, .aload_n 0, []), (28, none, .getfield 18, []), (31, none, .iload_n 3, []), (32, none, .aload_n 1, []), (33, none, .iload_n 3, []), (34, none, .invokevirtual 37, []), (37, none, .iastore, []), (38, none, .iinc 3 1, []), (41, none, .goto (-39), [2]), (44, none, .iconst 1, []), (45, none, .istore_n 3, []), (46, none, .iconst 0, []), (47, none, .istore 4, []), (49, some [0, 1, 2, 3, 4], .iload_n 3, []), (50, none, .ifCond .eq 23, [73]), (53, none, .iload 4, []), (55, none, .ldc 42, []), (57, none, .if_icmp .ge 16, [73]), (60, none, .aload_n 0, []), (61, none, .aload_n 1, []), (62, none, .aload_n 2, []), (63, none, .invokevirtual 43, []), (66, none, .istore_n 3, []), (67, none, .iinc 4 1, []), (70, none, .goto (-21), [49]), (73, none, .aload_n 0, []), (74, none, .aload_n 1, []), (75, none, .aload_n 2, []), (76, none, .invokevirtual 47, []), (79, none, .aload_n 0, []), (80, none, .aload_n 1, []), (81, none, .invokevirtual 51, []), (84, none, .return_, [])]
def P_Life_settle : Nat → Option (List Nat) × Instr × List Nat := plk tb_Life_settle
theorem r_Life_settle_0 : P_Life_settle 0 = (none, .iconst 0, []) := by decide +kernel
theorem r_Life_settle_1 : P_Life_settle 1 = (none, .istore_n 3, []) := by decide +kernel
theorem r_Life_settle_2 : P_Life_settle 2 = (some [0, 1, 2, 3], .iload_n 3, []) := by decide +kernel
theorem r_Life_settle_3 : P_Life_settle 3 = (none, .sipush 600, []) := by decide +kernel
theorem r_Life_settle_6 : P_Life_settle 6 = (none, .if_icmp .ge 38, [44]) := by decide +kernel
theorem r_Life_settle_9 : P_Life_settle 9 = (none, .aload_n 0, []) := by decide +kernel
theorem r_Life_settle_10 : P_Life_settle 10 = (none, .getfield 9, []) := by decide +kernel
theorem r_Life_settle_13 : P_Life_settle 13 = (none, .iload_n 3, []) := by decide +kernel
theorem r_Life_settle_14 : P_Life_settle 14 = (none, .aload_n 2, []) := by decide +kernel
theorem r_Life_settle_15 : P_Life_settle 15 = (none, .iload_n 3, []) := by decide +kernel
theorem r_Life_settle_16 : P_Life_settle 16 = (none, .invokevirtual 31, []) := by decide +kernel
theorem r_Life_settle_19 : P_Life_settle 19 = (none, .iastore, []) := by decide +kernel
theorem r_Life_settle_20 : P_Life_settle 20 = (none, .aload_n 0, []) := by decide +kernel
theorem r_Life_settle_21 : P_Life_settle 21 = (none, .getfield 15, []) := by decide +kernel
theorem r_Life_settle_24 : P_Life_settle 24 = (none, .iload_n 3, []) := by decide +kernel
theorem r_Life_settle_25 : P_Life_settle 25 = (none, .iconst 0, []) := by decide +kernel
theorem r_Life_settle_26 : P_Life_settle 26 = (none, .iastore, []) := by decide +kernel
theorem r_Life_settle_27 : P_Life_settle 27 = (none, .aload_n 0, []) := by decide +kernel
theorem r_Life_settle_28 : P_Life_settle 28 = (none, .getfield 18, []) := by decide +kernel
theorem r_Life_settle_31 : P_Life_settle 31 = (none, .iload_n 3, []) := by decide +kernel
theorem r_Life_settle_32 : P_Life_settle 32 = (none, .aload_n 1, []) := by decide +kernel
theorem r_Life_settle_33 : P_Life_settle 33 = (none, .iload_n 3, []) := by decide +kernel
theorem r_Life_settle_34 : P_Life_settle 34 = (none, .invokevirtual 37, []) := by decide +kernel
theorem r_Life_settle_37 : P_Life_settle 37 = (none, .iastore, []) := by decide +kernel
theorem r_Life_settle_38 : P_Life_settle 38 = (none, .iinc 3 1, []) := by decide +kernel
theorem r_Life_settle_41 : P_Life_settle 41 = (none, .goto (-39), [2]) := by decide +kernel
theorem r_Life_settle_44 : P_Life_settle 44 = (none, .iconst 1, []) := by decide +kernel
theorem r_Life_settle_45 : P_Life_settle 45 = (none, .istore_n 3, []) := by decide +kernel
theorem r_Life_settle_46 : P_Life_settle 46 = (none, .iconst 0, []) := by decide +kernel
theorem r_Life_settle_47 : P_Life_settle 47 = (none, .istore 4, []) := by decide +kernel
theorem r_Life_settle_49 : P_Life_settle 49 = (some [0, 1, 2, 3, 4], .iload_n 3, []) := by decide +kernel
theorem r_Life_settle_50 : P_Life_settle 50 = (none, .ifCond .eq 23, [73]) := by decide +kernel
theorem r_Life_settle_53 : P_Life_settle 53 = (none, .iload 4, []) := by decide +kernel
theorem r_Life_settle_55 : P_Life_settle 55 = (none, .ldc 42, []) := by decide +kernel
theorem r_Life_settle_57 : P_Life_settle 57 = (none, .if_icmp .ge 16, [73]) := by decide +kernel
theorem r_Life_settle_60 : P_Life_settle 60 = (none, .aload_n 0, []) := by decide +kernel
theorem r_Life_settle_61 : P_Life_settle 61 = (none, .aload_n 1, []) := by decide +kernel
theorem r_Life_settle_62 : P_Life_settle 62 = (none, .aload_n 2, []) := by decide +kernel
theorem r_Life_settle_63 : P_Life_settle 63 = (none, .invokevirtual 43, []) := by decide +kernel
theorem r_Life_settle_66 : P_Life_settle 66 = (none, .istore_n 3, []) := by decide +kernel
theorem r_Life_settle_67 : P_Life_settle 67 = (none, .iinc 4 1, []) := by decide +kernel
theorem r_Life_settle_70 : P_Life_settle 70 = (none, .goto (-21), [49]) := by decide +kernel
theorem r_Life_settle_73 : P_Life_settle 73 = (none, .aload_n 0, []) := by decide +kernel
theorem r_Life_settle_74 : P_Life_settle 74 = (none, .aload_n 1, []) := by decide +kernel
theorem r_Life_settle_75 : P_Life_settle 75 = (none, .aload_n 2, []) := by decide +kernel
theorem r_Life_settle_76 : P_Life_settle 76 = (none, .invokevirtual 47, []) := by decide +kernel
theorem r_Life_settle_79 : P_Life_settle 79 = (none, .aload_n 0, []) := by decide +kernel
theorem r_Life_settle_80 : P_Life_settle 80 = (none, .aload_n 1, []) := by decide +kernel
theorem r_Life_settle_81 : P_Life_settle 81 = (none, .invokevirtual 51, []) := by decide +kernel
theorem r_Life_settle_84 : P_Life_settle 84 = (none, .return_, []) := by decide +kernel
def E_Life_settle : List (Nat × Ent) := [(124, (2, 1, 0, 0, T_Spread_beforeOf)), (148, (2, 1, 0, 0, T_Things_sizeOf)), (172, (3, 3, 0, 0, T_Life_moveKeepers)), (188, (3, 3, 0, 0, T_Life_measure)), (204, (2, 3, 0, 0, T_Life_rank))]
def X_Life_settle : Cx := (llk (0, 0, 9) ftX2, llk 99 ntX2, llk none kcX2, llk none klX2, llk dEnt E_Life_settle, 4, 3, false)
theorem xok_Life_settle : Xok RX2 X_Life_settle := xok_of ftX2_ok ntX2_ok kcX2_ok klX2_ok (E := E_Life_settle) (List.forall_mem_cons.mpr ⟨co_X2_124, List.forall_mem_cons.mpr ⟨co_X2_148, List.forall_mem_cons.mpr ⟨co_X2_172, List.forall_mem_cons.mpr ⟨co_X2_188, List.forall_mem_cons.mpr ⟨co_X2_204, fun _ h => absurd h List.not_mem_nil⟩⟩⟩⟩⟩)
theorem xf_Life_settle_9 : xfl X_Life_settle 9 = (2, 0, 1) := by decide +kernel
theorem xf_Life_settle_15 : xfl X_Life_settle 15 = (2, 1, 1) := by decide +kernel
theorem xf_Life_settle_18 : xfl X_Life_settle 18 = (2, 2, 1) := by decide +kernel
theorem xk_Life_settle_42 : xkc X_Life_settle 42 = some 1000000 := by decide +kernel
theorem xe_Life_settle_124 : xE X_Life_settle (4 * 31 + 0) = (2, 1, 0, 0, T_Spread_beforeOf) := rfl
theorem xe_Life_settle_148 : xE X_Life_settle (4 * 37 + 0) = (2, 1, 0, 0, T_Things_sizeOf) := rfl
theorem xe_Life_settle_172 : xE X_Life_settle (4 * 43 + 0) = (3, 3, 0, 0, T_Life_moveKeepers) := rfl
theorem xe_Life_settle_188 : xE X_Life_settle (4 * 47 + 0) = (3, 3, 0, 0, T_Life_measure) := rfl
theorem xe_Life_settle_204 : xE X_Life_settle (4 * 51 + 0) = (2, 3, 0, 0, T_Life_rank) := rfl
theorem xd_Life_settle : xd X_Life_settle = 4 := rfl
theorem xrb_Life_settle : xrb X_Life_settle = 3 := rfl
theorem xin_Life_settle : xin X_Life_settle = false := rfl
set_option maxHeartbeats 4000000 in
set_option maxRecDepth 100000 in
theorem S_Life_settle : Snd yX2_settle cX2_settle 5 none T_Life_settle 4 0 0 := by
  refine snd_of (X := X_Life_settle) (P := P_Life_settle) (tb := tb_Life_settle) (own := RX2) (by decide) rfl rfl (by decide +kernel) xok_Life_settle rfl rk3 (fun h => by first | rfl | cases h) ?_
  intro as M k has hM hT0
  obtain ⟨sz, sl, lay, ρ, σ, τ⟩ := M
  obtain ⟨o, as1, e, hlo, hT1⟩ := mkT_r hT0
  clear hT0
  subst e
  obtain ⟨t, as2, e, hT2⟩ := pR_x hT1
  clear hT1
  subst e
  obtain ⟨w, as3, e, hT3⟩ := pR_x hT2
  clear hT2
  subst e
  obtain ⟨e, hT⟩ := hT3
  subst e
  replace hlo : lay o = (12, 0) := hlo
  clear has
  replace hM : ∀ a i, -2147483648 ≤ σ a i ∧ σ a i ≤ 2147483647 := hM
  replace hT : TF_Life_settle o t w sz sl lay ρ σ τ k := hT
  unfold TF_Life_settle at hT
  obtain ⟨hF, hS, hL, hn, htw6, hwo, hB, hG, hs, bp, hI, hT⟩ := hT
  have htw : t + 13 ≤ w := by omega
  have hto : t + 13 ≤ o := by omega
  obtain ⟨J, hJd⟩ : ∃ J : Nat → List AV → Mm → Prop, J = (fun c vs M1 => (c = 2 ∧ ∃ (i : Int) (σ1 : Nat → Int → Int), (0 ≤ i ∧ i ≤ 600) ∧ Fr σ σ1 o 4 ∧ (∀ x, 0 ≤ x ∧ x < i → σ1 (o + 1) x = σ (w + 3) x ∧ σ1 (o + 2) x = 0 ∧ σ1 (o + 3) x = (if x < σ t 12 then σ (t + 5) x else 0)) ∧ vs = [vR o, vR t, vR w, vI i] ∧ M1 = (sz, sl, lay, ρ, σ1, τ)) ∨ (c = 49 ∧ ∃ (m r : Int) (σ1 : Nat → Int → Int), (0 ≤ r ∧ r ≤ 400000) ∧ Fr σ σ1 o 4 ∧ (∀ x, 0 ≤ x ∧ x < 600 → σ1 (o + 2) x = 0 ∧ σ1 (o + 3) x = (if x < σ t 12 then σ (t + 5) x else 0)) ∧ KI (gX σ t 0) (σ (w + 1)) (σ (w + 2)) (σ w 3) (σ1 (o + 1)) ∧ (m = 0 ∧ (∀ u v, Lv (σ (w + 1)) (σ w 3) u → gX σ t 0 u v → σ1 (o + 1) v = -1 ∨ Ch (σ1 (o + 1)) (σ1 (o + 1) v) u) ∨ m = 1 ∧ r + PhK (σ (w + 2)) (σ1 (o + 1)) ≤ 360000) ∧ vs = [vR o, vR t, vR w, vI m, vI r] ∧ M1 = (sz, sl, lay, ρ, σ1, τ))) := ⟨_, rfl⟩
  obtain ⟨μ, hμ⟩ : ∃ μ : Nat → List AV → Mm → Nat, μ = (fun c vs _ => if c = 2 then (2000000 - gI (vs.getD 3 vN)).toNat else (500000 - gI (vs.getD 4 vN)).toNat) := ⟨_, rfl⟩
  refine ⟨Nat.le_of_ble_eq_true rfl, J, μ, 58, ?_, ?_⟩
  · obtain ⟨fh, fp0, fp1, fp2, fp3, fq0, fq1, fq2, fq3⟩ := (show LLife lay ρ _ from hF)
    obtain ⟨sh, sp0, sp1, sp2, sq0, sq1, sq2⟩ := (show LSpread lay ρ _ from hS)
    obtain ⟨lh, lp0, lp1, lp2, lp3, lp4, lp5, lp6, lp7, lp8, lp9, lp10, lp11, lq0, lq1, lq2, lq3, lq4, lq5, lq6, lq7, lq8, lq9, lq10, lq11⟩ := (show LThings lay ρ _ from hL)
    unfold wps
    simp only [si_iload_n0, si_iload_n1, si_iload_n2, si_iload_n3, si_iload, si_lload_n0, si_lload_n1, si_lload_n2, si_lload_n3, si_lload, si_aload_n0, si_aload_n1, si_aload_n2, si_aload_n3, si_aload, si_istore_n0, si_istore_n1, si_istore_n2, si_istore_n3, si_istore, si_astore_n0, si_astore_n1, si_astore_n2, si_astore_n3, si_astore, si_lstore_n0, si_lstore_n1, si_lstore_n2, si_lstore_n3, si_lstore, si_iconst, si_bipush, si_sipush, si_ldc, si_ldc2_w, si_lconst0, si_lconst1, si_aconst_null, si_iinc, si_dup, si_dup2, si_iadd, si_isub, si_imul, si_idiv, si_irem, si_iand, si_ior, si_ishl, si_ishr, si_ladd, si_lmul, si_lor, si_lxor, si_lshl, si_lushr, si_lcmp, si_i2b, si_i2l, si_l2i, si_icmp_eq, si_icmp_ne, si_icmp_lt, si_icmp_ge, si_icmp_gt, si_icmp_le, si_if_eq, si_if_ne, si_if_lt, si_if_ge, si_if_gt, si_if_le, si_ifnull, si_ifnonnull, si_goto, si_tableswitch, si_lookupswitch, si_getfield, si_putfield, si_getstatic, si_iaload, si_baload, si_laload, si_aaload, si_iastore, si_bastore, si_lastore, si_aastore, si_arraylength, si_new, si_newarray, si_anewarray, si_invokevirtual, si_invokespecial, si_invokestatic, si_ireturn, si_lreturn, si_areturn, si_return_, pI_e, pL_e, pR_e, pA_r, pA_n, pN_n, pN_r, oI_e, oL_e, oA_r, oA_n, lget_e, lrm1_0, lrm2_0, lrm1_i, lrm1_r, lrm1_n, lrm1_l, lrm2_i, lrm2_r, lrm2_n, lrm2_l, popN_0, popN_s, acat_i, acat_l, acat_r, acat_n, stw_0, stw_s, psh_s, psh_n, wgf_r, wgf_i, wgf_b, wgf_n, wgf_m, wpf_i, wpf_r, wpf_b, wnew_e, callE_e, rbk_0, rbk_1, tsw_0, tsw_s, lsw_0, lsw_s, wp_s, wq_t, wq_f, oV_e, pick_0, pick_s, oZ_e, oY_e, r_Life_settle_0, r_Life_settle_1, r_Life_settle_2, r_Life_settle_3, r_Life_settle_6, r_Life_settle_9, r_Life_settle_10, r_Life_settle_13, r_Life_settle_14, r_Life_settle_15, r_Life_settle_16, r_Life_settle_19, r_Life_settle_20, r_Life_settle_21, r_Life_settle_24, r_Life_settle_25, r_Life_settle_26, r_Life_settle_27, r_Life_settle_28, r_Life_settle_31, r_Life_settle_32, r_Life_settle_33, r_Life_settle_34, r_Life_settle_37, r_Life_settle_38, r_Life_settle_41, r_Life_settle_44, r_Life_settle_45, r_Life_settle_46, r_Life_settle_47, r_Life_settle_49, r_Life_settle_50, r_Life_settle_53, r_Life_settle_55, r_Life_settle_57, r_Life_settle_60, r_Life_settle_61, r_Life_settle_62, r_Life_settle_63, r_Life_settle_66, r_Life_settle_67, r_Life_settle_70, r_Life_settle_73, r_Life_settle_74, r_Life_settle_75, r_Life_settle_76, r_Life_settle_79, r_Life_settle_80, r_Life_settle_81, r_Life_settle_84, xf_Life_settle_9, xf_Life_settle_15, xf_Life_settle_18, xk_Life_settle_42, xe_Life_settle_124, xe_Life_settle_148, xe_Life_settle_172, xe_Life_settle_188, xe_Life_settle_204, xd_Life_settle, xrb_Life_settle, xin_Life_settle, T_Spread_beforeOf_e, TF_Spread_beforeOf, T_Things_sizeOf_e, TF_Things_sizeOf, T_Life_moveKeepers_e, TF_Life_moveKeepers, T_Life_measure_e, TF_Life_measure, T_Life_rank_e, TF_Life_rank, fu_f1, fu_f2, fu_f3, fu_f4, hto, fu_g1, fu_g2, hwo, htw, fh, fp0, fp1, fp2, fp3, fq0, fq1, fq2, fq3, sh, sp0, sp1, sp2, sq0, sq1, sq2, lh, lp0, lp1, lp2, lp3, lp4, lp5, lp6, lp7, lp8, lp9, lp10, lp11, lq0, lq1, lq2, lq3, lq4, lq5, lq6, lq7, lq8, lq9, lq10, lq11, Nat.reduceAdd, Nat.reduceMul, Nat.reduceEqDiff, reduceIte, Int.reduceNeg, Int.reduceLE, Int.reduceLT, Int.reduceAdd, Int.reduceSub, Int.reduceToNat, true_and, and_true, inR_e, Nat.reduceLT, Nat.reduceLeDiff, reduceCtorEq, Nat.add_zero, Nat.zero_add, or_false, false_or, or_true, true_or, not_true_eq_false, not_false_eq_true, Classical.not_not, Nat.add_eq_zero_iff, and_false, false_and, Int.reduceEq, List.mem_cons, List.not_mem_nil, forall_eq_or_imp, forall_eq, false_implies, implies_true, forall_const, aargs_0, aargs_i, aargs_r, aargs_l, aargs_n, nfT_e, eq_self, and_self, Nat.le_refl, fu_s, fu_fu, iu_iu, iu_s, fu_am, fu_a0, fu_0a, iu_l, Nat.reduceBEq, Int.reduceBEq, T_objInit_e]
    clear fp0 fp1 fp2 fp3 sp0 sp1 sp2 lp0 lp1 lp2 lp3 lp4 lp5 lp6 lp7 lp8 lp9 lp10 lp11
    rw [hJd]
    exact Or.inl ⟨rfl, 0, σ, by omega, Fr.rfl', fun x hx => by omega, rfl, rfl⟩
  · intro cp vs M1 hvs hM1 hlen hJ
    rw [hJd] at hJ
    have hc := hI.ha
    have hcn := hI.cn hn.1
    rcases hJ with ⟨rfl, i, σ1, g1, g2, g3, rfl, rfl⟩ | ⟨rfl, m, r, σ1, g1, g2, g3, g4, g5, rfl, rfl⟩
    · have e0 : σ1 t = σ t := g2.lo (by omega)
      have et1 : σ1 (t + 1) = σ (t + 1) := g2.lo (by omega)
      have e5 : σ1 (t + 5) = σ (t + 5) := g2.lo (by omega)
      have e7 : σ1 (t + 7) = σ (t + 7) := g2.lo (by omega)
      have e9 : σ1 (t + 9) = σ (t + 9) := g2.lo (by omega)
      have ew : σ1 w = σ w := g2.lo (by omega)
      have ew1 : σ1 (w + 1) = σ (w + 1) := g2.lo (by omega)
      have ew2 : σ1 (w + 2) = σ (w + 2) := g2.lo (by omega)
      have ew3 : σ1 (w + 3) = σ (w + 3) := g2.lo (by omega)
      have eg : gX σ1 t 0 = gX σ t 0 := gX.fr g2 (by omega)
      (obtain ⟨fh, fp0, fp1, fp2, fp3, fq0, fq1, fq2, fq3⟩ := (show LLife lay ρ _ from hF); obtain ⟨sh, sp0, sp1, sp2, sq0, sq1, sq2⟩ := (show LSpread lay ρ _ from hS); obtain ⟨lh, lp0, lp1, lp2, lp3, lp4, lp5, lp6, lp7, lp8, lp9, lp10, lp11, lq0, lq1, lq2, lq3, lq4, lq5, lq6, lq7, lq8, lq9, lq10, lq11⟩ := (show LThings lay ρ _ from hL); unfold wps; simp only [Option.getD_some, List.zip_cons_cons, List.zip_nil_left, List.zip_nil_right, List.zip_nil_right, e0, et1, e5, e7, e9, ew, ew1, ew2, ew3, eg, si_iload_n0, si_iload_n1, si_iload_n2, si_iload_n3, si_iload, si_lload_n0, si_lload_n1, si_lload_n2, si_lload_n3, si_lload, si_aload_n0, si_aload_n1, si_aload_n2, si_aload_n3, si_aload, si_istore_n0, si_istore_n1, si_istore_n2, si_istore_n3, si_istore, si_astore_n0, si_astore_n1, si_astore_n2, si_astore_n3, si_astore, si_lstore_n0, si_lstore_n1, si_lstore_n2, si_lstore_n3, si_lstore, si_iconst, si_bipush, si_sipush, si_ldc, si_ldc2_w, si_lconst0, si_lconst1, si_aconst_null, si_iinc, si_dup, si_dup2, si_iadd, si_isub, si_imul, si_idiv, si_irem, si_iand, si_ior, si_ishl, si_ishr, si_ladd, si_lmul, si_lor, si_lxor, si_lshl, si_lushr, si_lcmp, si_i2b, si_i2l, si_l2i, si_icmp_eq, si_icmp_ne, si_icmp_lt, si_icmp_ge, si_icmp_gt, si_icmp_le, si_if_eq, si_if_ne, si_if_lt, si_if_ge, si_if_gt, si_if_le, si_ifnull, si_ifnonnull, si_goto, si_tableswitch, si_lookupswitch, si_getfield, si_putfield, si_getstatic, si_iaload, si_baload, si_laload, si_aaload, si_iastore, si_bastore, si_lastore, si_aastore, si_arraylength, si_new, si_newarray, si_anewarray, si_invokevirtual, si_invokespecial, si_invokestatic, si_ireturn, si_lreturn, si_areturn, si_return_, pI_e, pL_e, pR_e, pA_r, pA_n, pN_n, pN_r, oI_e, oL_e, oA_r, oA_n, lget_e, lrm1_0, lrm2_0, lrm1_i, lrm1_r, lrm1_n, lrm1_l, lrm2_i, lrm2_r, lrm2_n, lrm2_l, popN_0, popN_s, acat_i, acat_l, acat_r, acat_n, stw_0, stw_s, psh_s, psh_n, wgf_r, wgf_i, wgf_b, wgf_n, wgf_m, wpf_i, wpf_r, wpf_b, wnew_e, callE_e, rbk_0, rbk_1, tsw_0, tsw_s, lsw_0, lsw_s, wp_s, wq_t, wq_f, oV_e, pick_0, pick_s, oZ_e, oY_e, r_Life_settle_0, r_Life_settle_1, r_Life_settle_2, r_Life_settle_3, r_Life_settle_6, r_Life_settle_9, r_Life_settle_10, r_Life_settle_13, r_Life_settle_14, r_Life_settle_15, r_Life_settle_16, r_Life_settle_19, r_Life_settle_20, r_Life_settle_21, r_Life_settle_24, r_Life_settle_25, r_Life_settle_26, r_Life_settle_27, r_Life_settle_28, r_Life_settle_31, r_Life_settle_32, r_Life_settle_33, r_Life_settle_34, r_Life_settle_37, r_Life_settle_38, r_Life_settle_41, r_Life_settle_44, r_Life_settle_45, r_Life_settle_46, r_Life_settle_47, r_Life_settle_49, r_Life_settle_50, r_Life_settle_53, r_Life_settle_55, r_Life_settle_57, r_Life_settle_60, r_Life_settle_61, r_Life_settle_62, r_Life_settle_63, r_Life_settle_66, r_Life_settle_67, r_Life_settle_70, r_Life_settle_73, r_Life_settle_74, r_Life_settle_75, r_Life_settle_76, r_Life_settle_79, r_Life_settle_80, r_Life_settle_81, r_Life_settle_84, xf_Life_settle_9, xf_Life_settle_15, xf_Life_settle_18, xk_Life_settle_42, xe_Life_settle_124, xe_Life_settle_148, xe_Life_settle_172, xe_Life_settle_188, xe_Life_settle_204, xd_Life_settle, xrb_Life_settle, xin_Life_settle, T_Spread_beforeOf_e, TF_Spread_beforeOf, T_Things_sizeOf_e, TF_Things_sizeOf, T_Life_moveKeepers_e, TF_Life_moveKeepers, T_Life_measure_e, TF_Life_measure, T_Life_rank_e, TF_Life_rank, fu_f1, fu_f2, fu_f3, fu_f4, hto, fu_g1, fu_g2, hwo, htw, fh, fp0, fp1, fp2, fp3, fq0, fq1, fq2, fq3, sh, sp0, sp1, sp2, sq0, sq1, sq2, lh, lp0, lp1, lp2, lp3, lp4, lp5, lp6, lp7, lp8, lp9, lp10, lp11, lq0, lq1, lq2, lq3, lq4, lq5, lq6, lq7, lq8, lq9, lq10, lq11, Nat.reduceAdd, Nat.reduceMul, Nat.reduceEqDiff, reduceIte, Int.reduceNeg, Int.reduceLE, Int.reduceLT, Int.reduceAdd, Int.reduceSub, Int.reduceToNat, true_and, and_true, inR_e, Nat.reduceLT, Nat.reduceLeDiff, reduceCtorEq, Nat.add_zero, Nat.zero_add, or_false, false_or, or_true, true_or, not_true_eq_false, not_false_eq_true, Classical.not_not, Nat.add_eq_zero_iff, and_false, false_and, Int.reduceEq, List.mem_cons, List.not_mem_nil, forall_eq_or_imp, forall_eq, false_implies, implies_true, forall_const, aargs_0, aargs_i, aargs_r, aargs_l, aargs_n, nfT_e, eq_self, and_self, Nat.le_refl, fu_s, fu_fu, iu_iu, iu_s, fu_am, fu_a0, fu_0a, iu_l, Nat.reduceBEq, Int.reduceBEq, T_objInit_e]; clear fp0 fp1 fp2 fp3 sp0 sp1 sp2 lp0 lp1 lp2 lp3 lp4 lp5 lp6 lp7 lp8 lp9 lp10 lp11)
      have stp : ∀ v, v = (if i < σ t 12 then σ (t + 5) i else 0) → i < 600 → J 2 [vR o, vR t, vR w, vI (i + 1)] (sz, sl, lay, ρ, fu (fu (fu σ1 (o + 1) (iu (σ1 (o + 1)) i (σ (w + 3) i))) (o + 2) (iu (σ1 (o + 2)) i 0)) (o + 3) (iu (σ1 (o + 3)) i v), τ) := by
        intro v hv hi
        rw [hJd]
        refine Or.inl ⟨rfl, i + 1, _, by omega, ((g2.fu (by omega)).fu (by omega)).fu (by omega), fun x hx => ?_, rfl, rfl⟩
        rw [fu_s, fu_am (by decide), fu_am (by decide), fu_s, fu_am (by decide), fu_s]
        by_cases e : x = i
        · rw [e, iu_s, iu_s, iu_s]; exact ⟨rfl, rfl, hv⟩
        · rw [iu_n e, iu_n e, iu_n e]; exact g3 x (by omega)
      refine ⟨fun h => ⟨?_, (by rw [hμ]; simp only [gI_e, List.getD_cons_succ, List.getD_cons_zero, Nat.reduceEqDiff, reduceIte]; omega)⟩, fun h => ⟨hS, fun a => ⟨a.1, a.2, a.1, a.2, hL, hn, fun b => ⟨a.1, a.2, by omega, stp _ (by rw [if_pos b.2]) a.2, (by rw [hμ]; simp only [gI_e, List.getD_cons_succ, List.getD_cons_zero, Nat.reduceEqDiff, reduceIte]; omega)⟩, fun b => ⟨a.1, a.2, by omega, stp _ (by rw [if_neg (by omega)]) a.2, (by rw [hμ]; simp only [gI_e, List.getD_cons_succ, List.getD_cons_zero, Nat.reduceEqDiff, reduceIte]; omega)⟩⟩, fun z => absurd z (by omega)⟩⟩
      have kk : KI (gX σ t 0) (σ (w + 1)) (σ (w + 2)) (σ w 3) (σ1 (o + 1)) := KI.cg hI (KI.start hI) (fun x hx => (g3 x (by have := hI.lv_R hx; omega)).1)
      have := PhK_R hI hn kk
      rw [hJd]
      exact Or.inr ⟨rfl, 1, 0, σ1, by omega, g2, fun x hx => (g3 x (by omega)).2, kk, Or.inr ⟨rfl, by omega⟩, rfl, rfl⟩
    · have e0 : σ1 t = σ t := g2.lo (by omega)
      have et1 : σ1 (t + 1) = σ (t + 1) := g2.lo (by omega)
      have e5 : σ1 (t + 5) = σ (t + 5) := g2.lo (by omega)
      have e7 : σ1 (t + 7) = σ (t + 7) := g2.lo (by omega)
      have e9 : σ1 (t + 9) = σ (t + 9) := g2.lo (by omega)
      have ew : σ1 w = σ w := g2.lo (by omega)
      have ew1 : σ1 (w + 1) = σ (w + 1) := g2.lo (by omega)
      have ew2 : σ1 (w + 2) = σ (w + 2) := g2.lo (by omega)
      have ew3 : σ1 (w + 3) = σ (w + 3) := g2.lo (by omega)
      have eg : gX σ1 t 0 = gX σ t 0 := gX.fr g2 (by omega)
      have hI1 : SpW σ1 t w 0 bp := by
        unfold SpW
        rw [e0, et1, eg, ew1, ew2, ew3, ew]
        exact hI
      have hG1 : ThG σ1 t := hG.fr g2 hto
      have ph := PhK_R hI hn g4
      (obtain ⟨fh, fp0, fp1, fp2, fp3, fq0, fq1, fq2, fq3⟩ := (show LLife lay ρ _ from hF); obtain ⟨sh, sp0, sp1, sp2, sq0, sq1, sq2⟩ := (show LSpread lay ρ _ from hS); obtain ⟨lh, lp0, lp1, lp2, lp3, lp4, lp5, lp6, lp7, lp8, lp9, lp10, lp11, lq0, lq1, lq2, lq3, lq4, lq5, lq6, lq7, lq8, lq9, lq10, lq11⟩ := (show LThings lay ρ _ from hL); unfold wps; simp only [Option.getD_some, List.zip_cons_cons, List.zip_nil_left, List.zip_nil_right, List.zip_nil_right, e0, et1, e5, e7, e9, ew, ew1, ew2, ew3, eg, si_iload_n0, si_iload_n1, si_iload_n2, si_iload_n3, si_iload, si_lload_n0, si_lload_n1, si_lload_n2, si_lload_n3, si_lload, si_aload_n0, si_aload_n1, si_aload_n2, si_aload_n3, si_aload, si_istore_n0, si_istore_n1, si_istore_n2, si_istore_n3, si_istore, si_astore_n0, si_astore_n1, si_astore_n2, si_astore_n3, si_astore, si_lstore_n0, si_lstore_n1, si_lstore_n2, si_lstore_n3, si_lstore, si_iconst, si_bipush, si_sipush, si_ldc, si_ldc2_w, si_lconst0, si_lconst1, si_aconst_null, si_iinc, si_dup, si_dup2, si_iadd, si_isub, si_imul, si_idiv, si_irem, si_iand, si_ior, si_ishl, si_ishr, si_ladd, si_lmul, si_lor, si_lxor, si_lshl, si_lushr, si_lcmp, si_i2b, si_i2l, si_l2i, si_icmp_eq, si_icmp_ne, si_icmp_lt, si_icmp_ge, si_icmp_gt, si_icmp_le, si_if_eq, si_if_ne, si_if_lt, si_if_ge, si_if_gt, si_if_le, si_ifnull, si_ifnonnull, si_goto, si_tableswitch, si_lookupswitch, si_getfield, si_putfield, si_getstatic, si_iaload, si_baload, si_laload, si_aaload, si_iastore, si_bastore, si_lastore, si_aastore, si_arraylength, si_new, si_newarray, si_anewarray, si_invokevirtual, si_invokespecial, si_invokestatic, si_ireturn, si_lreturn, si_areturn, si_return_, pI_e, pL_e, pR_e, pA_r, pA_n, pN_n, pN_r, oI_e, oL_e, oA_r, oA_n, lget_e, lrm1_0, lrm2_0, lrm1_i, lrm1_r, lrm1_n, lrm1_l, lrm2_i, lrm2_r, lrm2_n, lrm2_l, popN_0, popN_s, acat_i, acat_l, acat_r, acat_n, stw_0, stw_s, psh_s, psh_n, wgf_r, wgf_i, wgf_b, wgf_n, wgf_m, wpf_i, wpf_r, wpf_b, wnew_e, callE_e, rbk_0, rbk_1, tsw_0, tsw_s, lsw_0, lsw_s, wp_s, wq_t, wq_f, oV_e, pick_0, pick_s, oZ_e, oY_e, r_Life_settle_0, r_Life_settle_1, r_Life_settle_2, r_Life_settle_3, r_Life_settle_6, r_Life_settle_9, r_Life_settle_10, r_Life_settle_13, r_Life_settle_14, r_Life_settle_15, r_Life_settle_16, r_Life_settle_19, r_Life_settle_20, r_Life_settle_21, r_Life_settle_24, r_Life_settle_25, r_Life_settle_26, r_Life_settle_27, r_Life_settle_28, r_Life_settle_31, r_Life_settle_32, r_Life_settle_33, r_Life_settle_34, r_Life_settle_37, r_Life_settle_38, r_Life_settle_41, r_Life_settle_44, r_Life_settle_45, r_Life_settle_46, r_Life_settle_47, r_Life_settle_49, r_Life_settle_50, r_Life_settle_53, r_Life_settle_55, r_Life_settle_57, r_Life_settle_60, r_Life_settle_61, r_Life_settle_62, r_Life_settle_63, r_Life_settle_66, r_Life_settle_67, r_Life_settle_70, r_Life_settle_73, r_Life_settle_74, r_Life_settle_75, r_Life_settle_76, r_Life_settle_79, r_Life_settle_80, r_Life_settle_81, r_Life_settle_84, xf_Life_settle_9, xf_Life_settle_15, xf_Life_settle_18, xk_Life_settle_42, xe_Life_settle_124, xe_Life_settle_148, xe_Life_settle_172, xe_Life_settle_188, xe_Life_settle_204, xd_Life_settle, xrb_Life_settle, xin_Life_settle, T_Spread_beforeOf_e, TF_Spread_beforeOf, T_Things_sizeOf_e, TF_Things_sizeOf, T_Life_moveKeepers_e, TF_Life_moveKeepers, T_Life_measure_e, TF_Life_measure, T_Life_rank_e, TF_Life_rank, fu_f1, fu_f2, fu_f3, fu_f4, hto, fu_g1, fu_g2, hwo, htw, fh, fp0, fp1, fp2, fp3, fq0, fq1, fq2, fq3, sh, sp0, sp1, sp2, sq0, sq1, sq2, lh, lp0, lp1, lp2, lp3, lp4, lp5, lp6, lp7, lp8, lp9, lp10, lp11, lq0, lq1, lq2, lq3, lq4, lq5, lq6, lq7, lq8, lq9, lq10, lq11, Nat.reduceAdd, Nat.reduceMul, Nat.reduceEqDiff, reduceIte, Int.reduceNeg, Int.reduceLE, Int.reduceLT, Int.reduceAdd, Int.reduceSub, Int.reduceToNat, true_and, and_true, inR_e, Nat.reduceLT, Nat.reduceLeDiff, reduceCtorEq, Nat.add_zero, Nat.zero_add, or_false, false_or, or_true, true_or, not_true_eq_false, not_false_eq_true, Classical.not_not, Nat.add_eq_zero_iff, and_false, false_and, Int.reduceEq, List.mem_cons, List.not_mem_nil, forall_eq_or_imp, forall_eq, false_implies, implies_true, forall_const, aargs_0, aargs_i, aargs_r, aargs_l, aargs_n, nfT_e, eq_self, and_self, Nat.le_refl, fu_s, fu_fu, iu_iu, iu_s, fu_am, fu_a0, fu_0a, iu_l, Nat.reduceBEq, Int.reduceBEq, T_objInit_e]; clear fp0 fp1 fp2 fp3 sp0 sp1 sp2 lp0 lp1 lp2 lp3 lp4 lp5 lp6 lp7 lp8 lp9 lp10 lp11)
      have fin : m = 0 → ∀ σ2 : Nat → Int → Int, Fr σ1 σ2 o 4 → σ2 (o + 1) = σ1 (o + 1) → (∀ x, Lv (σ (w + 1)) (σ w 3) x → σ2 (o + 2) x = cntP (fun y => Ch (σ1 (o + 1)) y x) (σ t 12).toNat) → (∀ x, 0 ≤ x ∧ x < 600 → ¬ Lv (σ (w + 1)) (σ w 3) x → σ2 (o + 2) x = 0) → (∀ y, Lv (σ (w + 1)) (σ w 3) y → σ2 (o + 3) y = sumP (fun x => Lv (σ (w + 1)) (σ w 3) x ∧ Ch (σ1 (o + 1)) y x) (σ (t + 5)) (σ t 12).toNat) → σ2 o 5 = sumP (fun x => Lv (σ (w + 1)) (σ w 3) x) (σ (t + 5)) (σ t 12).toNat → (LLife lay ρ o ∧ LThings lay ρ t ∧ (0 ≤ σ2 t 12 ∧ σ2 t 12 ≤ 600) ∧ ThB σ2 t ∧ ∀ σ3 : Nat → Int → Int, RkF σ2 σ3 o → RkI (σ2 t 12) (σ2 (t + 1)) (σ2 (t + 7)) (fun x => 0 < σ2 (o + 2) x) (σ2 (o + 3)) (σ3 (o + 4)) (σ3 o 4) (σ2 t 12) → k none (sz, sl, lay, ρ, σ3, τ)) := by
        intro hm σ2 w1 w2 w3 w4 w5 w6
        have w7 := g2.trans w1
        have r0 : σ2 t = σ t := w7.lo (by omega)
        have r1 : σ2 (t + 1) = σ (t + 1) := w7.lo (by omega)
        have r7 : σ2 (t + 7) = σ (t + 7) := w7.lo (by omega)
        refine ⟨hF, hL, by rw [r0]; exact hn, hB.fr w7 hto, fun σ3 v1 v2 => ?_⟩
        rw [r0, r1, r7] at v2
        refine hT σ3 (w7.trans v1.1) ?_
        unfold LfI
        rw [v1.2.1, v1.2.2.1, v1.2.2.2.1, v1.2.2.2.2, w2]
        rcases g5 with g5 | g5
        · exact ⟨g4, g5.2, w3, w4, w5, w6, v2⟩
        · omega
      refine ⟨fun hm => ⟨hF, hS, hL, hn, hs, bp, hI1, g4, fun i hi => (g3 i hi).1, fun i hi => by rw [(g3 i (by omega)).2, if_pos hi.2], fin hm⟩, fun hm => ⟨fun h => by omega, fun h => ⟨hF, hS, hL, hn, hG1, bp, hI1, g4, fun K2 m2 w1 w2 => ⟨by omega, ?_, (by rw [hμ]; simp only [gI_e, List.getD_cons_succ, List.getD_cons_zero, Nat.reduceEqDiff, reduceIte]; omega)⟩⟩⟩⟩
      have g6 : r + PhK (σ (w + 2)) (σ1 (o + 1)) ≤ 360000 := by
        rcases g5 with g5 | g5
        · exact absurd g5.1 hm
        · exact g5.2
      rw [hJd]
      refine Or.inr ⟨rfl, m2, r + 1, _, by omega, g2.fu (by omega), fun x hx => ?_, by rw [fu_s]; exact w1, ?_, rfl, rfl⟩
      · rw [fu_am (by decide), fu_am (by decide)]; exact g3 x hx
      · rw [fu_s]
        rcases w2 with w2 | w2
        · exact Or.inl ⟨w2.1, fun u v hu e => w2.2.2 u v hu trivial e⟩
        · exact Or.inr ⟨w2.1, by omega⟩

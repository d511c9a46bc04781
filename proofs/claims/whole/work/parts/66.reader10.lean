def TF_PR_differs (o : Nat) (p : Int) (q : Int) (w : Int) (y : Int) (sz sl : Nat) (lay : Nat → Nat × Int) (ρ : Nat → Int → Nat) (σ : Nat → Int → Int) (τ : Nat → Int → Int64) (k : Option AV → Mm → Prop) : Prop := ∃ (U : Int → Int) (len : Int) (st : Nat → Int → Int) (V : Int → Int) (lem : Int) (su : Nat → Int → Int), RdP lay ρ σ τ o p U len st ∧ RdP lay ρ σ τ o q V lem su ∧ (((0 ≤ p ∧ p < 3) ∧ (0 ≤ q ∧ q < 3) ∧ (0 ≤ w ∧ w < 5) ∧ 0 ≤ y) → (∀ x, (0 ≤ x ∧ x < 65536) → dfP U st V su w x → cntP (dfP U st V su w) x.toNat = y → k (some (vI (x))) (sz, sl, lay, ρ, σ, τ)) ∧ (cntP (dfP U st V su w) 65536 ≤ y → k (some (vI (-1))) (sz, sl, lay, ρ, σ, τ))) ∧ (¬ ((0 ≤ p ∧ p < 3) ∧ (0 ≤ q ∧ q < 3) ∧ (0 ≤ w ∧ w < 5) ∧ 0 ≤ y) → k (some (vI (-1))) (sz, sl, lay, ρ, σ, τ))
def T_PR_differs : Tr := mkT 10 fun o as M k => pI as fun p as => pI as fun q as => pI as fun w as => pI as fun y as => as = [] ∧ TF_PR_differs o p q w y M.1 M.2.1 M.2.2.1 M.2.2.2.1 M.2.2.2.2.1 M.2.2.2.2.2 k
theorem T_PR_differs_e {o : Nat} {p : Int} {q : Int} {w : Int} {y : Int} {sz sl : Nat} {lay : Nat → Nat × Int} {ρ : Nat → Int → Nat} {σ : Nat → Int → Int} {τ : Nat → Int → Int64} {k : Option AV → Mm → Prop} : T_PR_differs [vR o, vI p, vI q, vI w, vI y] (sz, sl, lay, ρ, σ, τ) k = (lay o = (20, 0) ∧ TF_PR_differs o p q w y sz sl lay ρ σ τ k) := by simp [T_PR_differs, mkT_e, pI_e, pR_e, pL_e]
theorem T_PR_differs_r (as : List AV) (M : Mm) (k : Option AV → Mm → Prop) (h : T_PR_differs as M k) : ∃ b As, as = vR b :: As ∧ M.2.2.1 b = (10 + 10, 0) := by
  obtain ⟨b, As, h1, h2, -⟩ := mkT_r h
  exact ⟨b, As, h1, h2⟩
def tb_PR_differs : List (Nat × Option (List Nat) × Instr × List Nat) := [(0, none, .aload_n 0, []), (1, none, .iload_n 1, []), (2, none, .invokevirtual 45, []), (5, none, .astore 5, []), (7, none, .aload_n 0, []), (8, none, .iload_n 2, []), (9, none, .invokevirtual 45, []), (12, none, .astore 6, []), (14, none, .aload 5, []), (16, none, .ifnull 22, [38]), (19, none, .aload 6, []), (21, none, .ifnull 17, [38]), (24, none, .iload_n 3, []), (25, none, .ifCond .lt 13, [38]), (28, none, .iload_n 3, []), (29, none, .iconst 5, []), (30, none, .if_icmp .ge 8, [38]), (33, none, .iload 4, []), (35, none, .ifCond .ge 5, [40]), (38, none, .iconst (-1), []), (39, none, .ireturn, []), (40, none, .iconst 0, []), (41, none, .istore 7, []), (43, none, .iconst 0, []), (44, none, .istore 8, []), (46, some [3, 4, 5, 6, 7, 8], .iload 8, []), (48, none, .sipush 600, []), (51, none, .if_icmp .ge 46, [97]), (54, none, .aload 5, []), (56, none, .getfield 71, []), (59, none, .aload 6, []), (61, none, .getfield 71, []), (64, none, .iload_n 3, []), (65, none, .iload 8, []), (67, none, .invokestatic 150, []), (70, none, .istore 9, []), (72, none, .iload 9, []), (74, none, .iconst (-1), []), (75, none, .if_icmp .eq 16, [91]), (78, none, .iload 7, []), (80, none, .iload 4, []), (82, none, .if_icmp .ne 6, [88]), (85, none, .iload 9, []), (87, none, .ireturn, []), (88, none, .iinc 7 1, []), (91, none, .iinc 8 1, []), (94, none, .goto (-48), [46]), (97, none, .iconst (-1), []), (98, none, .ireturn, [])]
def P_PR_differs : Nat → Option (List Nat) × Instr × List Nat := plk tb_PR_differs
theorem r_PR_differs_0 : P_PR_differs 0 = (none, .aload_n 0, []) := by decide +kernel
theorem r_PR_differs_1 : P_PR_differs 1 = (none, .iload_n 1, []) := by decide +kernel
theorem r_PR_differs_2 : P_PR_differs 2 = (none, .invokevirtual 45, []) := by decide +kernel
theorem r_PR_differs_5 : P_PR_differs 5 = (none, .astore 5, []) := by decide +kernel
theorem r_PR_differs_7 : P_PR_differs 7 = (none, .aload_n 0, []) := by decide +kernel
theorem r_PR_differs_8 : P_PR_differs 8 = (none, .iload_n 2, []) := by decide +kernel
theorem r_PR_differs_9 : P_PR_differs 9 = (none, .invokevirtual 45, []) := by decide +kernel
theorem r_PR_differs_12 : P_PR_differs 12 = (none, .astore 6, []) := by decide +kernel
theorem r_PR_differs_14 : P_PR_differs 14 = (none, .aload 5, []) := by decide +kernel
theorem r_PR_differs_16 : P_PR_differs 16 = (none, .ifnull 22, [38]) := by decide +kernel
theorem r_PR_differs_19 : P_PR_differs 19 = (none, .aload 6, []) := by decide +kernel
theorem r_PR_differs_21 : P_PR_differs 21 = (none, .ifnull 17, [38]) := by decide +kernel
theorem r_PR_differs_24 : P_PR_differs 24 = (none, .iload_n 3, []) := by decide +kernel
theorem r_PR_differs_25 : P_PR_differs 25 = (none, .ifCond .lt 13, [38]) := by decide +kernel
theorem r_PR_differs_28 : P_PR_differs 28 = (none, .iload_n 3, []) := by decide +kernel
theorem r_PR_differs_29 : P_PR_differs 29 = (none, .iconst 5, []) := by decide +kernel
theorem r_PR_differs_30 : P_PR_differs 30 = (none, .if_icmp .ge 8, [38]) := by decide +kernel
theorem r_PR_differs_33 : P_PR_differs 33 = (none, .iload 4, []) := by decide +kernel
theorem r_PR_differs_35 : P_PR_differs 35 = (none, .ifCond .ge 5, [40]) := by decide +kernel
theorem r_PR_differs_38 : P_PR_differs 38 = (none, .iconst (-1), []) := by decide +kernel
theorem r_PR_differs_39 : P_PR_differs 39 = (none, .ireturn, []) := by decide +kernel
theorem r_PR_differs_40 : P_PR_differs 40 = (none, .iconst 0, []) := by decide +kernel
theorem r_PR_differs_41 : P_PR_differs 41 = (none, .istore 7, []) := by decide +kernel
theorem r_PR_differs_43 : P_PR_differs 43 = (none, .iconst 0, []) := by decide +kernel
theorem r_PR_differs_44 : P_PR_differs 44 = (none, .istore 8, []) := by decide +kernel
theorem r_PR_differs_46 : P_PR_differs 46 = (some [3, 4, 5, 6, 7, 8], .iload 8, []) := by decide +kernel
theorem r_PR_differs_48 : P_PR_differs 48 = (none, .sipush 600, []) := by decide +kernel
theorem r_PR_differs_51 : P_PR_differs 51 = (none, .if_icmp .ge 46, [97]) := by decide +kernel
theorem r_PR_differs_54 : P_PR_differs 54 = (none, .aload 5, []) := by decide +kernel
theorem r_PR_differs_56 : P_PR_differs 56 = (none, .getfield 71, []) := by decide +kernel
theorem r_PR_differs_59 : P_PR_differs 59 = (none, .aload 6, []) := by decide +kernel
theorem r_PR_differs_61 : P_PR_differs 61 = (none, .getfield 71, []) := by decide +kernel
theorem r_PR_differs_64 : P_PR_differs 64 = (none, .iload_n 3, []) := by decide +kernel
theorem r_PR_differs_65 : P_PR_differs 65 = (none, .iload 8, []) := by decide +kernel
theorem r_PR_differs_67 : P_PR_differs 67 = (none, .invokestatic 150, []) := by decide +kernel
theorem r_PR_differs_70 : P_PR_differs 70 = (none, .istore 9, []) := by decide +kernel
theorem r_PR_differs_72 : P_PR_differs 72 = (none, .iload 9, []) := by decide +kernel
theorem r_PR_differs_74 : P_PR_differs 74 = (none, .iconst (-1), []) := by decide +kernel
theorem r_PR_differs_75 : P_PR_differs 75 = (none, .if_icmp .eq 16, [91]) := by decide +kernel
theorem r_PR_differs_78 : P_PR_differs 78 = (none, .iload 7, []) := by decide +kernel
theorem r_PR_differs_80 : P_PR_differs 80 = (none, .iload 4, []) := by decide +kernel
theorem r_PR_differs_82 : P_PR_differs 82 = (none, .if_icmp .ne 6, [88]) := by decide +kernel
theorem r_PR_differs_85 : P_PR_differs 85 = (none, .iload 9, []) := by decide +kernel
theorem r_PR_differs_87 : P_PR_differs 87 = (none, .ireturn, []) := by decide +kernel
theorem r_PR_differs_88 : P_PR_differs 88 = (none, .iinc 7 1, []) := by decide +kernel
theorem r_PR_differs_91 : P_PR_differs 91 = (none, .iinc 8 1, []) := by decide +kernel
theorem r_PR_differs_94 : P_PR_differs 94 = (none, .goto (-48), [46]) := by decide +kernel
theorem r_PR_differs_97 : P_PR_differs 97 = (none, .iconst (-1), []) := by decide +kernel
theorem r_PR_differs_98 : P_PR_differs 98 = (none, .ireturn, []) := by decide +kernel
def E_PR_differs : List (Nat × Ent) := [(602, (4, 5, 0, 0, T_PR_relatedAt)), (180, (2, 0, 0, 0, T_PR_pictureAt))]
def X_PR_differs : Cx := (llk (0, 0, 9) ftX10, llk 99 ntX10, llk none kcX10, llk none klX10, llk dEnt E_PR_differs, 6, 0, false)
theorem xok_PR_differs : Xok RX10 X_PR_differs := xok_of ftX10_ok ntX10_ok kcX10_ok klX10_ok (E := E_PR_differs) (List.forall_mem_cons.mpr ⟨co_X10_602, List.forall_mem_cons.mpr ⟨co_X10_180, fun _ h => absurd h List.not_mem_nil⟩⟩)
theorem xf_PR_differs_71 : xfl X_PR_differs 71 = (3, 1, 3) := by decide +kernel
theorem xe_PR_differs_602 : xE X_PR_differs (4 * 150 + 2) = (4, 5, 0, 0, T_PR_relatedAt) := rfl
theorem xe_PR_differs_180 : xE X_PR_differs (4 * 45 + 0) = (2, 0, 0, 0, T_PR_pictureAt) := rfl
theorem xd_PR_differs : xd X_PR_differs = 6 := rfl
theorem xrb_PR_differs : xrb X_PR_differs = 0 := rfl
theorem xin_PR_differs : xin X_PR_differs = false := rfl
set_option maxHeartbeats 4000000 in
set_option maxRecDepth 100000 in
theorem S_PR_differs : Snd yX10_differs cX10_differs 10 (some .int) T_PR_differs 6 0 0 := by
  refine snd_of (X := X_PR_differs) (P := P_PR_differs) (tb := tb_PR_differs) (own := RX10) (by decide) rfl rfl (by decide +kernel) xok_PR_differs rfl rk0 (fun h => by first | rfl | cases h) ?_
  intro as M k has hM hT0
  obtain ⟨sz, sl, lay, ρ, σ, τ⟩ := M
  obtain ⟨o, as1, e, hlo, hT1⟩ := mkT_r hT0
  clear hT0
  subst e
  obtain ⟨p, as2, e, hT2⟩ := pI_x hT1
  clear hT1
  subst e
  obtain ⟨q, as3, e, hT3⟩ := pI_x hT2
  clear hT2
  subst e
  obtain ⟨w, as4, e, hT4⟩ := pI_x hT3
  clear hT3
  subst e
  obtain ⟨y, as5, e, hT5⟩ := pI_x hT4
  clear hT4
  subst e
  obtain ⟨e, hT⟩ := hT5
  subst e
  replace hlo : lay o = (20, 0) := hlo
  have r_p : -2147483648 ≤ p ∧ p ≤ 2147483647 := has (vI p) (by simp)
  have r_q : -2147483648 ≤ q ∧ q ≤ 2147483647 := has (vI q) (by simp)
  have r_w : -2147483648 ≤ w ∧ w ≤ 2147483647 := has (vI w) (by simp)
  have r_y : -2147483648 ≤ y ∧ y ≤ 2147483647 := has (vI y) (by simp)
  clear has
  replace hM : ∀ a i, -2147483648 ≤ σ a i ∧ σ a i ≤ 2147483647 := hM
  replace hT : TF_PR_differs o p q w y sz sl lay ρ σ τ k := hT
  unfold TF_PR_differs at hT
  obtain ⟨U, len, st, V, lem, su, hRP, hRP2, h1, h0⟩ := hT
  obtain ⟨hR, hPR⟩ := (show RdP lay ρ σ τ o p U len st from hRP)
  obtain ⟨-, hPR2⟩ := (show RdP lay ρ σ τ o q V lem su from hRP2)
  have r0 : lay o = (20, 0) := hR.1
  obtain ⟨J, hJd⟩ : ∃ J : Nat → List AV → Mm → Prop, J = (fun c vs M1 => c = 46 ∧ ∃ r n : Nat, ((0 ≤ p ∧ p < 3) ∧ (0 ≤ q ∧ q < 3) ∧ (0 ≤ w ∧ w < 5) ∧ 0 ≤ y) ∧ r ≤ 600 ∧ (((r : Int) ≤ (if w = 0 then su 0 7 else st 0 7) → n = r) ∧ ((if w = 0 then su 0 7 else st 0 7) ≤ (r : Int) → (n : Int) = (if w = 0 then su 0 7 else st 0 7))) ∧ (cntZ (fun r => decide (relP U st V su (σ ((if w = 0 then o + 6 + 44 * q.toNat + 8 else o + 6 + 44 * p.toNat + 8) + 1) (σ ((if w = 0 then o + 6 + 44 * q.toNat + 8 else o + 6 + 44 * p.toNat + 8) + 7) r)) = w)) n ≤ y) ∧ vs = [vI w, vI y, vR (o + 6 + 44 * p.toNat), vR (o + 6 + 44 * q.toNat), vI (cntZ (fun r => decide (relP U st V su (σ ((if w = 0 then o + 6 + 44 * q.toNat + 8 else o + 6 + 44 * p.toNat + 8) + 1) (σ ((if w = 0 then o + 6 + 44 * q.toNat + 8 else o + 6 + 44 * p.toNat + 8) + 7) r)) = w)) n), vI r] ∧ M1 = (sz, sl, lay, ρ, σ, τ)) := ⟨_, rfl⟩
  obtain ⟨μ, hμ⟩ : ∃ μ : Nat → List AV → Mm → Nat, μ = (fun _ vs _ => (1000 - gI (vs.getD 5 vN)).toNat) := ⟨_, rfl⟩
  refine ⟨Nat.le_of_ble_eq_true rfl, J, μ, 57, ?_, ?_⟩
  · skip
    by_cases hpq : (0 ≤ p ∧ p < 3) ∧ (0 ≤ q ∧ q < 3)
    · obtain ⟨hp, hq⟩ := hpq
      have hpE : (0 ≤ p ∧ p < 3) = True := eq_true hp
      have hqE : (0 ≤ q ∧ q < 3) = True := eq_true hq
      obtain ⟨P, eP, -, hPc, hP0⟩ := hR.pic hp
      have hPe : o + 6 + 44 * p.toNat = P := eP.symm
      obtain ⟨Q, eQ, -, hQc, hQ0⟩ := hR.pic hq
      have hQe : o + 6 + 44 * q.toNat = Q := eQ.symm
      have hP := hPc.1
      have hQ := hQc.1
      have w9 := (hPR hp).1.2.2.2.2.2.2.2.2.2.1
      have y9 := (hPR2 hq).1.2.2.2.2.2.2.2.2.2.1
      have nb0 : 0 ≤ (if w = 0 then su 0 7 else st 0 7) := by split <;> omega
      (obtain ⟨ph, pp0, pp1, pp2, pp3, pp4, pp5, pp6, pp7, pq0, pq1, pq2, pq3, pq4, pq5, pq6, pq7⟩ := (show LPicture lay ρ _ from hP); obtain ⟨gh, gp0, gp1, gp2, gp3, gp4, gp5, gp6, gp7, gq0, gq1, gq2, gq3, gq4, gq5, gq6, gq7⟩ := (show LPicture lay ρ _ from hQ); unfold wps; simp only [hpE, hPe, hqE, hQe, si_iload_n0, si_iload_n1, si_iload_n2, si_iload_n3, si_iload, si_lload_n0, si_lload_n1, si_lload_n2, si_lload_n3, si_lload, si_aload_n0, si_aload_n1, si_aload_n2, si_aload_n3, si_aload, si_istore_n0, si_istore_n1, si_istore_n2, si_istore_n3, si_istore, si_astore_n0, si_astore_n1, si_astore_n2, si_astore_n3, si_astore, si_lstore_n0, si_lstore_n1, si_lstore_n2, si_lstore_n3, si_lstore, si_iconst, si_bipush, si_sipush, si_ldc, si_ldc2_w, si_lconst0, si_lconst1, si_aconst_null, si_iinc, si_dup, si_dup2, si_iadd, si_isub, si_imul, si_idiv, si_irem, si_iand, si_ior, si_ishl, si_ishr, si_ladd, si_lmul, si_lor, si_lxor, si_lshl, si_lushr, si_lcmp, si_i2b, si_i2l, si_l2i, si_icmp_eq, si_icmp_ne, si_icmp_lt, si_icmp_ge, si_icmp_gt, si_icmp_le, si_if_eq, si_if_ne, si_if_lt, si_if_ge, si_if_gt, si_if_le, si_ifnull, si_ifnonnull, si_goto, si_tableswitch, si_lookupswitch, si_getfield, si_putfield, si_getstatic, si_iaload, si_baload, si_laload, si_aaload, si_iastore, si_bastore, si_lastore, si_aastore, si_arraylength, si_new, si_newarray, si_anewarray, si_invokevirtual, si_invokespecial, si_invokestatic, si_ireturn, si_lreturn, si_areturn, si_return_, pI_e, pL_e, pR_e, pA_r, pA_n, pN_n, pN_r, oI_e, oL_e, oA_r, oA_n, lget_e, lrm1_0, lrm2_0, lrm1_i, lrm1_r, lrm1_n, lrm1_l, lrm2_i, lrm2_r, lrm2_n, lrm2_l, popN_0, popN_s, acat_i, acat_l, acat_r, acat_n, stw_0, stw_s, psh_s, psh_n, wgf_r, wgf_i, wgf_b, wgf_n, wgf_m, wpf_i, wpf_r, wpf_b, wnew_e, callE_e, rbk_0, rbk_1, tsw_0, tsw_s, lsw_0, lsw_s, wp_s, wq_t, wq_f, oV_e, pick_0, pick_s, oZ_e, oY_e, r_PR_differs_0, r_PR_differs_1, r_PR_differs_2, r_PR_differs_5, r_PR_differs_7, r_PR_differs_8, r_PR_differs_9, r_PR_differs_12, r_PR_differs_14, r_PR_differs_16, r_PR_differs_19, r_PR_differs_21, r_PR_differs_24, r_PR_differs_25, r_PR_differs_28, r_PR_differs_29, r_PR_differs_30, r_PR_differs_33, r_PR_differs_35, r_PR_differs_38, r_PR_differs_39, r_PR_differs_40, r_PR_differs_41, r_PR_differs_43, r_PR_differs_44, r_PR_differs_46, r_PR_differs_48, r_PR_differs_51, r_PR_differs_54, r_PR_differs_56, r_PR_differs_59, r_PR_differs_61, r_PR_differs_64, r_PR_differs_65, r_PR_differs_67, r_PR_differs_70, r_PR_differs_72, r_PR_differs_74, r_PR_differs_75, r_PR_differs_78, r_PR_differs_80, r_PR_differs_82, r_PR_differs_85, r_PR_differs_87, r_PR_differs_88, r_PR_differs_91, r_PR_differs_94, r_PR_differs_97, r_PR_differs_98, xf_PR_differs_71, xe_PR_differs_602, xe_PR_differs_180, xd_PR_differs, xrb_PR_differs, xin_PR_differs, T_PR_relatedAt_e, TF_PR_relatedAt, T_PR_pictureAt_e, TF_PR_pictureAt, r0, ph, pp0, pp1, pp2, pp3, pp4, pp5, pp6, pp7, pq0, pq1, pq2, pq3, pq4, pq5, pq6, pq7, gh, gp0, gp1, gp2, gp3, gp4, gp5, gp6, gp7, gq0, gq1, gq2, gq3, gq4, gq5, gq6, gq7, Nat.reduceAdd, Nat.reduceMul, Nat.reduceEqDiff, reduceIte, Int.reduceNeg, Int.reduceLE, Int.reduceLT, Int.reduceAdd, Int.reduceSub, Int.reduceToNat, true_and, and_true, inR_e, Nat.reduceLT, Nat.reduceLeDiff, reduceCtorEq, Nat.add_zero, Nat.zero_add, or_false, false_or, or_true, true_or, not_true_eq_false, not_false_eq_true, Classical.not_not, Nat.add_eq_zero_iff, and_false, false_and, Int.reduceEq, List.mem_cons, List.not_mem_nil, forall_eq_or_imp, forall_eq, false_implies, implies_true, forall_const, aargs_0, aargs_i, aargs_r, aargs_l, aargs_n, nfT_e, eq_self, and_self, Nat.le_refl, fu_s, fu_fu, iu_iu, iu_s, fu_am, fu_a0, fu_0a, iu_l, Nat.reduceBEq, Int.reduceBEq, T_objInit_e]; clear pp0 pp1 pp2 pp3 pp4 pp5 pp6 pp7 gp0 gp1 gp2 gp3 gp4 gp5 gp6 gp7)
      refine ⟨hR, hR, fun a => h0 (fun z => by omega), fun a => ⟨fun b => h0 (fun z => by omega), fun b => ⟨fun d => ?_, fun d => h0 (fun z => d z.2.2.2)⟩⟩⟩
      rw [hJd, ← hPe, ← hQe]
      exact ⟨rfl, 0, 0, ⟨hp, hq, by omega, d⟩, by omega, ⟨fun _ => rfl, fun z => by omega⟩, by show (0 : Int) ≤ y; exact d, rfl, rfl⟩
    · (unfold wps; simp only [si_iload_n0, si_iload_n1, si_iload_n2, si_iload_n3, si_iload, si_lload_n0, si_lload_n1, si_lload_n2, si_lload_n3, si_lload, si_aload_n0, si_aload_n1, si_aload_n2, si_aload_n3, si_aload, si_istore_n0, si_istore_n1, si_istore_n2, si_istore_n3, si_istore, si_astore_n0, si_astore_n1, si_astore_n2, si_astore_n3, si_astore, si_lstore_n0, si_lstore_n1, si_lstore_n2, si_lstore_n3, si_lstore, si_iconst, si_bipush, si_sipush, si_ldc, si_ldc2_w, si_lconst0, si_lconst1, si_aconst_null, si_iinc, si_dup, si_dup2, si_iadd, si_isub, si_imul, si_idiv, si_irem, si_iand, si_ior, si_ishl, si_ishr, si_ladd, si_lmul, si_lor, si_lxor, si_lshl, si_lushr, si_lcmp, si_i2b, si_i2l, si_l2i, si_icmp_eq, si_icmp_ne, si_icmp_lt, si_icmp_ge, si_icmp_gt, si_icmp_le, si_if_eq, si_if_ne, si_if_lt, si_if_ge, si_if_gt, si_if_le, si_ifnull, si_ifnonnull, si_goto, si_tableswitch, si_lookupswitch, si_getfield, si_putfield, si_getstatic, si_iaload, si_baload, si_laload, si_aaload, si_iastore, si_bastore, si_lastore, si_aastore, si_arraylength, si_new, si_newarray, si_anewarray, si_invokevirtual, si_invokespecial, si_invokestatic, si_ireturn, si_lreturn, si_areturn, si_return_, pI_e, pL_e, pR_e, pA_r, pA_n, pN_n, pN_r, oI_e, oL_e, oA_r, oA_n, lget_e, lrm1_0, lrm2_0, lrm1_i, lrm1_r, lrm1_n, lrm1_l, lrm2_i, lrm2_r, lrm2_n, lrm2_l, popN_0, popN_s, acat_i, acat_l, acat_r, acat_n, stw_0, stw_s, psh_s, psh_n, wgf_r, wgf_i, wgf_b, wgf_n, wgf_m, wpf_i, wpf_r, wpf_b, wnew_e, callE_e, rbk_0, rbk_1, tsw_0, tsw_s, lsw_0, lsw_s, wp_s, wq_t, wq_f, oV_e, pick_0, pick_s, oZ_e, oY_e, r_PR_differs_0, r_PR_differs_1, r_PR_differs_2, r_PR_differs_5, r_PR_differs_7, r_PR_differs_8, r_PR_differs_9, r_PR_differs_12, r_PR_differs_14, r_PR_differs_16, r_PR_differs_19, r_PR_differs_21, r_PR_differs_24, r_PR_differs_25, r_PR_differs_28, r_PR_differs_29, r_PR_differs_30, r_PR_differs_33, r_PR_differs_35, r_PR_differs_38, r_PR_differs_39, r_PR_differs_40, r_PR_differs_41, r_PR_differs_43, r_PR_differs_44, r_PR_differs_46, r_PR_differs_48, r_PR_differs_51, r_PR_differs_54, r_PR_differs_56, r_PR_differs_59, r_PR_differs_61, r_PR_differs_64, r_PR_differs_65, r_PR_differs_67, r_PR_differs_70, r_PR_differs_72, r_PR_differs_74, r_PR_differs_75, r_PR_differs_78, r_PR_differs_80, r_PR_differs_82, r_PR_differs_85, r_PR_differs_87, r_PR_differs_88, r_PR_differs_91, r_PR_differs_94, r_PR_differs_97, r_PR_differs_98, xf_PR_differs_71, xe_PR_differs_602, xe_PR_differs_180, xd_PR_differs, xrb_PR_differs, xin_PR_differs, T_PR_relatedAt_e, TF_PR_relatedAt, T_PR_pictureAt_e, TF_PR_pictureAt, r0, Nat.reduceAdd, Nat.reduceMul, Nat.reduceEqDiff, reduceIte, Int.reduceNeg, Int.reduceLE, Int.reduceLT, Int.reduceAdd, Int.reduceSub, Int.reduceToNat, true_and, and_true, inR_e, Nat.reduceLT, Nat.reduceLeDiff, reduceCtorEq, Nat.add_zero, Nat.zero_add, or_false, false_or, or_true, true_or, not_true_eq_false, not_false_eq_true, Classical.not_not, Nat.add_eq_zero_iff, and_false, false_and, Int.reduceEq, List.mem_cons, List.not_mem_nil, forall_eq_or_imp, forall_eq, false_implies, implies_true, forall_const, aargs_0, aargs_i, aargs_r, aargs_l, aargs_n, nfT_e, eq_self, and_self, Nat.le_refl, fu_s, fu_fu, iu_iu, iu_s, fu_am, fu_a0, fu_0a, iu_l, Nat.reduceBEq, Int.reduceBEq, T_objInit_e])
      exact ⟨hR, fun a => ⟨hR, fun b => absurd ⟨a, b⟩ hpq, fun b => h0 (fun z => b z.2.1)⟩, fun a => ⟨hR, fun b => h0 (fun z => a z.1), fun b => h0 (fun z => a z.1)⟩⟩
  · intro cp vs M1 hvs hM1 hlen hJ
    rw [hJd] at hJ
    obtain ⟨rfl, r, n, ⟨hp, hq, hw, hy⟩, g1, g3, g2, rfl, rfl⟩ := hJ
    obtain ⟨P, eP, -, hPc, hP0⟩ := hR.pic hp
    have hPe : o + 6 + 44 * p.toNat = P := eP.symm
    obtain ⟨Q, eQ, -, hQc, hQ0⟩ := hR.pic hq
    have hQe : o + 6 + 44 * q.toNat = Q := eQ.symm
    obtain ⟨hS, hV⟩ := hPR hp
    obtain ⟨hS2, hV2⟩ := hPR2 hq
    rw [hPe] at hV
    rw [hQe] at hV2
    have hP := hPc.1
    have hQ := hQc.1
    have hTh := hPc.2.2.1
    have hTq := hQc.2.2.1
    have w9 := hS.2.2.2.2.2.2.2.2.2.1
    have y9 := hS2.2.2.2.2.2.2.2.2.2.1
    have v3 := hV.1.2.2.1
    have u3 := hV2.1.2.2.1
    have n12 := v3.1
    have m12 := u3.1
    obtain ⟨a1, a2, a3⟩ := v3.inc hS
    obtain ⟨b1, b2, b3⟩ := u3.inc hS2
    have rwn : ∀ x, (w = 0 → (0 ≤ fn V su x ∧ relP U st V su x = w ↔ dfP U st V su w x)) ∧ (¬ w = 0 → (0 ≤ fn U st x ∧ relP U st V su x = w ↔ dfP U st V su w x)) := by
      intro x
      have f1 := fn_R (U := U) w9.1 x
      have f2 := fn_R (U := V) y9.1 x
      unfold dfP
      constructor
      · intro hw
        constructor
        · intro z; exact ⟨Or.inr z.1, z.2⟩
        · intro z
          refine ⟨?_, z.2⟩
          rcases z.1 with y | y
          · exfalso
            have z2 := z.2
            unfold relP at z2
            rw [if_neg (by omega), hw] at z2
            repeat' split at z2
            all_goals omega
          · exact y
      · intro hw
        constructor
        · intro z; exact ⟨Or.inl z.1, z.2⟩
        · intro z
          refine ⟨?_, z.2⟩
          rcases f1 with y | y
          · exfalso
            have z2 := z.2
            unfold relP at z2
            rw [if_pos y] at z2
            omega
          · exact y.1.1
    rw [hPe, hQe] at hvs g2 ⊢
    obtain ⟨Lt, eL⟩ : ∃ Lt : Nat, (if w = 0 then Q + 8 else P + 8) = Lt := ⟨_, rfl⟩
    rw [eL] at hvs g2 ⊢
    have hLt : LThings lay ρ Lt := by
      rw [← eL]; split <;> assumption
    have lf : ((0 ≤ σ Lt 12 ∧ σ Lt 12 ≤ 600) ∧ σ Lt 12 = (if w = 0 then su 0 7 else st 0 7)) ∧ (∀ r, 0 ≤ r ∧ r < σ Lt 12 → (0 ≤ σ (Lt + 7) r ∧ σ (Lt + 7) r < 600) ∧ 0 ≤ σ (Lt + 1) (σ (Lt + 7) r) ∧ σ (Lt + 1) (σ (Lt + 7) r) < 65536) ∧ (∀ r s, 0 ≤ r ∧ r < s ∧ s < σ Lt 12 → σ (Lt + 1) (σ (Lt + 7) r) < σ (Lt + 1) (σ (Lt + 7) s)) ∧ (∀ x, ((∃ r, (0 ≤ r ∧ r < σ Lt 12) ∧ σ (Lt + 1) (σ (Lt + 7) r) = x) ∧ relP U st V su x = w) ↔ dfP U st V su w x) := by
      by_cases hw0 : w = 0
      · rw [if_pos hw0] at eL
        subst eL
        rw [m12, if_pos hw0]
        refine ⟨⟨y9, rfl⟩, fun r hr => ⟨by have := (b1 r hr).1; omega, (b1 r hr).2⟩, b2, fun x => ?_⟩
        rw [b3 x]
        exact (rwn x).1 hw0
      · rw [if_neg hw0] at eL
        subst eL
        rw [n12, if_neg hw0]
        refine ⟨⟨w9, rfl⟩, fun r hr => ⟨by have := (a1 r hr).1; omega, (a1 r hr).2⟩, a2, fun x => ?_⟩
        rw [a3 x]
        exact (rwn x).2 hw0
    obtain ⟨⟨l1, l2⟩, l3, l4, l5⟩ := lf
    rw [← l2] at g3
    have cr := cntZ_R (fun r => decide (relP U st V su (σ (Lt + 1) (σ (Lt + 7) r)) = w)) n
    have sel1 : w = 0 → Lt = Q + 8 ∧ σ Lt 12 = su 0 7 := fun hw => by rw [if_pos hw] at eL l2; exact ⟨eL.symm, l2⟩
    have sel0 : ¬ w = 0 → Lt = P + 8 ∧ σ Lt 12 = st 0 7 := fun hw => by rw [if_neg hw] at eL l2; exact ⟨eL.symm, l2⟩
    have key := h1 ⟨hp, hq, hw, hy⟩
    have dE : ∀ N : Nat, cntP (fun x => (∃ s, (0 ≤ s ∧ s < ((σ Lt 12).toNat : Int)) ∧ σ (Lt + 1) (σ (Lt + 7) s) = x) ∧ decide (relP U st V su x = w) = true) N = cntP (dfP U st V su w) N := fun N => cntP_c (fun x _ => by
      rw [decide_eq_true_iff, show (((σ Lt 12).toNat : Nat) : Int) = σ Lt 12 by omega]
      exact l5 x)
    (obtain ⟨ph, pp0, pp1, pp2, pp3, pp4, pp5, pp6, pp7, pq0, pq1, pq2, pq3, pq4, pq5, pq6, pq7⟩ := (show LPicture lay ρ _ from hP); obtain ⟨gh, gp0, gp1, gp2, gp3, gp4, gp5, gp6, gp7, gq0, gq1, gq2, gq3, gq4, gq5, gq6, gq7⟩ := (show LPicture lay ρ _ from hQ); unfold wps; simp only [Option.getD_some, List.zip_cons_cons, List.zip_nil_left, List.zip_nil_right, List.zip_nil_right, si_iload_n0, si_iload_n1, si_iload_n2, si_iload_n3, si_iload, si_lload_n0, si_lload_n1, si_lload_n2, si_lload_n3, si_lload, si_aload_n0, si_aload_n1, si_aload_n2, si_aload_n3, si_aload, si_istore_n0, si_istore_n1, si_istore_n2, si_istore_n3, si_istore, si_astore_n0, si_astore_n1, si_astore_n2, si_astore_n3, si_astore, si_lstore_n0, si_lstore_n1, si_lstore_n2, si_lstore_n3, si_lstore, si_iconst, si_bipush, si_sipush, si_ldc, si_ldc2_w, si_lconst0, si_lconst1, si_aconst_null, si_iinc, si_dup, si_dup2, si_iadd, si_isub, si_imul, si_idiv, si_irem, si_iand, si_ior, si_ishl, si_ishr, si_ladd, si_lmul, si_lor, si_lxor, si_lshl, si_lushr, si_lcmp, si_i2b, si_i2l, si_l2i, si_icmp_eq, si_icmp_ne, si_icmp_lt, si_icmp_ge, si_icmp_gt, si_icmp_le, si_if_eq, si_if_ne, si_if_lt, si_if_ge, si_if_gt, si_if_le, si_ifnull, si_ifnonnull, si_goto, si_tableswitch, si_lookupswitch, si_getfield, si_putfield, si_getstatic, si_iaload, si_baload, si_laload, si_aaload, si_iastore, si_bastore, si_lastore, si_aastore, si_arraylength, si_new, si_newarray, si_anewarray, si_invokevirtual, si_invokespecial, si_invokestatic, si_ireturn, si_lreturn, si_areturn, si_return_, pI_e, pL_e, pR_e, pA_r, pA_n, pN_n, pN_r, oI_e, oL_e, oA_r, oA_n, lget_e, lrm1_0, lrm2_0, lrm1_i, lrm1_r, lrm1_n, lrm1_l, lrm2_i, lrm2_r, lrm2_n, lrm2_l, popN_0, popN_s, acat_i, acat_l, acat_r, acat_n, stw_0, stw_s, psh_s, psh_n, wgf_r, wgf_i, wgf_b, wgf_n, wgf_m, wpf_i, wpf_r, wpf_b, wnew_e, callE_e, rbk_0, rbk_1, tsw_0, tsw_s, lsw_0, lsw_s, wp_s, wq_t, wq_f, oV_e, pick_0, pick_s, oZ_e, oY_e, r_PR_differs_0, r_PR_differs_1, r_PR_differs_2, r_PR_differs_5, r_PR_differs_7, r_PR_differs_8, r_PR_differs_9, r_PR_differs_12, r_PR_differs_14, r_PR_differs_16, r_PR_differs_19, r_PR_differs_21, r_PR_differs_24, r_PR_differs_25, r_PR_differs_28, r_PR_differs_29, r_PR_differs_30, r_PR_differs_33, r_PR_differs_35, r_PR_differs_38, r_PR_differs_39, r_PR_differs_40, r_PR_differs_41, r_PR_differs_43, r_PR_differs_44, r_PR_differs_46, r_PR_differs_48, r_PR_differs_51, r_PR_differs_54, r_PR_differs_56, r_PR_differs_59, r_PR_differs_61, r_PR_differs_64, r_PR_differs_65, r_PR_differs_67, r_PR_differs_70, r_PR_differs_72, r_PR_differs_74, r_PR_differs_75, r_PR_differs_78, r_PR_differs_80, r_PR_differs_82, r_PR_differs_85, r_PR_differs_87, r_PR_differs_88, r_PR_differs_91, r_PR_differs_94, r_PR_differs_97, r_PR_differs_98, xf_PR_differs_71, xe_PR_differs_602, xe_PR_differs_180, xd_PR_differs, xrb_PR_differs, xin_PR_differs, T_PR_relatedAt_e, TF_PR_relatedAt, T_PR_pictureAt_e, TF_PR_pictureAt, r0, ph, pp0, pp1, pp2, pp3, pp4, pp5, pp6, pp7, pq0, pq1, pq2, pq3, pq4, pq5, pq6, pq7, gh, gp0, gp1, gp2, gp3, gp4, gp5, gp6, gp7, gq0, gq1, gq2, gq3, gq4, gq5, gq6, gq7, Nat.reduceAdd, Nat.reduceMul, Nat.reduceEqDiff, reduceIte, Int.reduceNeg, Int.reduceLE, Int.reduceLT, Int.reduceAdd, Int.reduceSub, Int.reduceToNat, true_and, and_true, inR_e, Nat.reduceLT, Nat.reduceLeDiff, reduceCtorEq, Nat.add_zero, Nat.zero_add, or_false, false_or, or_true, true_or, not_true_eq_false, not_false_eq_true, Classical.not_not, Nat.add_eq_zero_iff, and_false, false_and, Int.reduceEq, List.mem_cons, List.not_mem_nil, forall_eq_or_imp, forall_eq, false_implies, implies_true, forall_const, aargs_0, aargs_i, aargs_r, aargs_l, aargs_n, nfT_e, eq_self, and_self, Nat.le_refl, fu_s, fu_fu, iu_iu, iu_s, fu_am, fu_a0, fu_0a, iu_l, Nat.reduceBEq, Int.reduceBEq, T_objInit_e]; clear pp0 pp1 pp2 pp3 pp4 pp5 pp6 pp7 gp0 gp1 gp2 gp3 gp4 gp5 gp6 gp7)
    refine ⟨fun h => ?_, fun h => ⟨U, len, st, V, lem, su, Lt, σ Lt 12, hTh, hTq, v3, u3, hS, hS2, sel1, sel0, fun a => ⟨fun z => absurd z (by have := (l3 r (by omega)).2; omega), fun _ => ⟨fun b => ⟨by omega, by omega, ?_, (by rw [hμ]; simp only [gI_e, List.getD_cons_succ, List.getD_cons_zero]; omega)⟩, fun b => ?_⟩⟩, fun a => ⟨by omega, ?_, (by rw [hμ]; simp only [gI_e, List.getD_cons_succ, List.getD_cons_zero]; omega)⟩⟩⟩
    · refine key.2 ?_
      have e := inc_cnt (g := fun r => σ (Lt + 1) (σ (Lt + 7) r)) (q := fun x => decide (relP U st V su x = w)) (N := 65536) (σ Lt 12).toNat (fun s hs => (l3 s (by omega)).2) (fun a b hab => l4 a b (by omega))
      rw [dE] at e
      rw [← e, show (σ Lt 12).toNat = n by omega]
      exact g2
    · have en : n = r := by omega
      subst en
      rw [hJd, hPe, hQe, eL]
      have ec : cntZ (fun r => decide (relP U st V su (σ (Lt + 1) (σ (Lt + 7) r)) = w)) (n + 1) = cntZ (fun r => decide (relP U st V su (σ (Lt + 1) (σ (Lt + 7) r)) = w)) n + 1 := cntZ_t (by simp [a.2.2])
      exact ⟨rfl, n + 1, n + 1, ⟨hp, hq, hw, hy⟩, by omega, by rw [← l2]; omega, by rw [ec]; omega, by rw [ec]; rfl, rfl⟩
    · have en : n = r := by omega
      subst en
      have hg := l3 n (by omega)
      refine key.1 _ hg.2 ((l5 _).mp ⟨⟨n, by omega, rfl⟩, a.2.2⟩) ?_
      have e := inc_at (g := fun r => σ (Lt + 1) (σ (Lt + 7) r)) (q := fun x => decide (relP U st V su x = w)) (N := 65536) (m := (σ Lt 12).toNat) (fun s hs => (l3 s (by omega)).2) (fun a b hab => l4 a b (by omega)) (r := n) (by omega)
      rw [dE] at e
      exact e.trans b
    · rw [hJd, hPe, hQe, eL]
      by_cases hr : (r : Int) < σ Lt 12
      · have en : n = r := by omega
        subst en
        have ec : cntZ (fun r => decide (relP U st V su (σ (Lt + 1) (σ (Lt + 7) r)) = w)) (n + 1) = cntZ (fun r => decide (relP U st V su (σ (Lt + 1) (σ (Lt + 7) r)) = w)) n := cntZ_f (by simp only [decide_eq_true_iff]; exact fun z => a ⟨by omega, hr, z⟩)
        exact ⟨rfl, n + 1, n + 1, ⟨hp, hq, hw, hy⟩, by omega, by rw [← l2]; omega, by rw [ec]; exact g2, by rw [ec]; rfl, rfl⟩
      · exact ⟨rfl, r + 1, n, ⟨hp, hq, hw, hy⟩, by omega, by rw [← l2]; omega, g2, rfl, rfl⟩

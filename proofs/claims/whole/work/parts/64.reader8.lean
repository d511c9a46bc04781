/-- in which of the five ways a number stands in two pictures -/
def sameP (U : Int → Int) (st : Nat → Int → Int) (V : Int → Int) (su : Nat → Int → Int) (i j : Int) : Prop := nV U (st 1) (st 2 i) = nV V (su 1) (su 2 j) ∧ ∀ k, 0 ≤ k ∧ k < nV U (st 1) (st 2 i) → Int64.ofInt (vZ U (st 1) (st 2 i) k) = Int64.ofInt (vZ V (su 1) (su 2 j) k)
def kindP (U : Int → Int) (st : Nat → Int → Int) (V : Int → Int) (su : Nat → Int → Int) (i j : Int) : Prop := srt U (st 2 i) = srt V (su 2 j) ∧ kdv U (st 2 i) = kdv V (su 2 j)
noncomputable def relP (U : Int → Int) (st : Nat → Int → Int) (V : Int → Int) (su : Nat → Int → Int) (x : Int) : Int := if fn U st x = -1 then 0 else if fn V su x = -1 then 1 else if bP (kindP U st V su (fn U st x) (fn V su x)) = true then (if bP (sameP U st V su (fn U st x) (fn V su x)) = true then 4 else 3) else 2
theorem co_X10_660 : CallOK RX10 (.invokevirtual 165) (4, 1, 0, 0, T_Things_sameSort) := call_V S_Things_sameSort (by decide) (ci := 7) rfl (by decide +kernel) (by decide +kernel) (by decide +kernel) (by decide +kernel) (by decide +kernel) (by decide +kernel) T_Things_sameSort_r
theorem co_X10_676 : CallOK RX10 (.invokevirtual 169) (4, 3, 0, 0, T_Things_sameValues) := call_V S_Things_sameValues (by decide) (ci := 7) rfl (by decide +kernel) (by decide +kernel) (by decide +kernel) (by decide +kernel) (by decide +kernel) (by decide +kernel) T_Things_sameValues_r
def TF_PR_relation (a : Nat) (b : Nat) (x : Int) (sz sl : Nat) (lay : Nat → Nat × Int) (ρ : Nat → Int → Nat) (σ : Nat → Int → Int) (τ : Nat → Int → Int64) (k : Option AV → Mm → Prop) : Prop := ∃ (U : Int → Int) (len : Int) (st : Nat → Int → Int) (V : Int → Int) (lem : Int) (su : Nat → Int → Int), LThings lay ρ a ∧ LThings lay ρ b ∧ PTs σ τ a U st ∧ PTs σ τ b V su ∧ SW U len st ∧ SW V lem su ∧ k (some (vI (relP U st V su x))) (sz, sl, lay, ρ, σ, τ)
def T_PR_relation : Tr := fun as M k => pR as fun a as => pR as fun b as => pI as fun x as => as = [] ∧ TF_PR_relation a b x M.1 M.2.1 M.2.2.1 M.2.2.2.1 M.2.2.2.2.1 M.2.2.2.2.2 k
theorem T_PR_relation_e {a : Nat} {b : Nat} {x : Int} {sz sl : Nat} {lay : Nat → Nat × Int} {ρ : Nat → Int → Nat} {σ : Nat → Int → Int} {τ : Nat → Int → Int64} {k : Option AV → Mm → Prop} : T_PR_relation [vR a, vR b, vI x] (sz, sl, lay, ρ, σ, τ) k = TF_PR_relation a b x sz sl lay ρ σ τ k := by simp [T_PR_relation, pI_e, pR_e, pL_e]
def tb_PR_relation : List (Nat × Option (List Nat) × Instr × List Nat) := [(0, none, .aload_n 0, []), (1, none, .iload_n 2, []), (2, none, .invokevirtual 80, []), (5, none, .istore_n 3, []), (6, none, .aload_n 1, []), (7, none, .iload_n 2, []), (8, none, .invokevirtual 80, []), (11, none, .istore 4, []), (13, none, .iload_n 3, []), (14, none, .iconst (-1), []), (15, none, .if_icmp .ne 5, [20]), (18, none, .iconst 0, []), (19, none, .ireturn, []), (20, none, .iload 4, []), (22, none, .iconst (-1), []), (23, none, .if_icmp .ne 5, [28]), (26, none, .iconst 1, []), (27, none, .ireturn, []), (28, none, .aload_n 0, []), (29, none, .iload_n 3, []), (30, none, .aload_n 1, []), (31, none, .iload 4, []), (33, none, .invokevirtual 165, []), (36, none, .ifCond .ne 5, [41]), (39, none, .iconst 2, []), (40, none, .ireturn, []), (41, none, .aload_n 0, []), (42, none, .iload_n 3, []), (43, none, .aload_n 1, []), (44, none, .iload 4, []), (46, none, .invokevirtual 169, []), (49, none, .ifCond .eq 7, [56]), (52, none, .iconst 4, []), (53, none, .goto 4, [57]), (56, none, .iconst 3, []), (57, none, .ireturn, [])]
def P_PR_relation : Nat → Option (List Nat) × Instr × List Nat := plk tb_PR_relation
theorem r_PR_relation_0 : P_PR_relation 0 = (none, .aload_n 0, []) := by decide +kernel
theorem r_PR_relation_1 : P_PR_relation 1 = (none, .iload_n 2, []) := by decide +kernel
theorem r_PR_relation_2 : P_PR_relation 2 = (none, .invokevirtual 80, []) := by decide +kernel
theorem r_PR_relation_5 : P_PR_relation 5 = (none, .istore_n 3, []) := by decide +kernel
theorem r_PR_relation_6 : P_PR_relation 6 = (none, .aload_n 1, []) := by decide +kernel
theorem r_PR_relation_7 : P_PR_relation 7 = (none, .iload_n 2, []) := by decide +kernel
theorem r_PR_relation_8 : P_PR_relation 8 = (none, .invokevirtual 80, []) := by decide +kernel
theorem r_PR_relation_11 : P_PR_relation 11 = (none, .istore 4, []) := by decide +kernel
theorem r_PR_relation_13 : P_PR_relation 13 = (none, .iload_n 3, []) := by decide +kernel
theorem r_PR_relation_14 : P_PR_relation 14 = (none, .iconst (-1), []) := by decide +kernel
theorem r_PR_relation_15 : P_PR_relation 15 = (none, .if_icmp .ne 5, [20]) := by decide +kernel
theorem r_PR_relation_18 : P_PR_relation 18 = (none, .iconst 0, []) := by decide +kernel
theorem r_PR_relation_19 : P_PR_relation 19 = (none, .ireturn, []) := by decide +kernel
theorem r_PR_relation_20 : P_PR_relation 20 = (none, .iload 4, []) := by decide +kernel
theorem r_PR_relation_22 : P_PR_relation 22 = (none, .iconst (-1), []) := by decide +kernel
theorem r_PR_relation_23 : P_PR_relation 23 = (none, .if_icmp .ne 5, [28]) := by decide +kernel
theorem r_PR_relation_26 : P_PR_relation 26 = (none, .iconst 1, []) := by decide +kernel
theorem r_PR_relation_27 : P_PR_relation 27 = (none, .ireturn, []) := by decide +kernel
theorem r_PR_relation_28 : P_PR_relation 28 = (none, .aload_n 0, []) := by decide +kernel
theorem r_PR_relation_29 : P_PR_relation 29 = (none, .iload_n 3, []) := by decide +kernel
theorem r_PR_relation_30 : P_PR_relation 30 = (none, .aload_n 1, []) := by decide +kernel
theorem r_PR_relation_31 : P_PR_relation 31 = (none, .iload 4, []) := by decide +kernel
theorem r_PR_relation_33 : P_PR_relation 33 = (none, .invokevirtual 165, []) := by decide +kernel
theorem r_PR_relation_36 : P_PR_relation 36 = (none, .ifCond .ne 5, [41]) := by decide +kernel
theorem r_PR_relation_39 : P_PR_relation 39 = (none, .iconst 2, []) := by decide +kernel
theorem r_PR_relation_40 : P_PR_relation 40 = (none, .ireturn, []) := by decide +kernel
theorem r_PR_relation_41 : P_PR_relation 41 = (none, .aload_n 0, []) := by decide +kernel
theorem r_PR_relation_42 : P_PR_relation 42 = (none, .iload_n 3, []) := by decide +kernel
theorem r_PR_relation_43 : P_PR_relation 43 = (none, .aload_n 1, []) := by decide +kernel
theorem r_PR_relation_44 : P_PR_relation 44 = (none, .iload 4, []) := by decide +kernel
theorem r_PR_relation_46 : P_PR_relation 46 = (none, .invokevirtual 169, []) := by decide +kernel
theorem r_PR_relation_49 : P_PR_relation 49 = (none, .ifCond .eq 7, [56]) := by decide +kernel
theorem r_PR_relation_52 : P_PR_relation 52 = (none, .iconst 4, []) := by decide +kernel
theorem r_PR_relation_53 : P_PR_relation 53 = (none, .goto 4, [57]) := by decide +kernel
theorem r_PR_relation_56 : P_PR_relation 56 = (none, .iconst 3, []) := by decide +kernel
theorem r_PR_relation_57 : P_PR_relation 57 = (none, .ireturn, []) := by decide +kernel
def E_PR_relation : List (Nat × Ent) := [(660, (4, 1, 0, 0, T_Things_sameSort)), (676, (4, 3, 0, 0, T_Things_sameValues)), (320, (2, 2, 0, 0, T_Things_find))]
def X_PR_relation : Cx := (llk (0, 0, 9) ftX10, llk 99 ntX10, llk none kcX10, llk none klX10, llk dEnt E_PR_relation, 4, 0, false)
theorem xok_PR_relation : Xok RX10 X_PR_relation := xok_of ftX10_ok ntX10_ok kcX10_ok klX10_ok (E := E_PR_relation) (List.forall_mem_cons.mpr ⟨co_X10_660, List.forall_mem_cons.mpr ⟨co_X10_676, List.forall_mem_cons.mpr ⟨co_X10_320, fun _ h => absurd h List.not_mem_nil⟩⟩⟩)
theorem xe_PR_relation_660 : xE X_PR_relation (4 * 165 + 0) = (4, 1, 0, 0, T_Things_sameSort) := rfl
theorem xe_PR_relation_676 : xE X_PR_relation (4 * 169 + 0) = (4, 3, 0, 0, T_Things_sameValues) := rfl
theorem xe_PR_relation_320 : xE X_PR_relation (4 * 80 + 0) = (2, 2, 0, 0, T_Things_find) := rfl
theorem xd_PR_relation : xd X_PR_relation = 4 := rfl
theorem xrb_PR_relation : xrb X_PR_relation = 0 := rfl
theorem xin_PR_relation : xin X_PR_relation = false := rfl
set_option maxHeartbeats 4000000 in
set_option maxRecDepth 100000 in
theorem S_PR_relation : Snd yX10_relation cX10_relation 5 (some .int) T_PR_relation 4 0 0 := by
  refine snd_of (X := X_PR_relation) (P := P_PR_relation) (tb := tb_PR_relation) (own := RX10) (by decide) rfl rfl (by decide +kernel) xok_PR_relation rfl rk0 (fun h => by first | rfl | cases h) ?_
  intro as M k has hM hT0
  obtain ⟨sz, sl, lay, ρ, σ, τ⟩ := M
  obtain ⟨a, as1, e, hT1⟩ := pR_x hT0
  clear hT0
  subst e
  obtain ⟨b, as2, e, hT2⟩ := pR_x hT1
  clear hT1
  subst e
  obtain ⟨x, as3, e, hT3⟩ := pI_x hT2
  clear hT2
  subst e
  obtain ⟨e, hT⟩ := hT3
  subst e
  have r_x : -2147483648 ≤ x ∧ x ≤ 2147483647 := has (vI x) (by simp)
  clear has
  replace hM : ∀ a i, -2147483648 ≤ σ a i ∧ σ a i ≤ 2147483647 := hM
  replace hT : TF_PR_relation a b x sz sl lay ρ σ τ k := hT
  unfold TF_PR_relation at hT
  obtain ⟨U, len, st, V, lem, su, hA, hB, v3, u3, hS, hS2, hT⟩ := hT
  obtain ⟨w0, w1, w2, w3, w4, w5, w6, w7, w8, w9, w10, w11, w12, w13, w14⟩ := (show SW U len st from hS)
  obtain ⟨y0, y1, y2, y3, y4, y5, y6, y7, y8, y9, y10, y11, y12, y13, y14⟩ := (show SW V lem su from hS2)
  have n12 := v3.1
  have m12 := u3.1
  refine ⟨Nat.le_of_ble_eq_true rfl, fun _ _ _ => False, fun _ _ _ => 0, 44, ?_, fun _ _ _ _ _ _ h => h.elim⟩
  obtain ⟨lh, lp0, lp1, lp2, lp3, lp4, lp5, lp6, lp7, lp8, lp9, lp10, lp11, lq0, lq1, lq2, lq3, lq4, lq5, lq6, lq7, lq8, lq9, lq10, lq11⟩ := (show LThings lay ρ _ from hA)
  obtain ⟨mh, mp0, mp1, mp2, mp3, mp4, mp5, mp6, mp7, mp8, mp9, mp10, mp11, mq0, mq1, mq2, mq3, mq4, mq5, mq6, mq7, mq8, mq9, mq10, mq11⟩ := (show LThings lay ρ _ from hB)
  unfold wps
  simp only [si_iload_n0, si_iload_n1, si_iload_n2, si_iload_n3, si_iload, si_lload_n0, si_lload_n1, si_lload_n2, si_lload_n3, si_lload, si_aload_n0, si_aload_n1, si_aload_n2, si_aload_n3, si_aload, si_istore_n0, si_istore_n1, si_istore_n2, si_istore_n3, si_istore, si_astore_n0, si_astore_n1, si_astore_n2, si_astore_n3, si_astore, si_lstore_n0, si_lstore_n1, si_lstore_n2, si_lstore_n3, si_lstore, si_iconst, si_bipush, si_sipush, si_ldc, si_ldc2_w, si_lconst0, si_lconst1, si_aconst_null, si_iinc, si_dup, si_dup2, si_iadd, si_isub, si_imul, si_idiv, si_irem, si_iand, si_ior, si_ishl, si_ishr, si_ladd, si_lmul, si_lor, si_lxor, si_lshl, si_lushr, si_lcmp, si_i2b, si_i2l, si_l2i, si_icmp_eq, si_icmp_ne, si_icmp_lt, si_icmp_ge, si_icmp_gt, si_icmp_le, si_if_eq, si_if_ne, si_if_lt, si_if_ge, si_if_gt, si_if_le, si_ifnull, si_ifnonnull, si_goto, si_tableswitch, si_lookupswitch, si_getfield, si_putfield, si_getstatic, si_iaload, si_baload, si_laload, si_aaload, si_iastore, si_bastore, si_lastore, si_aastore, si_arraylength, si_new, si_newarray, si_anewarray, si_invokevirtual, si_invokespecial, si_invokestatic, si_ireturn, si_lreturn, si_areturn, si_return_, pI_e, pL_e, pR_e, pA_r, pA_n, pN_n, pN_r, oI_e, oL_e, oA_r, oA_n, lget_e, lrm1_0, lrm2_0, lrm1_i, lrm1_r, lrm1_n, lrm1_l, lrm2_i, lrm2_r, lrm2_n, lrm2_l, popN_0, popN_s, acat_i, acat_l, acat_r, acat_n, stw_0, stw_s, psh_s, psh_n, wgf_r, wgf_i, wgf_b, wgf_n, wgf_m, wpf_i, wpf_r, wpf_b, wnew_e, callE_e, rbk_0, rbk_1, tsw_0, tsw_s, lsw_0, lsw_s, wp_s, wq_t, wq_f, oV_e, pick_0, pick_s, oZ_e, oY_e, r_PR_relation_0, r_PR_relation_1, r_PR_relation_2, r_PR_relation_5, r_PR_relation_6, r_PR_relation_7, r_PR_relation_8, r_PR_relation_11, r_PR_relation_13, r_PR_relation_14, r_PR_relation_15, r_PR_relation_18, r_PR_relation_19, r_PR_relation_20, r_PR_relation_22, r_PR_relation_23, r_PR_relation_26, r_PR_relation_27, r_PR_relation_28, r_PR_relation_29, r_PR_relation_30, r_PR_relation_31, r_PR_relation_33, r_PR_relation_36, r_PR_relation_39, r_PR_relation_40, r_PR_relation_41, r_PR_relation_42, r_PR_relation_43, r_PR_relation_44, r_PR_relation_46, r_PR_relation_49, r_PR_relation_52, r_PR_relation_53, r_PR_relation_56, r_PR_relation_57, xe_PR_relation_660, xe_PR_relation_676, xe_PR_relation_320, xd_PR_relation, xrb_PR_relation, xin_PR_relation, T_Things_sameSort_e, TF_Things_sameSort, T_Things_sameValues_e, TF_Things_sameValues, T_Things_find_e, TF_Things_find, lh, lp0, lp1, lp2, lp3, lp4, lp5, lp6, lp7, lp8, lp9, lp10, lp11, lq0, lq1, lq2, lq3, lq4, lq5, lq6, lq7, lq8, lq9, lq10, lq11, mh, mp0, mp1, mp2, mp3, mp4, mp5, mp6, mp7, mp8, mp9, mp10, mp11, mq0, mq1, mq2, mq3, mq4, mq5, mq6, mq7, mq8, mq9, mq10, mq11, Nat.reduceAdd, Nat.reduceMul, Nat.reduceEqDiff, reduceIte, Int.reduceNeg, Int.reduceLE, Int.reduceLT, Int.reduceAdd, Int.reduceSub, Int.reduceToNat, true_and, and_true, inR_e, Nat.reduceLT, Nat.reduceLeDiff, reduceCtorEq, Nat.add_zero, Nat.zero_add, or_false, false_or, or_true, true_or, not_true_eq_false, not_false_eq_true, Classical.not_not, Nat.add_eq_zero_iff, and_false, false_and, Int.reduceEq, List.mem_cons, List.not_mem_nil, forall_eq_or_imp, forall_eq, false_implies, implies_true, forall_const, aargs_0, aargs_i, aargs_r, aargs_l, aargs_n, nfT_e, eq_self, and_self, Nat.le_refl, fu_s, fu_fu, iu_iu, iu_s, fu_am, fu_a0, fu_0a, iu_l, Nat.reduceBEq, Int.reduceBEq, T_objInit_e]
  clear lp0 lp1 lp2 lp3 lp4 lp5 lp6 lp7 lp8 lp9 lp10 lp11 mp0 mp1 mp2 mp3 mp4 mp5 mp6 mp7 mp8 mp9 mp10 mp11
  have va := v3.vst.1
  have vb := u3.vst.1
  refine ⟨hA, by omega, v3.2.1, fun i hi => ⟨hB, by omega, u3.2.1, fun j hj => ⟨fun _ => ⟨fun _ => ?_, fun z => by omega⟩, fun z => by omega⟩, fun hj => ⟨fun _ => ?_, fun z => by omega⟩⟩, fun hi => ?_⟩
  · have ei := v3.fn1 w9.1 hi
    have ej := u3.fn1 y9.1 hj
    unfold relP at hT
    rw [ei, ej, if_neg (by omega), if_neg (by omega)] at hT
    obtain ⟨⟨a1, a2, a3, a4, a5⟩, a7, a8, a9, a10⟩ := v3.2.2.2.2.2.1 i (by omega)
    obtain ⟨⟨b1, b2, b3, b4, b5⟩, b7, b8, b9, b10⟩ := u3.2.2.2.2.2.1 j (by omega)
    rw [a2, a3, b2, b3, show σ (a + 8) (i + 1) - σ (a + 8) i = nV U (st 1) (st 2 i) by omega, show σ (b + 8) (j + 1) - σ (b + 8) j = nV V (su 1) (su 2 j) by omega]
    have na := (w13 i (by omega)).2.1.nv w0
    have nb := (y13 j (by omega)).2.1.nv y0
    refine ⟨hA, by omega, hB, by omega, fun c => ⟨hA, by omega, va, hB, by omega, vb, hi.1, hj.1, ⟨na.1, nb.1⟩, fun d => ?_, fun d => ?_⟩, fun c => ?_⟩
    · rw [if_pos (bP_e.mpr ⟨c.2.2.2.2.1, c.2.2.2.2.2⟩), if_pos (bP_e.mpr ⟨d.1, fun k hk => by rw [← a9 k hk, ← b9 k (by omega)]; exact d.2 k hk⟩)] at hT
      exact hT
    · rw [if_pos (bP_e.mpr ⟨c.2.2.2.2.1, c.2.2.2.2.2⟩), if_neg (by rw [bP_e]; exact fun z => d ⟨z.1, fun k hk => by rw [a9 k hk, b9 k (by have := z.1; omega)]; exact z.2 k hk⟩)] at hT
      exact hT
    · rw [if_neg (by rw [bP_e]; exact fun z => c ⟨hi.1.1, hi.1.2, hj.1.1, hj.1.2, z.1, z.2⟩)] at hT
      exact hT
  · have ei := v3.fn1 w9.1 hi
    have ej := u3.fn0 y9.1 hj
    unfold relP at hT
    rw [ei, ej, if_neg (by omega), if_pos rfl] at hT
    exact hT
  · have ei := v3.fn0 w9.1 hi
    unfold relP at hT
    rw [ei, if_pos rfl] at hT
    exact ⟨hB, by omega, u3.2.1, fun _ _ => hT, fun _ => hT⟩

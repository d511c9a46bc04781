theorem co_X11_496 : CallOK RX11 (.invokevirtual 124) (4, 4, 0, 0, T_Model_valuePlace) := call_V S_Model_valuePlace (by decide) (ci := 11) rfl (by decide +kernel) (by decide +kernel) (by decide +kernel) (by decide +kernel) (by decide +kernel) (by decide +kernel) T_Model_valuePlace_r
def TF_Model_valueAt (o : Nat) (p : Int) (q : Int) (j : Int) (sz sl : Nat) (lay : Nat → Nat × Int) (ρ : Nat → Int → Nat) (σ : Nat → Int → Int) (τ : Nat → Int → Int64) (k : Option AV → Mm → Prop) : Prop := LModel lay ρ o ∧ ∃ (U : Int → Int) (len : Int) (A : Int → Int), MB σ o p U len A ∧ TV U len A q ∧ (0 ≤ j ∧ j < nV U A q) ∧ ∀ c : Int → Int, k (some (vL (Int64.ofInt (vZ U A q j)))) (sz, sl, lay, ρ, fu σ (o + 23) c, τ)
def T_Model_valueAt : Tr := mkT 11 fun o as M k => pI as fun p as => pI as fun q as => pI as fun j as => as = [] ∧ TF_Model_valueAt o p q j M.1 M.2.1 M.2.2.1 M.2.2.2.1 M.2.2.2.2.1 M.2.2.2.2.2 k
theorem T_Model_valueAt_e {o : Nat} {p : Int} {q : Int} {j : Int} {sz sl : Nat} {lay : Nat → Nat × Int} {ρ : Nat → Int → Nat} {σ : Nat → Int → Int} {τ : Nat → Int → Int64} {k : Option AV → Mm → Prop} : T_Model_valueAt [vR o, vI p, vI q, vI j] (sz, sl, lay, ρ, σ, τ) k = (lay o = (21, 0) ∧ TF_Model_valueAt o p q j sz sl lay ρ σ τ k) := by simp [T_Model_valueAt, mkT_e, pI_e, pR_e, pL_e]
theorem T_Model_valueAt_r (as : List AV) (M : Mm) (k : Option AV → Mm → Prop) (h : T_Model_valueAt as M k) : ∃ b As, as = vR b :: As ∧ M.2.2.1 b = (10 + 11, 0) := by
  obtain ⟨b, As, h1, h2, -⟩ := mkT_r h
  exact ⟨b, As, h1, h2⟩
def tb_Model_valueAt : List (Nat × Option (List Nat) × Instr × List Nat) := [(0, none, .aload_n 0, []), (1, none, .iload_n 1, []), (2, none, .iload_n 2, []), (3, none, .iload_n 3, []), (4, none, .invokevirtual 121, []), (7, none, .istore 4, []), (9, none, .aload_n 0, []), (10, none, .iload_n 1, []), (11, none, .iload_n 2, []), (12, none, .iload_n 3, []), (13, none, .invokevirtual 124, []), (16, none, .istore 5, []), (18, none, .iload 4, []), (20, none, .iconst 5, []), (21, none, .if_icmp .eq 9, [30]), (24, none, .iload 4, []), (26, none, .iconst 4, []), (27, none, .if_icmp .ne 7, [34]), (30, none, .lconst 0, []), (31, none, .goto 26, [57]), (34, none, .aload_n 0, []), (35, none, .getfield 13, []), (38, none, .sipush 8000, []), (41, none, .iload_n 1, []), (42, none, .imul, []), (43, none, .iload 5, []), (45, none, .iadd, []), (46, none, .baload, []), (47, none, .ifCond .ge 9, [56]), (50, none, .ldc2_w 127, []), (53, none, .goto 4, [57]), (56, none, .lconst 0, []), (57, none, .lstore 6, []), (59, none, .iconst 0, []), (60, none, .istore 8, []), (62, some [0, 1, 2, 3, 4, 5, 6, 8], .iload 8, []), (64, none, .iload 4, []), (66, none, .invokestatic 117, []), (69, none, .if_icmp .ge 29, [98]), (72, none, .lload 6, []), (74, none, .ldc2_w 129, []), (77, none, .lmul, []), (78, none, .aload_n 0, []), (79, none, .iload_n 1, []), (80, none, .iload 5, []), (82, none, .iload 8, []), (84, none, .iadd, []), (85, none, .invokevirtual 95, []), (88, none, .i2l, []), (89, none, .ladd, []), (90, none, .lstore 6, []), (92, none, .iinc 8 1, []), (95, none, .goto (-33), [62]), (98, none, .lload 6, []), (100, none, .lreturn, [])]
def P_Model_valueAt : Nat → Option (List Nat) × Instr × List Nat := plk tb_Model_valueAt
theorem r_Model_valueAt_0 : P_Model_valueAt 0 = (none, .aload_n 0, []) := by decide +kernel
theorem r_Model_valueAt_1 : P_Model_valueAt 1 = (none, .iload_n 1, []) := by decide +kernel
theorem r_Model_valueAt_2 : P_Model_valueAt 2 = (none, .iload_n 2, []) := by decide +kernel
theorem r_Model_valueAt_3 : P_Model_valueAt 3 = (none, .iload_n 3, []) := by decide +kernel
theorem r_Model_valueAt_4 : P_Model_valueAt 4 = (none, .invokevirtual 121, []) := by decide +kernel
theorem r_Model_valueAt_7 : P_Model_valueAt 7 = (none, .istore 4, []) := by decide +kernel
theorem r_Model_valueAt_9 : P_Model_valueAt 9 = (none, .aload_n 0, []) := by decide +kernel
theorem r_Model_valueAt_10 : P_Model_valueAt 10 = (none, .iload_n 1, []) := by decide +kernel
theorem r_Model_valueAt_11 : P_Model_valueAt 11 = (none, .iload_n 2, []) := by decide +kernel
theorem r_Model_valueAt_12 : P_Model_valueAt 12 = (none, .iload_n 3, []) := by decide +kernel
theorem r_Model_valueAt_13 : P_Model_valueAt 13 = (none, .invokevirtual 124, []) := by decide +kernel
theorem r_Model_valueAt_16 : P_Model_valueAt 16 = (none, .istore 5, []) := by decide +kernel
theorem r_Model_valueAt_18 : P_Model_valueAt 18 = (none, .iload 4, []) := by decide +kernel
theorem r_Model_valueAt_20 : P_Model_valueAt 20 = (none, .iconst 5, []) := by decide +kernel
theorem r_Model_valueAt_21 : P_Model_valueAt 21 = (none, .if_icmp .eq 9, [30]) := by decide +kernel
theorem r_Model_valueAt_24 : P_Model_valueAt 24 = (none, .iload 4, []) := by decide +kernel
theorem r_Model_valueAt_26 : P_Model_valueAt 26 = (none, .iconst 4, []) := by decide +kernel
theorem r_Model_valueAt_27 : P_Model_valueAt 27 = (none, .if_icmp .ne 7, [34]) := by decide +kernel
theorem r_Model_valueAt_30 : P_Model_valueAt 30 = (none, .lconst 0, []) := by decide +kernel
theorem r_Model_valueAt_31 : P_Model_valueAt 31 = (none, .goto 26, [57]) := by decide +kernel
theorem r_Model_valueAt_34 : P_Model_valueAt 34 = (none, .aload_n 0, []) := by decide +kernel
theorem r_Model_valueAt_35 : P_Model_valueAt 35 = (none, .getfield 13, []) := by decide +kernel
theorem r_Model_valueAt_38 : P_Model_valueAt 38 = (none, .sipush 8000, []) := by decide +kernel
theorem r_Model_valueAt_41 : P_Model_valueAt 41 = (none, .iload_n 1, []) := by decide +kernel
theorem r_Model_valueAt_42 : P_Model_valueAt 42 = (none, .imul, []) := by decide +kernel
theorem r_Model_valueAt_43 : P_Model_valueAt 43 = (none, .iload 5, []) := by decide +kernel
theorem r_Model_valueAt_45 : P_Model_valueAt 45 = (none, .iadd, []) := by decide +kernel
theorem r_Model_valueAt_46 : P_Model_valueAt 46 = (none, .baload, []) := by decide +kernel
theorem r_Model_valueAt_47 : P_Model_valueAt 47 = (none, .ifCond .ge 9, [56]) := by decide +kernel
theorem r_Model_valueAt_50 : P_Model_valueAt 50 = (none, .ldc2_w 127, []) := by decide +kernel
theorem r_Model_valueAt_53 : P_Model_valueAt 53 = (none, .goto 4, [57]) := by decide +kernel
theorem r_Model_valueAt_56 : P_Model_valueAt 56 = (none, .lconst 0, []) := by decide +kernel
theorem r_Model_valueAt_57 : P_Model_valueAt 57 = (none, .lstore 6, []) := by decide +kernel
theorem r_Model_valueAt_59 : P_Model_valueAt 59 = (none, .iconst 0, []) := by decide +kernel
theorem r_Model_valueAt_60 : P_Model_valueAt 60 = (none, .istore 8, []) := by decide +kernel
theorem r_Model_valueAt_62 : P_Model_valueAt 62 = (some [0, 1, 2, 3, 4, 5, 6, 8], .iload 8, []) := by decide +kernel
theorem r_Model_valueAt_64 : P_Model_valueAt 64 = (none, .iload 4, []) := by decide +kernel
theorem r_Model_valueAt_66 : P_Model_valueAt 66 = (none, .invokestatic 117, []) := by decide +kernel
theorem r_Model_valueAt_69 : P_Model_valueAt 69 = (none, .if_icmp .ge 29, [98]) := by decide +kernel
theorem r_Model_valueAt_72 : P_Model_valueAt 72 = (none, .lload 6, []) := by decide +kernel
theorem r_Model_valueAt_74 : P_Model_valueAt 74 = (none, .ldc2_w 129, []) := by decide +kernel
theorem r_Model_valueAt_77 : P_Model_valueAt 77 = (none, .lmul, []) := by decide +kernel
theorem r_Model_valueAt_78 : P_Model_valueAt 78 = (none, .aload_n 0, []) := by decide +kernel
theorem r_Model_valueAt_79 : P_Model_valueAt 79 = (none, .iload_n 1, []) := by decide +kernel
theorem r_Model_valueAt_80 : P_Model_valueAt 80 = (none, .iload 5, []) := by decide +kernel
theorem r_Model_valueAt_82 : P_Model_valueAt 82 = (none, .iload 8, []) := by decide +kernel
theorem r_Model_valueAt_84 : P_Model_valueAt 84 = (none, .iadd, []) := by decide +kernel
theorem r_Model_valueAt_85 : P_Model_valueAt 85 = (none, .invokevirtual 95, []) := by decide +kernel
theorem r_Model_valueAt_88 : P_Model_valueAt 88 = (none, .i2l, []) := by decide +kernel
theorem r_Model_valueAt_89 : P_Model_valueAt 89 = (none, .ladd, []) := by decide +kernel
theorem r_Model_valueAt_90 : P_Model_valueAt 90 = (none, .lstore 6, []) := by decide +kernel
theorem r_Model_valueAt_92 : P_Model_valueAt 92 = (none, .iinc 8 1, []) := by decide +kernel
theorem r_Model_valueAt_95 : P_Model_valueAt 95 = (none, .goto (-33), [62]) := by decide +kernel
theorem r_Model_valueAt_98 : P_Model_valueAt 98 = (none, .lload 6, []) := by decide +kernel
theorem r_Model_valueAt_100 : P_Model_valueAt 100 = (none, .lreturn, []) := by decide +kernel
def E_Model_valueAt : List (Nat × Ent) := [(470, (1, 0, 0, 0, T_Model_width)), (484, (4, 3, 0, 0, T_Model_sortAt)), (496, (4, 4, 0, 0, T_Model_valuePlace)), (380, (3, 0, 0, 0, T_Model_at))]
def X_Model_valueAt : Cx := (llk (0, 0, 9) ftX11, llk 99 ntX11, llk none kcX11, llk none klX11, llk dEnt E_Model_valueAt, 5, 2, false)
theorem xok_Model_valueAt : Xok RX11 X_Model_valueAt := xok_of ftX11_ok ntX11_ok kcX11_ok klX11_ok (E := E_Model_valueAt) (List.forall_mem_cons.mpr ⟨co_X11_470, List.forall_mem_cons.mpr ⟨co_X11_484, List.forall_mem_cons.mpr ⟨co_X11_496, List.forall_mem_cons.mpr ⟨co_X11_380, fun _ h => absurd h List.not_mem_nil⟩⟩⟩⟩)
theorem xf_Model_valueAt_13 : xfl X_Model_valueAt 13 = (11, 2, 1) := by decide +kernel
theorem xl_Model_valueAt_127 : xkl X_Model_valueAt 127 = some (-1) := by decide +kernel
theorem xl_Model_valueAt_129 : xkl X_Model_valueAt 129 = some 256 := by decide +kernel
theorem xe_Model_valueAt_470 : xE X_Model_valueAt (4 * 117 + 2) = (1, 0, 0, 0, T_Model_width) := rfl
theorem xe_Model_valueAt_484 : xE X_Model_valueAt (4 * 121 + 0) = (4, 3, 0, 0, T_Model_sortAt) := rfl
theorem xe_Model_valueAt_496 : xE X_Model_valueAt (4 * 124 + 0) = (4, 4, 0, 0, T_Model_valuePlace) := rfl
theorem xe_Model_valueAt_380 : xE X_Model_valueAt (4 * 95 + 0) = (3, 0, 0, 0, T_Model_at) := rfl
theorem xd_Model_valueAt : xd X_Model_valueAt = 5 := rfl
theorem xrb_Model_valueAt : xrb X_Model_valueAt = 2 := rfl
theorem xin_Model_valueAt : xin X_Model_valueAt = false := rfl
set_option maxHeartbeats 4000000 in
set_option maxRecDepth 100000 in
theorem S_Model_valueAt : Snd yX11_valueAt cX11_valueAt 9 (some .long) T_Model_valueAt 5 0 0 := by
  refine snd_of (X := X_Model_valueAt) (P := P_Model_valueAt) (tb := tb_Model_valueAt) (own := RX11) (by decide) rfl rfl (by decide +kernel) xok_Model_valueAt rfl rk2 (fun h => by first | rfl | cases h) ?_
  intro as M k has hM hT0
  obtain ⟨sz, sl, lay, ρ, σ, τ⟩ := M
  obtain ⟨o, as1, e, hlo, hT1⟩ := mkT_r hT0
  clear hT0
  subst e
  obtain ⟨p, as2, e, hT2⟩ := pI_x hT1
  clear hT1
  subst e
  obtain ⟨q, as3, e, hT3⟩ := pI_x hT2
  clear hT2
  subst e
  obtain ⟨j, as4, e, hT4⟩ := pI_x hT3
  clear hT3
  subst e
  obtain ⟨e, hT⟩ := hT4
  subst e
  replace hlo : lay o = (21, 0) := hlo
  have r_p : -2147483648 ≤ p ∧ p ≤ 2147483647 := has (vI p) (by simp)
  have r_q : -2147483648 ≤ q ∧ q ≤ 2147483647 := has (vI q) (by simp)
  have r_j : -2147483648 ≤ j ∧ j ≤ 2147483647 := has (vI j) (by simp)
  clear has
  replace hM : ∀ a i, -2147483648 ≤ σ a i ∧ σ a i ≤ 2147483647 := hM
  replace hT : TF_Model_valueAt o p q j sz sl lay ρ σ τ k := hT
  unfold TF_Model_valueAt at hT
  obtain ⟨hL, U, len, A, hB, ⟨htp, hen⟩, hj, hT⟩ := hT
  obtain ⟨b1, b2, b3, b4, b5, b6, b7⟩ := (show MB σ o p U len A from hB)
  obtain ⟨J, hJd⟩ : ∃ J : Nat → List AV → Mm → Prop, J = (fun c vs M1 => c = 62 ∧ ∃ (c : Int → Int) (i : Nat), (i : Int) ≤ wd (sA U A q j) ∧ vs = [vR o, vI p, vI q, vI j, vI (sA U A q j), vI (vP U A q j), vL (Int64.ofInt (beZ U (vP U A q j) i (vS U (sA U A q j) (vP U A q j)))), vI (i : Int)] ∧ M1 = (sz, sl, lay, ρ, fu σ (o + 23) c, τ)) := ⟨_, rfl⟩
  obtain ⟨μ, hμ⟩ : ∃ μ : Nat → List AV → Mm → Nat, μ = (fun _ vs _ => (10 - gI (vs.getD 7 vN)).toNat) := ⟨_, rfl⟩
  refine ⟨Nat.le_of_ble_eq_true rfl, J, μ, 63, ?_, ?_⟩
  · skip
    have ht := htp.1
    have sa := ht.sa b5 hj
    have w := ht.wdR b5 hj
    have vi := ht.ve b5 hj
    have t3 := htp.2.1
    (obtain ⟨mh, mp0, mp2, mp3, mp4, mp5, mp6, mp7, mp8, mp9, mp10, mp11, mp12, mp13, mp14, mp15, mp16, mp17, mp18, mp19, mp20, mp21, mp22, mp24, mp25, mp26, mp27, mq0, mq2, mq3, mq4, mq5, mq6, mq7, mq8, mq9, mq10, mq11, mq12, mq13, mq14, mq15, mq16, mq17, mq18, mq19, mq20, mq21, mq22, mq24, mq25, mq26, mq27⟩ := (show LModel lay ρ _ from hL); unfold wps; simp only [si_iload_n0, si_iload_n1, si_iload_n2, si_iload_n3, si_iload, si_lload_n0, si_lload_n1, si_lload_n2, si_lload_n3, si_lload, si_aload_n0, si_aload_n1, si_aload_n2, si_aload_n3, si_aload, si_istore_n0, si_istore_n1, si_istore_n2, si_istore_n3, si_istore, si_astore_n0, si_astore_n1, si_astore_n2, si_astore_n3, si_astore, si_lstore_n0, si_lstore_n1, si_lstore_n2, si_lstore_n3, si_lstore, si_iconst, si_bipush, si_sipush, si_ldc, si_ldc2_w, si_lconst0, si_lconst1, si_aconst_null, si_iinc, si_dup, si_dup2, si_iadd, si_isub, si_imul, si_idiv, si_irem, si_iand, si_ior, si_ishl, si_ishr, si_ladd, si_lmul, si_lor, si_lxor, si_lshl, si_lushr, si_lcmp, si_i2b, si_i2l, si_l2i, si_icmp_eq, si_icmp_ne, si_icmp_lt, si_icmp_ge, si_icmp_gt, si_icmp_le, si_if_eq, si_if_ne, si_if_lt, si_if_ge, si_if_gt, si_if_le, si_ifnull, si_ifnonnull, si_goto, si_tableswitch, si_lookupswitch, si_getfield, si_putfield, si_getstatic, si_iaload, si_baload, si_laload, si_aaload, si_iastore, si_bastore, si_lastore, si_aastore, si_arraylength, si_new, si_newarray, si_anewarray, si_invokevirtual, si_invokespecial, si_invokestatic, si_ireturn, si_lreturn, si_areturn, si_return_, pI_e, pL_e, pR_e, pA_r, pA_n, pN_n, pN_r, oI_e, oL_e, oA_r, oA_n, lget_e, lrm1_0, lrm2_0, lrm1_i, lrm1_r, lrm1_n, lrm1_l, lrm2_i, lrm2_r, lrm2_n, lrm2_l, popN_0, popN_s, acat_i, acat_l, acat_r, acat_n, stw_0, stw_s, psh_s, psh_n, wgf_r, wgf_i, wgf_b, wgf_n, wgf_m, wpf_i, wpf_r, wpf_b, wnew_e, callE_e, rbk_0, rbk_1, tsw_0, tsw_s, lsw_0, lsw_s, wp_s, wq_t, wq_f, oV_e, pick_0, pick_s, oZ_e, oY_e, r_Model_valueAt_0, r_Model_valueAt_1, r_Model_valueAt_2, r_Model_valueAt_3, r_Model_valueAt_4, r_Model_valueAt_7, r_Model_valueAt_9, r_Model_valueAt_10, r_Model_valueAt_11, r_Model_valueAt_12, r_Model_valueAt_13, r_Model_valueAt_16, r_Model_valueAt_18, r_Model_valueAt_20, r_Model_valueAt_21, r_Model_valueAt_24, r_Model_valueAt_26, r_Model_valueAt_27, r_Model_valueAt_30, r_Model_valueAt_31, r_Model_valueAt_34, r_Model_valueAt_35, r_Model_valueAt_38, r_Model_valueAt_41, r_Model_valueAt_42, r_Model_valueAt_43, r_Model_valueAt_45, r_Model_valueAt_46, r_Model_valueAt_47, r_Model_valueAt_50, r_Model_valueAt_53, r_Model_valueAt_56, r_Model_valueAt_57, r_Model_valueAt_59, r_Model_valueAt_60, r_Model_valueAt_62, r_Model_valueAt_64, r_Model_valueAt_66, r_Model_valueAt_69, r_Model_valueAt_72, r_Model_valueAt_74, r_Model_valueAt_77, r_Model_valueAt_78, r_Model_valueAt_79, r_Model_valueAt_80, r_Model_valueAt_82, r_Model_valueAt_84, r_Model_valueAt_85, r_Model_valueAt_88, r_Model_valueAt_89, r_Model_valueAt_90, r_Model_valueAt_92, r_Model_valueAt_95, r_Model_valueAt_98, r_Model_valueAt_100, xf_Model_valueAt_13, xl_Model_valueAt_127, xl_Model_valueAt_129, xe_Model_valueAt_470, xe_Model_valueAt_484, xe_Model_valueAt_496, xe_Model_valueAt_380, xd_Model_valueAt, xrb_Model_valueAt, xin_Model_valueAt, T_Model_width_e, TF_Model_width, T_Model_sortAt_e, TF_Model_sortAt, T_Model_valuePlace_e, TF_Model_valuePlace, T_Model_at_e, TF_Model_at, MB_fu, mh, mp0, mp2, mp3, mp4, mp5, mp6, mp7, mp8, mp9, mp10, mp11, mp12, mp13, mp14, mp15, mp16, mp17, mp18, mp19, mp20, mp21, mp22, mp24, mp25, mp26, mp27, mq0, mq2, mq3, mq4, mq5, mq6, mq7, mq8, mq9, mq10, mq11, mq12, mq13, mq14, mq15, mq16, mq17, mq18, mq19, mq20, mq21, mq22, mq24, mq25, mq26, mq27, Nat.reduceAdd, Nat.reduceMul, Nat.reduceEqDiff, reduceIte, Int.reduceNeg, Int.reduceLE, Int.reduceLT, Int.reduceAdd, Int.reduceSub, Int.reduceToNat, true_and, and_true, inR_e, Nat.reduceLT, Nat.reduceLeDiff, reduceCtorEq, Nat.add_zero, Nat.zero_add, or_false, false_or, or_true, true_or, not_true_eq_false, not_false_eq_true, Classical.not_not, Nat.add_eq_zero_iff, and_false, false_and, Int.reduceEq, List.mem_cons, List.not_mem_nil, forall_eq_or_imp, forall_eq, false_implies, implies_true, forall_const, aargs_0, aargs_i, aargs_r, aargs_l, aargs_n, nfT_e, eq_self, and_self, Nat.le_refl, fu_s, fu_fu, iu_iu, iu_s, fu_am, fu_a0, fu_0a, iu_l, Nat.reduceBEq, Int.reduceBEq, T_objInit_e]; clear mp0 mp2 mp3 mp4 mp5 mp6 mp7 mp8 mp9 mp10 mp11 mp12 mp13 mp14 mp15 mp16 mp17 mp18 mp19 mp20 mp21 mp22 mp24 mp25 mp26 mp27)
    refine ⟨hL, U, len, A, hB, htp, hj, hL, U, len, A, hB, htp, by omega, fun d => ?_⟩
    have u7 := b7 (8000 * p + vP U A q j)
    have u3 := b3 (vP U A q j) (by omega)
    have key : ∀ v : Int64, v = Int64.ofInt (vS U (sA U A q j) (vP U A q j)) → J 62 [vR o, vI p, vI q, vI j, vI (sA U A q j), vI (vP U A q j), vL v, vI 0] (sz, sl, lay, ρ, fu σ (o + 23) d, τ) := by
      intro v hv
      rw [hJd, hv]
      exact ⟨rfl, d, 0, by omega, rfl, rfl⟩
    refine ⟨fun a => key _ ?_, fun a => ⟨fun b => ⟨by omega, by omega, by omega, by omega, fun a2 => key _ ?_, fun a2 => key _ ?_⟩, fun b => key _ ?_⟩⟩
    · unfold vS; rw [if_pos (Or.inl a)]; rfl
    · unfold vS; rw [if_neg (by omega), if_neg (by omega)]; rfl
    · unfold vS; rw [if_neg (by omega), if_pos (by omega)]; rfl
    · unfold vS; rw [if_pos (Or.inr b)]; rfl
  · intro cp vs M1 hvs hM1 hlen hJ
    rw [hJd] at hJ
    obtain ⟨rfl, c, i, hi, rfl, rfl⟩ := hJ
    have ht := htp.1
    have sa := ht.sa b5 hj
    have w := ht.wdR b5 hj
    have vi := ht.ve b5 hj
    have t3 := htp.2.1
    (obtain ⟨mh, mp0, mp2, mp3, mp4, mp5, mp6, mp7, mp8, mp9, mp10, mp11, mp12, mp13, mp14, mp15, mp16, mp17, mp18, mp19, mp20, mp21, mp22, mp24, mp25, mp26, mp27, mq0, mq2, mq3, mq4, mq5, mq6, mq7, mq8, mq9, mq10, mq11, mq12, mq13, mq14, mq15, mq16, mq17, mq18, mq19, mq20, mq21, mq22, mq24, mq25, mq26, mq27⟩ := (show LModel lay ρ _ from hL); unfold wps; simp only [Option.getD_some, List.zip_cons_cons, List.zip_nil_left, List.zip_nil_right, List.zip_nil_right, MB_fu, si_iload_n0, si_iload_n1, si_iload_n2, si_iload_n3, si_iload, si_lload_n0, si_lload_n1, si_lload_n2, si_lload_n3, si_lload, si_aload_n0, si_aload_n1, si_aload_n2, si_aload_n3, si_aload, si_istore_n0, si_istore_n1, si_istore_n2, si_istore_n3, si_istore, si_astore_n0, si_astore_n1, si_astore_n2, si_astore_n3, si_astore, si_lstore_n0, si_lstore_n1, si_lstore_n2, si_lstore_n3, si_lstore, si_iconst, si_bipush, si_sipush, si_ldc, si_ldc2_w, si_lconst0, si_lconst1, si_aconst_null, si_iinc, si_dup, si_dup2, si_iadd, si_isub, si_imul, si_idiv, si_irem, si_iand, si_ior, si_ishl, si_ishr, si_ladd, si_lmul, si_lor, si_lxor, si_lshl, si_lushr, si_lcmp, si_i2b, si_i2l, si_l2i, si_icmp_eq, si_icmp_ne, si_icmp_lt, si_icmp_ge, si_icmp_gt, si_icmp_le, si_if_eq, si_if_ne, si_if_lt, si_if_ge, si_if_gt, si_if_le, si_ifnull, si_ifnonnull, si_goto, si_tableswitch, si_lookupswitch, si_getfield, si_putfield, si_getstatic, si_iaload, si_baload, si_laload, si_aaload, si_iastore, si_bastore, si_lastore, si_aastore, si_arraylength, si_new, si_newarray, si_anewarray, si_invokevirtual, si_invokespecial, si_invokestatic, si_ireturn, si_lreturn, si_areturn, si_return_, pI_e, pL_e, pR_e, pA_r, pA_n, pN_n, pN_r, oI_e, oL_e, oA_r, oA_n, lget_e, lrm1_0, lrm2_0, lrm1_i, lrm1_r, lrm1_n, lrm1_l, lrm2_i, lrm2_r, lrm2_n, lrm2_l, popN_0, popN_s, acat_i, acat_l, acat_r, acat_n, stw_0, stw_s, psh_s, psh_n, wgf_r, wgf_i, wgf_b, wgf_n, wgf_m, wpf_i, wpf_r, wpf_b, wnew_e, callE_e, rbk_0, rbk_1, tsw_0, tsw_s, lsw_0, lsw_s, wp_s, wq_t, wq_f, oV_e, pick_0, pick_s, oZ_e, oY_e, r_Model_valueAt_0, r_Model_valueAt_1, r_Model_valueAt_2, r_Model_valueAt_3, r_Model_valueAt_4, r_Model_valueAt_7, r_Model_valueAt_9, r_Model_valueAt_10, r_Model_valueAt_11, r_Model_valueAt_12, r_Model_valueAt_13, r_Model_valueAt_16, r_Model_valueAt_18, r_Model_valueAt_20, r_Model_valueAt_21, r_Model_valueAt_24, r_Model_valueAt_26, r_Model_valueAt_27, r_Model_valueAt_30, r_Model_valueAt_31, r_Model_valueAt_34, r_Model_valueAt_35, r_Model_valueAt_38, r_Model_valueAt_41, r_Model_valueAt_42, r_Model_valueAt_43, r_Model_valueAt_45, r_Model_valueAt_46, r_Model_valueAt_47, r_Model_valueAt_50, r_Model_valueAt_53, r_Model_valueAt_56, r_Model_valueAt_57, r_Model_valueAt_59, r_Model_valueAt_60, r_Model_valueAt_62, r_Model_valueAt_64, r_Model_valueAt_66, r_Model_valueAt_69, r_Model_valueAt_72, r_Model_valueAt_74, r_Model_valueAt_77, r_Model_valueAt_78, r_Model_valueAt_79, r_Model_valueAt_80, r_Model_valueAt_82, r_Model_valueAt_84, r_Model_valueAt_85, r_Model_valueAt_88, r_Model_valueAt_89, r_Model_valueAt_90, r_Model_valueAt_92, r_Model_valueAt_95, r_Model_valueAt_98, r_Model_valueAt_100, xf_Model_valueAt_13, xl_Model_valueAt_127, xl_Model_valueAt_129, xe_Model_valueAt_470, xe_Model_valueAt_484, xe_Model_valueAt_496, xe_Model_valueAt_380, xd_Model_valueAt, xrb_Model_valueAt, xin_Model_valueAt, T_Model_width_e, TF_Model_width, T_Model_sortAt_e, TF_Model_sortAt, T_Model_valuePlace_e, TF_Model_valuePlace, T_Model_at_e, TF_Model_at, MB_fu, mh, mp0, mp2, mp3, mp4, mp5, mp6, mp7, mp8, mp9, mp10, mp11, mp12, mp13, mp14, mp15, mp16, mp17, mp18, mp19, mp20, mp21, mp22, mp24, mp25, mp26, mp27, mq0, mq2, mq3, mq4, mq5, mq6, mq7, mq8, mq9, mq10, mq11, mq12, mq13, mq14, mq15, mq16, mq17, mq18, mq19, mq20, mq21, mq22, mq24, mq25, mq26, mq27, Nat.reduceAdd, Nat.reduceMul, Nat.reduceEqDiff, reduceIte, Int.reduceNeg, Int.reduceLE, Int.reduceLT, Int.reduceAdd, Int.reduceSub, Int.reduceToNat, true_and, and_true, inR_e, Nat.reduceLT, Nat.reduceLeDiff, reduceCtorEq, Nat.add_zero, Nat.zero_add, or_false, false_or, or_true, true_or, not_true_eq_false, not_false_eq_true, Classical.not_not, Nat.add_eq_zero_iff, and_false, false_and, Int.reduceEq, List.mem_cons, List.not_mem_nil, forall_eq_or_imp, forall_eq, false_implies, implies_true, forall_const, aargs_0, aargs_i, aargs_r, aargs_l, aargs_n, nfT_e, eq_self, and_self, Nat.le_refl, fu_s, fu_fu, iu_iu, iu_s, fu_am, fu_a0, fu_0a, iu_l, Nat.reduceBEq, Int.reduceBEq, T_objInit_e]; clear mp0 mp2 mp3 mp4 mp5 mp6 mp7 mp8 mp9 mp10 mp11 mp12 mp13 mp14 mp15 mp16 mp17 mp18 mp19 mp20 mp21 mp22 mp24 mp25 mp26 mp27)
    refine ⟨sa, fun h => ?_, fun h => ⟨by omega, hL, b1, by omega, by omega, ?_, (by rw [hμ]; simp only [gI_e, List.getD_cons_succ, List.getD_cons_zero]; omega)⟩⟩
    · have e : i = (wd (sA U A q j)).toNat := by omega
      rw [e]
      exact hT c
    · rw [b3 (vP U A q j + i) (by omega), hJd]
      refine ⟨rfl, c, i + 1, by omega, ?_, rfl⟩
      rw [mul_add, ← beZ_s]
      rfl
theorem co_X11_524 : CallOK RX11 (.invokevirtual 131) (3, 3, 0, 0, T_Model_valuesAt) := call_V S_Model_valuesAt (by decide) (ci := 11) rfl (by decide +kernel) (by decide +kernel) (by decide +kernel) (by decide +kernel) (by decide +kernel) (by decide +kernel) T_Model_valuesAt_r
theorem co_X11_536 : CallOK RX11 (.invokevirtual 134) (3, 1, 0, 0, T_Model_sort) := call_V S_Model_sort (by decide) (ci := 11) rfl (by decide +kernel) (by decide +kernel) (by decide +kernel) (by decide +kernel) (by decide +kernel) (by decide +kernel) T_Model_sort_r
def TF_Model_sizeOf (o : Nat) (p : Int) (i : Int) (sz sl : Nat) (lay : Nat → Nat × Int) (ρ : Nat → Int → Nat) (σ : Nat → Int → Int) (τ : Nat → Int → Int64) (k : Option AV → Mm → Prop) : Prop := LModel lay ρ o ∧ ∃ (U : Int → Int) (len : Int) (A : Int → Int), MB σ o p U len A ∧ (0 ≤ i ∧ i < 600) ∧ TV U len A (σ (o + 13) (600 * p + i)) ∧ ∀ c : Int → Int, k (some (vI (szv U A (σ (o + 13) (600 * p + i))))) (sz, sl, lay, ρ, fu σ (o + 23) c, τ)
def T_Model_sizeOf : Tr := mkT 11 fun o as M k => pI as fun p as => pI as fun i as => as = [] ∧ TF_Model_sizeOf o p i M.1 M.2.1 M.2.2.1 M.2.2.2.1 M.2.2.2.2.1 M.2.2.2.2.2 k
theorem T_Model_sizeOf_e {o : Nat} {p : Int} {i : Int} {sz sl : Nat} {lay : Nat → Nat × Int} {ρ : Nat → Int → Nat} {σ : Nat → Int → Int} {τ : Nat → Int → Int64} {k : Option AV → Mm → Prop} : T_Model_sizeOf [vR o, vI p, vI i] (sz, sl, lay, ρ, σ, τ) k = (lay o = (21, 0) ∧ TF_Model_sizeOf o p i sz sl lay ρ σ τ k) := by simp [T_Model_sizeOf, mkT_e, pI_e, pR_e, pL_e]
theorem T_Model_sizeOf_r (as : List AV) (M : Mm) (k : Option AV → Mm → Prop) (h : T_Model_sizeOf as M k) : ∃ b As, as = vR b :: As ∧ M.2.2.1 b = (10 + 11, 0) := by
  obtain ⟨b, As, h1, h2, -⟩ := mkT_r h
  exact ⟨b, As, h1, h2⟩
def tb_Model_sizeOf : List (Nat × Option (List Nat) × Instr × List Nat) := [(0, none, .aload_n 0, []), (1, none, .getfield 47, []), (4, none, .sipush 600, []), (7, none, .iload_n 1, []), (8, none, .imul, []), (9, none, .iload_n 2, []), (10, none, .iadd, []), (11, none, .iaload, []), (12, none, .istore_n 3, []), (13, none, .aload_n 0, []), (14, none, .iload_n 1, []), (15, none, .iload_n 3, []), (16, none, .invokevirtual 131, []), (19, none, .istore 4, []), (21, none, .aload_n 0, []), (22, none, .iload_n 1, []), (23, none, .iload_n 2, []), (24, none, .invokevirtual 134, []), (27, none, .iconst 2, []), (28, none, .if_icmp .ne 8, [36]), (31, none, .bipush 12, []), (33, none, .goto 30, [63]), (36, none, .aload_n 0, []), (37, none, .iload_n 1, []), (38, none, .iload_n 2, []), (39, none, .invokevirtual 134, []), (42, none, .iconst 1, []), (43, none, .if_icmp .ne 8, [51]), (46, none, .bipush 6, []), (48, none, .goto 4, [52]), (51, none, .iconst 4, []), (52, none, .aload_n 0, []), (53, none, .iload_n 1, []), (54, none, .iload_n 3, []), (55, none, .iload 4, []), (57, none, .invokevirtual 124, []), (60, none, .iadd, []), (61, none, .iload_n 3, []), (62, none, .isub, []), (63, none, .istore 5, []), (65, none, .iload 5, []), (67, none, .bipush 7, []), (69, none, .iadd, []), (70, none, .bipush 8, []), (72, none, .idiv, []), (73, none, .bipush 8, []), (75, none, .imul, []), (76, none, .ireturn, [])]
def P_Model_sizeOf : Nat → Option (List Nat) × Instr × List Nat := plk tb_Model_sizeOf
theorem r_Model_sizeOf_0 : P_Model_sizeOf 0 = (none, .aload_n 0, []) := by decide +kernel
theorem r_Model_sizeOf_1 : P_Model_sizeOf 1 = (none, .getfield 47, []) := by decide +kernel
theorem r_Model_sizeOf_4 : P_Model_sizeOf 4 = (none, .sipush 600, []) := by decide +kernel
theorem r_Model_sizeOf_7 : P_Model_sizeOf 7 = (none, .iload_n 1, []) := by decide +kernel
theorem r_Model_sizeOf_8 : P_Model_sizeOf 8 = (none, .imul, []) := by decide +kernel
theorem r_Model_sizeOf_9 : P_Model_sizeOf 9 = (none, .iload_n 2, []) := by decide +kernel
theorem r_Model_sizeOf_10 : P_Model_sizeOf 10 = (none, .iadd, []) := by decide +kernel
theorem r_Model_sizeOf_11 : P_Model_sizeOf 11 = (none, .iaload, []) := by decide +kernel
theorem r_Model_sizeOf_12 : P_Model_sizeOf 12 = (none, .istore_n 3, []) := by decide +kernel
theorem r_Model_sizeOf_13 : P_Model_sizeOf 13 = (none, .aload_n 0, []) := by decide +kernel
theorem r_Model_sizeOf_14 : P_Model_sizeOf 14 = (none, .iload_n 1, []) := by decide +kernel
theorem r_Model_sizeOf_15 : P_Model_sizeOf 15 = (none, .iload_n 3, []) := by decide +kernel
theorem r_Model_sizeOf_16 : P_Model_sizeOf 16 = (none, .invokevirtual 131, []) := by decide +kernel
theorem r_Model_sizeOf_19 : P_Model_sizeOf 19 = (none, .istore 4, []) := by decide +kernel
theorem r_Model_sizeOf_21 : P_Model_sizeOf 21 = (none, .aload_n 0, []) := by decide +kernel
theorem r_Model_sizeOf_22 : P_Model_sizeOf 22 = (none, .iload_n 1, []) := by decide +kernel
theorem r_Model_sizeOf_23 : P_Model_sizeOf 23 = (none, .iload_n 2, []) := by decide +kernel
theorem r_Model_sizeOf_24 : P_Model_sizeOf 24 = (none, .invokevirtual 134, []) := by decide +kernel
theorem r_Model_sizeOf_27 : P_Model_sizeOf 27 = (none, .iconst 2, []) := by decide +kernel
theorem r_Model_sizeOf_28 : P_Model_sizeOf 28 = (none, .if_icmp .ne 8, [36]) := by decide +kernel
theorem r_Model_sizeOf_31 : P_Model_sizeOf 31 = (none, .bipush 12, []) := by decide +kernel
theorem r_Model_sizeOf_33 : P_Model_sizeOf 33 = (none, .goto 30, [63]) := by decide +kernel
theorem r_Model_sizeOf_36 : P_Model_sizeOf 36 = (none, .aload_n 0, []) := by decide +kernel
theorem r_Model_sizeOf_37 : P_Model_sizeOf 37 = (none, .iload_n 1, []) := by decide +kernel
theorem r_Model_sizeOf_38 : P_Model_sizeOf 38 = (none, .iload_n 2, []) := by decide +kernel
theorem r_Model_sizeOf_39 : P_Model_sizeOf 39 = (none, .invokevirtual 134, []) := by decide +kernel
theorem r_Model_sizeOf_42 : P_Model_sizeOf 42 = (none, .iconst 1, []) := by decide +kernel
theorem r_Model_sizeOf_43 : P_Model_sizeOf 43 = (none, .if_icmp .ne 8, [51]) := by decide +kernel
theorem r_Model_sizeOf_46 : P_Model_sizeOf 46 = (none, .bipush 6, []) := by decide +kernel
theorem r_Model_sizeOf_48 : P_Model_sizeOf 48 = (none, .goto 4, [52]) := by decide +kernel
theorem r_Model_sizeOf_51 : P_Model_sizeOf 51 = (none, .iconst 4, []) := by decide +kernel
theorem r_Model_sizeOf_52 : P_Model_sizeOf 52 = (none, .aload_n 0, []) := by decide +kernel
theorem r_Model_sizeOf_53 : P_Model_sizeOf 53 = (none, .iload_n 1, []) := by decide +kernel
theorem r_Model_sizeOf_54 : P_Model_sizeOf 54 = (none, .iload_n 3, []) := by decide +kernel
theorem r_Model_sizeOf_55 : P_Model_sizeOf 55 = (none, .iload 4, []) := by decide +kernel
theorem r_Model_sizeOf_57 : P_Model_sizeOf 57 = (none, .invokevirtual 124, []) := by decide +kernel
theorem r_Model_sizeOf_60 : P_Model_sizeOf 60 = (none, .iadd, []) := by decide +kernel
theorem r_Model_sizeOf_61 : P_Model_sizeOf 61 = (none, .iload_n 3, []) := by decide +kernel
theorem r_Model_sizeOf_62 : P_Model_sizeOf 62 = (none, .isub, []) := by decide +kernel
theorem r_Model_sizeOf_63 : P_Model_sizeOf 63 = (none, .istore 5, []) := by decide +kernel
theorem r_Model_sizeOf_65 : P_Model_sizeOf 65 = (none, .iload 5, []) := by decide +kernel
theorem r_Model_sizeOf_67 : P_Model_sizeOf 67 = (none, .bipush 7, []) := by decide +kernel
theorem r_Model_sizeOf_69 : P_Model_sizeOf 69 = (none, .iadd, []) := by decide +kernel
theorem r_Model_sizeOf_70 : P_Model_sizeOf 70 = (none, .bipush 8, []) := by decide +kernel
theorem r_Model_sizeOf_72 : P_Model_sizeOf 72 = (none, .idiv, []) := by decide +kernel
theorem r_Model_sizeOf_73 : P_Model_sizeOf 73 = (none, .bipush 8, []) := by decide +kernel
theorem r_Model_sizeOf_75 : P_Model_sizeOf 75 = (none, .imul, []) := by decide +kernel
theorem r_Model_sizeOf_76 : P_Model_sizeOf 76 = (none, .ireturn, []) := by decide +kernel
def E_Model_sizeOf : List (Nat × Ent) := [(496, (4, 4, 0, 0, T_Model_valuePlace)), (524, (3, 3, 0, 0, T_Model_valuesAt)), (536, (3, 1, 0, 0, T_Model_sort))]
def X_Model_sizeOf : Cx := (llk (0, 0, 9) ftX11, llk 99 ntX11, llk none kcX11, llk none klX11, llk dEnt E_Model_sizeOf, 5, 0, false)
theorem xok_Model_sizeOf : Xok RX11 X_Model_sizeOf := xok_of ftX11_ok ntX11_ok kcX11_ok klX11_ok (E := E_Model_sizeOf) (List.forall_mem_cons.mpr ⟨co_X11_496, List.forall_mem_cons.mpr ⟨co_X11_524, List.forall_mem_cons.mpr ⟨co_X11_536, fun _ h => absurd h List.not_mem_nil⟩⟩⟩)
theorem xf_Model_sizeOf_47 : xfl X_Model_sizeOf 47 = (11, 13, 1) := by decide +kernel
theorem xe_Model_sizeOf_496 : xE X_Model_sizeOf (4 * 124 + 0) = (4, 4, 0, 0, T_Model_valuePlace) := rfl
theorem xe_Model_sizeOf_524 : xE X_Model_sizeOf (4 * 131 + 0) = (3, 3, 0, 0, T_Model_valuesAt) := rfl
theorem xe_Model_sizeOf_536 : xE X_Model_sizeOf (4 * 134 + 0) = (3, 1, 0, 0, T_Model_sort) := rfl
theorem xd_Model_sizeOf : xd X_Model_sizeOf = 5 := rfl
theorem xrb_Model_sizeOf : xrb X_Model_sizeOf = 0 := rfl
theorem xin_Model_sizeOf : xin X_Model_sizeOf = false := rfl
set_option maxHeartbeats 4000000 in
set_option maxRecDepth 100000 in
theorem S_Model_sizeOf : Snd yX11_sizeOf cX11_sizeOf 6 (some .int) T_Model_sizeOf 5 0 0 := by
  refine snd_of (X := X_Model_sizeOf) (P := P_Model_sizeOf) (tb := tb_Model_sizeOf) (own := RX11) (by decide) rfl rfl (by decide +kernel) xok_Model_sizeOf rfl rk0 (fun h => by first | rfl | cases h) ?_
  intro as M k has hM hT0
  obtain ⟨sz, sl, lay, ρ, σ, τ⟩ := M
  obtain ⟨o, as1, e, hlo, hT1⟩ := mkT_r hT0
  clear hT0
  subst e
  obtain ⟨p, as2, e, hT2⟩ := pI_x hT1
  clear hT1
  subst e
  obtain ⟨i, as3, e, hT3⟩ := pI_x hT2
  clear hT2
  subst e
  obtain ⟨e, hT⟩ := hT3
  subst e
  replace hlo : lay o = (21, 0) := hlo
  have r_p : -2147483648 ≤ p ∧ p ≤ 2147483647 := has (vI p) (by simp)
  have r_i : -2147483648 ≤ i ∧ i ≤ 2147483647 := has (vI i) (by simp)
  clear has
  replace hM : ∀ a i, -2147483648 ≤ σ a i ∧ σ a i ≤ 2147483647 := hM
  replace hT : TF_Model_sizeOf o p i sz sl lay ρ σ τ k := hT
  unfold TF_Model_sizeOf at hT
  obtain ⟨hL, U, len, A, hB, hi, ⟨htp, hen⟩, hT⟩ := hT
  obtain ⟨b1, b2, b3, b4, b5, b6, b7⟩ := (show MB σ o p U len A from hB)
  refine ⟨Nat.le_of_ble_eq_true rfl, fun _ _ _ => False, fun _ _ _ => 0, 56, ?_, fun _ _ _ _ _ _ h => h.elim⟩
  have ht := htp.1
  have nv := ht.nv b5
  have t3 := htp.2.1
  have t4 := htp.2.2.1
  have vb := ht.vb b5 (nV U A (σ (o + 13) (600 * p + i))).toNat (by omega)
  rw [show (((nV U A (σ (o + 13) (600 * p + i))).toNat : Nat) : Int) = nV U A (σ (o + 13) (600 * p + i)) by omega] at vb
  have hd : 3 ≤ hdL U (σ (o + 13) (600 * p + i)) := by
    unfold hdL
    repeat' split
    all_goals omega
  generalize hq : σ (o + 13) (600 * p + i) = q at *
  (obtain ⟨mh, mp0, mp2, mp3, mp4, mp5, mp6, mp7, mp8, mp9, mp10, mp11, mp12, mp13, mp14, mp15, mp16, mp17, mp18, mp19, mp20, mp21, mp22, mp24, mp25, mp26, mp27, mq0, mq2, mq3, mq4, mq5, mq6, mq7, mq8, mq9, mq10, mq11, mq12, mq13, mq14, mq15, mq16, mq17, mq18, mq19, mq20, mq21, mq22, mq24, mq25, mq26, mq27⟩ := (show LModel lay ρ _ from hL); unfold wps; simp only [hq, si_iload_n0, si_iload_n1, si_iload_n2, si_iload_n3, si_iload, si_lload_n0, si_lload_n1, si_lload_n2, si_lload_n3, si_lload, si_aload_n0, si_aload_n1, si_aload_n2, si_aload_n3, si_aload, si_istore_n0, si_istore_n1, si_istore_n2, si_istore_n3, si_istore, si_astore_n0, si_astore_n1, si_astore_n2, si_astore_n3, si_astore, si_lstore_n0, si_lstore_n1, si_lstore_n2, si_lstore_n3, si_lstore, si_iconst, si_bipush, si_sipush, si_ldc, si_ldc2_w, si_lconst0, si_lconst1, si_aconst_null, si_iinc, si_dup, si_dup2, si_iadd, si_isub, si_imul, si_idiv, si_irem, si_iand, si_ior, si_ishl, si_ishr, si_ladd, si_lmul, si_lor, si_lxor, si_lshl, si_lushr, si_lcmp, si_i2b, si_i2l, si_l2i, si_icmp_eq, si_icmp_ne, si_icmp_lt, si_icmp_ge, si_icmp_gt, si_icmp_le, si_if_eq, si_if_ne, si_if_lt, si_if_ge, si_if_gt, si_if_le, si_ifnull, si_ifnonnull, si_goto, si_tableswitch, si_lookupswitch, si_getfield, si_putfield, si_getstatic, si_iaload, si_baload, si_laload, si_aaload, si_iastore, si_bastore, si_lastore, si_aastore, si_arraylength, si_new, si_newarray, si_anewarray, si_invokevirtual, si_invokespecial, si_invokestatic, si_ireturn, si_lreturn, si_areturn, si_return_, pI_e, pL_e, pR_e, pA_r, pA_n, pN_n, pN_r, oI_e, oL_e, oA_r, oA_n, lget_e, lrm1_0, lrm2_0, lrm1_i, lrm1_r, lrm1_n, lrm1_l, lrm2_i, lrm2_r, lrm2_n, lrm2_l, popN_0, popN_s, acat_i, acat_l, acat_r, acat_n, stw_0, stw_s, psh_s, psh_n, wgf_r, wgf_i, wgf_b, wgf_n, wgf_m, wpf_i, wpf_r, wpf_b, wnew_e, callE_e, rbk_0, rbk_1, tsw_0, tsw_s, lsw_0, lsw_s, wp_s, wq_t, wq_f, oV_e, pick_0, pick_s, oZ_e, oY_e, r_Model_sizeOf_0, r_Model_sizeOf_1, r_Model_sizeOf_4, r_Model_sizeOf_7, r_Model_sizeOf_8, r_Model_sizeOf_9, r_Model_sizeOf_10, r_Model_sizeOf_11, r_Model_sizeOf_12, r_Model_sizeOf_13, r_Model_sizeOf_14, r_Model_sizeOf_15, r_Model_sizeOf_16, r_Model_sizeOf_19, r_Model_sizeOf_21, r_Model_sizeOf_22, r_Model_sizeOf_23, r_Model_sizeOf_24, r_Model_sizeOf_27, r_Model_sizeOf_28, r_Model_sizeOf_31, r_Model_sizeOf_33, r_Model_sizeOf_36, r_Model_sizeOf_37, r_Model_sizeOf_38, r_Model_sizeOf_39, r_Model_sizeOf_42, r_Model_sizeOf_43, r_Model_sizeOf_46, r_Model_sizeOf_48, r_Model_sizeOf_51, r_Model_sizeOf_52, r_Model_sizeOf_53, r_Model_sizeOf_54, r_Model_sizeOf_55, r_Model_sizeOf_57, r_Model_sizeOf_60, r_Model_sizeOf_61, r_Model_sizeOf_62, r_Model_sizeOf_63, r_Model_sizeOf_65, r_Model_sizeOf_67, r_Model_sizeOf_69, r_Model_sizeOf_70, r_Model_sizeOf_72, r_Model_sizeOf_73, r_Model_sizeOf_75, r_Model_sizeOf_76, xf_Model_sizeOf_47, xe_Model_sizeOf_496, xe_Model_sizeOf_524, xe_Model_sizeOf_536, xd_Model_sizeOf, xrb_Model_sizeOf, xin_Model_sizeOf, T_Model_valuePlace_e, TF_Model_valuePlace, T_Model_valuesAt_e, TF_Model_valuesAt, T_Model_sort_e, TF_Model_sort, MB_fu, mh, mp0, mp2, mp3, mp4, mp5, mp6, mp7, mp8, mp9, mp10, mp11, mp12, mp13, mp14, mp15, mp16, mp17, mp18, mp19, mp20, mp21, mp22, mp24, mp25, mp26, mp27, mq0, mq2, mq3, mq4, mq5, mq6, mq7, mq8, mq9, mq10, mq11, mq12, mq13, mq14, mq15, mq16, mq17, mq18, mq19, mq20, mq21, mq22, mq24, mq25, mq26, mq27, Nat.reduceAdd, Nat.reduceMul, Nat.reduceEqDiff, reduceIte, Int.reduceNeg, Int.reduceLE, Int.reduceLT, Int.reduceAdd, Int.reduceSub, Int.reduceToNat, true_and, and_true, inR_e, Nat.reduceLT, Nat.reduceLeDiff, reduceCtorEq, Nat.add_zero, Nat.zero_add, or_false, false_or, or_true, true_or, not_true_eq_false, not_false_eq_true, Classical.not_not, Nat.add_eq_zero_iff, and_false, false_and, Int.reduceEq, List.mem_cons, List.not_mem_nil, forall_eq_or_imp, forall_eq, false_implies, implies_true, forall_const, aargs_0, aargs_i, aargs_r, aargs_l, aargs_n, nfT_e, eq_self, and_self, Nat.le_refl, fu_s, fu_fu, iu_iu, iu_s, fu_am, fu_a0, fu_0a, iu_l, Nat.reduceBEq, Int.reduceBEq, T_objInit_e]; clear mp0 mp2 mp3 mp4 mp5 mp6 mp7 mp8 mp9 mp10 mp11 mp12 mp13 mp14 mp15 mp16 mp17 mp18 mp19 mp20 mp21 mp22 mp24 mp25 mp26 mp27)
  refine ⟨by omega, by omega, by omega, by omega, hL, U, len, A, hB, htp, fun c => ⟨hL, U, len, A, hB, hi, by omega, ?_⟩⟩
  have key : ∀ r : Int, (r = if U q = 83 then 12 else (if U q = 82 then 6 else 4) + (vP U A q (nV U A q) - q)) → ∀ d, k (some (vI ((r + 7) / 8 * 8))) (sz, sl, lay, ρ, fu σ (o + 23) d, τ) := by
    intro r hr d
    have := hT d
    unfold szv at this
    rw [← hr] at this
    exact this
  rcases ht with ⟨e, t1, t2⟩ | ⟨e, t1, t2⟩ | e
  · have es : srt U q = 0 := by unfold srt; rw [if_pos e]
    rw [es]
    refine ⟨fun _ => ⟨hL, U, len, A, hB, hi, by omega, ?_⟩, fun a => by omega⟩
    rw [es]
    refine ⟨fun _ => ⟨hL, U, len, A, hB, htp, by omega, fun d => ⟨by omega, by omega, by omega, by omega, by omega, key _ ?_ d⟩⟩, fun a => by omega⟩
    rw [if_neg (by omega), if_neg (by omega)]
    omega
  · have es : srt U q = 1 := by unfold srt; rw [if_neg (by omega), if_pos e]
    rw [es]
    refine ⟨fun _ => ⟨hL, U, len, A, hB, hi, by omega, ?_⟩, fun a => by omega⟩
    rw [es]
    refine ⟨fun a => absurd rfl a, fun _ => ⟨hL, U, len, A, hB, htp, by omega, fun d => ⟨by omega, by omega, by omega, by omega, by omega, key _ ?_ d⟩⟩⟩
    rw [if_neg (by omega), if_pos e]
    omega
  · have es : srt U q = 2 := by unfold srt; rw [if_neg (by omega), if_neg (by omega)]
    rw [es]
    refine ⟨fun a => absurd rfl a, fun _ => ?_⟩
    have := key 12 (by rw [if_pos e]) c
    exact ⟨by omega, this⟩

theorem co_X11_396 : CallOK RX11 (.invokevirtual 99) (3, 0, 0, 0, T_Model_kindPlace) := call_V S_Model_kindPlace (by decide) (ci := 11) rfl (by decide +kernel) (by decide +kernel) (by decide +kernel) (by decide +kernel) (by decide +kernel) (by decide +kernel) T_Model_kindPlace_r
def TF_Model_above (o : Nat) (p : Int) (x : Int) (sz sl : Nat) (lay : Nat → Nat × Int) (ρ : Nat → Int → Nat) (σ : Nat → Int → Int) (τ : Nat → Int → Int64) (k : Option AV → Mm → Prop) : Prop := LModel lay ρ o ∧ ∃ (U : Int → Int) (len : Int) (A : Int → Int), MB σ o p U len A ∧ kn5 A x ∧ (∀ σ2 : Nat → Int → Int, Fr σ σ2 (o + 23) 0 → (∀ i : Nat, i < (ch U A x).length → σ2 (o + 23) i = (ch U A x).getD i 0) → k (some (vI (((ch U A x).length : Int)))) (sz, sl, lay, ρ, σ2, τ))
def T_Model_above : Tr := mkT 11 fun o as M k => pI as fun p as => pI as fun x as => as = [] ∧ TF_Model_above o p x M.1 M.2.1 M.2.2.1 M.2.2.2.1 M.2.2.2.2.1 M.2.2.2.2.2 k
theorem T_Model_above_e {o : Nat} {p : Int} {x : Int} {sz sl : Nat} {lay : Nat → Nat × Int} {ρ : Nat → Int → Nat} {σ : Nat → Int → Int} {τ : Nat → Int → Int64} {k : Option AV → Mm → Prop} : T_Model_above [vR o, vI p, vI x] (sz, sl, lay, ρ, σ, τ) k = (lay o = (21, 0) ∧ TF_Model_above o p x sz sl lay ρ σ τ k) := by simp [T_Model_above, mkT_e, pI_e, pR_e, pL_e]
theorem T_Model_above_r (as : List AV) (M : Mm) (k : Option AV → Mm → Prop) (h : T_Model_above as M k) : ∃ b As, as = vR b :: As ∧ M.2.2.1 b = (10 + 11, 0) := by
  obtain ⟨b, As, h1, h2, -⟩ := mkT_r h
  exact ⟨b, As, h1, h2⟩
def tb_Model_above : List (Nat × Option (List Nat) × Instr × List Nat) := [(0, none, .iconst 0, []), (1, none, .istore_n 3, []), (2, none, .iload_n 2, []), (3, none, .istore 4, []), (5, some [0, 1, 2, 3, 4], .iload 4, []), (7, none, .sipush 255, []), (10, none, .if_icmp .eq 33, [43]), (13, none, .aload_n 0, []), (14, none, .getfield 78, []), (17, none, .iload_n 3, []), (18, none, .iload 4, []), (20, none, .iastore, []), (21, none, .iinc 3 1, []), (24, none, .aload_n 0, []), (25, none, .iload_n 1, []), (26, none, .aload_n 0, []), (27, none, .iload_n 1, []), (28, none, .iload 4, []), (30, none, .invokevirtual 99, []), (33, none, .iconst 2, []), (34, none, .iadd, []), (35, none, .invokevirtual 95, []), (38, none, .istore 4, []), (40, none, .goto (-35), [5]), (43, none, .iload_n 3, []), (44, none, .ireturn, [])]
def P_Model_above : Nat → Option (List Nat) × Instr × List Nat := plk tb_Model_above
theorem r_Model_above_0 : P_Model_above 0 = (none, .iconst 0, []) := by decide +kernel
theorem r_Model_above_1 : P_Model_above 1 = (none, .istore_n 3, []) := by decide +kernel
theorem r_Model_above_2 : P_Model_above 2 = (none, .iload_n 2, []) := by decide +kernel
theorem r_Model_above_3 : P_Model_above 3 = (none, .istore 4, []) := by decide +kernel
theorem r_Model_above_5 : P_Model_above 5 = (some [0, 1, 2, 3, 4], .iload 4, []) := by decide +kernel
theorem r_Model_above_7 : P_Model_above 7 = (none, .sipush 255, []) := by decide +kernel
theorem r_Model_above_10 : P_Model_above 10 = (none, .if_icmp .eq 33, [43]) := by decide +kernel
theorem r_Model_above_13 : P_Model_above 13 = (none, .aload_n 0, []) := by decide +kernel
theorem r_Model_above_14 : P_Model_above 14 = (none, .getfield 78, []) := by decide +kernel
theorem r_Model_above_17 : P_Model_above 17 = (none, .iload_n 3, []) := by decide +kernel
theorem r_Model_above_18 : P_Model_above 18 = (none, .iload 4, []) := by decide +kernel
theorem r_Model_above_20 : P_Model_above 20 = (none, .iastore, []) := by decide +kernel
theorem r_Model_above_21 : P_Model_above 21 = (none, .iinc 3 1, []) := by decide +kernel
theorem r_Model_above_24 : P_Model_above 24 = (none, .aload_n 0, []) := by decide +kernel
theorem r_Model_above_25 : P_Model_above 25 = (none, .iload_n 1, []) := by decide +kernel
theorem r_Model_above_26 : P_Model_above 26 = (none, .aload_n 0, []) := by decide +kernel
theorem r_Model_above_27 : P_Model_above 27 = (none, .iload_n 1, []) := by decide +kernel
theorem r_Model_above_28 : P_Model_above 28 = (none, .iload 4, []) := by decide +kernel
theorem r_Model_above_30 : P_Model_above 30 = (none, .invokevirtual 99, []) := by decide +kernel
theorem r_Model_above_33 : P_Model_above 33 = (none, .iconst 2, []) := by decide +kernel
theorem r_Model_above_34 : P_Model_above 34 = (none, .iadd, []) := by decide +kernel
theorem r_Model_above_35 : P_Model_above 35 = (none, .invokevirtual 95, []) := by decide +kernel
theorem r_Model_above_38 : P_Model_above 38 = (none, .istore 4, []) := by decide +kernel
theorem r_Model_above_40 : P_Model_above 40 = (none, .goto (-35), [5]) := by decide +kernel
theorem r_Model_above_43 : P_Model_above 43 = (none, .iload_n 3, []) := by decide +kernel
theorem r_Model_above_44 : P_Model_above 44 = (none, .ireturn, []) := by decide +kernel
def E_Model_above : List (Nat × Ent) := [(380, (3, 0, 0, 0, T_Model_at)), (396, (3, 0, 0, 0, T_Model_kindPlace))]
def X_Model_above : Cx := (llk (0, 0, 9) ftX11, llk 99 ntX11, llk none kcX11, llk none klX11, llk dEnt E_Model_above, 1, 0, false)
theorem xok_Model_above : Xok RX11 X_Model_above := xok_of ftX11_ok ntX11_ok kcX11_ok klX11_ok (E := E_Model_above) (List.forall_mem_cons.mpr ⟨co_X11_380, List.forall_mem_cons.mpr ⟨co_X11_396, fun _ h => absurd h List.not_mem_nil⟩⟩)
theorem xf_Model_above_78 : xfl X_Model_above 78 = (11, 24, 1) := by decide +kernel
theorem xe_Model_above_380 : xE X_Model_above (4 * 95 + 0) = (3, 0, 0, 0, T_Model_at) := rfl
theorem xe_Model_above_396 : xE X_Model_above (4 * 99 + 0) = (3, 0, 0, 0, T_Model_kindPlace) := rfl
theorem xd_Model_above : xd X_Model_above = 1 := rfl
theorem xrb_Model_above : xrb X_Model_above = 0 := rfl
theorem xin_Model_above : xin X_Model_above = false := rfl
set_option maxHeartbeats 4000000 in
set_option maxRecDepth 100000 in
theorem S_Model_above : Snd yX11_above cX11_above 5 (some .int) T_Model_above 1 0 0 := by
  refine snd_of (X := X_Model_above) (P := P_Model_above) (tb := tb_Model_above) (own := RX11) (by decide) rfl rfl (by decide +kernel) xok_Model_above rfl rk0 (fun h => by first | rfl | cases h) ?_
  intro as M k has hM hT0
  obtain ⟨sz, sl, lay, ρ, σ, τ⟩ := M
  obtain ⟨o, as1, e, hlo, hT1⟩ := mkT_r hT0
  clear hT0
  subst e
  obtain ⟨p, as2, e, hT2⟩ := pI_x hT1
  clear hT1
  subst e
  obtain ⟨x, as3, e, hT3⟩ := pI_x hT2
  clear hT2
  subst e
  obtain ⟨e, hT⟩ := hT3
  subst e
  replace hlo : lay o = (21, 0) := hlo
  have r_p : -2147483648 ≤ p ∧ p ≤ 2147483647 := has (vI p) (by simp)
  have r_x : -2147483648 ≤ x ∧ x ≤ 2147483647 := has (vI x) (by simp)
  clear has
  replace hM : ∀ a i, -2147483648 ≤ σ a i ∧ σ a i ≤ 2147483647 := hM
  replace hT : TF_Model_above o p x sz sl lay ρ σ τ k := hT
  unfold TF_Model_above at hT
  obtain ⟨hL, U, len, A, hB, hx, hT⟩ := hT
  obtain ⟨J, hJd⟩ : ∃ J : Nat → List AV → Mm → Prop, J = (fun c vs M1 => c = 5 ∧ ∃ (pre : List Int) (y : Int) (σ1 : Nat → Int → Int), kn5 A y ∧ (ch U A x) = pre ++ ch U A y ∧ Fr σ σ1 (o + 23) 0 ∧ (∀ i : Nat, i < pre.length → σ1 (o + 23) i = pre.getD i 0) ∧ vs = [vR o, vI p, vI x, vI (pre.length : Int), vI y] ∧ M1 = (sz, sl, lay, ρ, σ1, τ)) := ⟨_, rfl⟩
  obtain ⟨μ, hμ⟩ : ∃ μ : Nat → List AV → Mm → Nat, μ = (fun _ vs _ => (50 - gI (vs.getD 3 vN)).toNat) := ⟨_, rfl⟩
  refine ⟨Nat.le_of_ble_eq_true rfl, J, μ, 34, ?_, ?_⟩
  · obtain ⟨mh, mp0, mp2, mp3, mp4, mp5, mp6, mp7, mp8, mp9, mp10, mp11, mp12, mp13, mp14, mp15, mp16, mp17, mp18, mp19, mp20, mp21, mp22, mp24, mp25, mp26, mp27, mq0, mq2, mq3, mq4, mq5, mq6, mq7, mq8, mq9, mq10, mq11, mq12, mq13, mq14, mq15, mq16, mq17, mq18, mq19, mq20, mq21, mq22, mq24, mq25, mq26, mq27⟩ := (show LModel lay ρ _ from hL)
    unfold wps
    simp only [si_iload_n0, si_iload_n1, si_iload_n2, si_iload_n3, si_iload, si_lload_n0, si_lload_n1, si_lload_n2, si_lload_n3, si_lload, si_aload_n0, si_aload_n1, si_aload_n2, si_aload_n3, si_aload, si_istore_n0, si_istore_n1, si_istore_n2, si_istore_n3, si_istore, si_astore_n0, si_astore_n1, si_astore_n2, si_astore_n3, si_astore, si_lstore_n0, si_lstore_n1, si_lstore_n2, si_lstore_n3, si_lstore, si_iconst, si_bipush, si_sipush, si_ldc, si_ldc2_w, si_lconst0, si_lconst1, si_aconst_null, si_iinc, si_dup, si_dup2, si_iadd, si_isub, si_imul, si_idiv, si_irem, si_iand, si_ior, si_ishl, si_ishr, si_ladd, si_lmul, si_lor, si_lxor, si_lshl, si_lushr, si_lcmp, si_i2b, si_i2l, si_l2i, si_icmp_eq, si_icmp_ne, si_icmp_lt, si_icmp_ge, si_icmp_gt, si_icmp_le, si_if_eq, si_if_ne, si_if_lt, si_if_ge, si_if_gt, si_if_le, si_ifnull, si_ifnonnull, si_goto, si_tableswitch, si_lookupswitch, si_getfield, si_putfield, si_getstatic, si_iaload, si_baload, si_laload, si_aaload, si_iastore, si_bastore, si_lastore, si_aastore, si_arraylength, si_new, si_newarray, si_anewarray, si_invokevirtual, si_invokespecial, si_invokestatic, si_ireturn, si_lreturn, si_areturn, si_return_, pI_e, pL_e, pR_e, pA_r, pA_n, pN_n, pN_r, oI_e, oL_e, oA_r, oA_n, lget_e, lrm1_0, lrm2_0, lrm1_i, lrm1_r, lrm1_n, lrm1_l, lrm2_i, lrm2_r, lrm2_n, lrm2_l, popN_0, popN_s, acat_i, acat_l, acat_r, acat_n, stw_0, stw_s, psh_s, psh_n, wgf_r, wgf_i, wgf_b, wgf_n, wgf_m, wpf_i, wpf_r, wpf_b, wnew_e, callE_e, rbk_0, rbk_1, tsw_0, tsw_s, lsw_0, lsw_s, wp_s, wq_t, wq_f, oV_e, pick_0, pick_s, oZ_e, oY_e, r_Model_above_0, r_Model_above_1, r_Model_above_2, r_Model_above_3, r_Model_above_5, r_Model_above_7, r_Model_above_10, r_Model_above_13, r_Model_above_14, r_Model_above_17, r_Model_above_18, r_Model_above_20, r_Model_above_21, r_Model_above_24, r_Model_above_25, r_Model_above_26, r_Model_above_27, r_Model_above_28, r_Model_above_30, r_Model_above_33, r_Model_above_34, r_Model_above_35, r_Model_above_38, r_Model_above_40, r_Model_above_43, r_Model_above_44, xf_Model_above_78, xe_Model_above_380, xe_Model_above_396, xd_Model_above, xrb_Model_above, xin_Model_above, T_Model_at_e, TF_Model_at, T_Model_kindPlace_e, TF_Model_kindPlace, mh, mp0, mp2, mp3, mp4, mp5, mp6, mp7, mp8, mp9, mp10, mp11, mp12, mp13, mp14, mp15, mp16, mp17, mp18, mp19, mp20, mp21, mp22, mp24, mp25, mp26, mp27, mq0, mq2, mq3, mq4, mq5, mq6, mq7, mq8, mq9, mq10, mq11, mq12, mq13, mq14, mq15, mq16, mq17, mq18, mq19, mq20, mq21, mq22, mq24, mq25, mq26, mq27, Nat.reduceAdd, Nat.reduceMul, Nat.reduceEqDiff, reduceIte, Int.reduceNeg, Int.reduceLE, Int.reduceLT, Int.reduceAdd, Int.reduceSub, Int.reduceToNat, true_and, and_true, inR_e, Nat.reduceLT, Nat.reduceLeDiff, reduceCtorEq, Nat.add_zero, Nat.zero_add, or_false, false_or, or_true, true_or, not_true_eq_false, not_false_eq_true, Classical.not_not, Nat.add_eq_zero_iff, and_false, false_and, Int.reduceEq, List.mem_cons, List.not_mem_nil, forall_eq_or_imp, forall_eq, false_implies, implies_true, forall_const, aargs_0, aargs_i, aargs_r, aargs_l, aargs_n, nfT_e, eq_self, and_self, Nat.le_refl, fu_s, fu_fu, iu_iu, iu_s, fu_am, fu_a0, fu_0a, iu_l, Nat.reduceBEq, Int.reduceBEq, T_objInit_e]
    clear mp0 mp2 mp3 mp4 mp5 mp6 mp7 mp8 mp9 mp10 mp11 mp12 mp13 mp14 mp15 mp16 mp17 mp18 mp19 mp20 mp21 mp22 mp24 mp25 mp26 mp27
    rw [hJd]
    exact ⟨rfl, [], x, σ, hx, rfl, Fr.rfl', fun i hi => by simp at hi, rfl, rfl⟩
  · intro cp vs M1 hvs hM1 hlen hJ
    rw [hJd] at hJ
    obtain ⟨rfl, pre, y, σ1, g1, g2, g3, g4, rfl, rfl⟩ := hJ
    have e2 : σ1 (o + 2) = σ (o + 2) := g3 _ (by omega)
    have e11 : σ1 (o + 11) = σ (o + 11) := g3 _ (by omega)
    obtain ⟨b1, b2, b3, b4, b5, b6, b7⟩ := (show MB σ o p U len A from hB)
    have hlen := ch_len b5 hx
    have hl2 : (ch U A x).length = pre.length + (ch U A y).length := by rw [g2, List.length_append]
    (obtain ⟨mh, mp0, mp2, mp3, mp4, mp5, mp6, mp7, mp8, mp9, mp10, mp11, mp12, mp13, mp14, mp15, mp16, mp17, mp18, mp19, mp20, mp21, mp22, mp24, mp25, mp26, mp27, mq0, mq2, mq3, mq4, mq5, mq6, mq7, mq8, mq9, mq10, mq11, mq12, mq13, mq14, mq15, mq16, mq17, mq18, mq19, mq20, mq21, mq22, mq24, mq25, mq26, mq27⟩ := (show LModel lay ρ _ from hL); unfold wps; simp only [Option.getD_some, List.zip_cons_cons, List.zip_nil_left, List.zip_nil_right, List.zip_nil_right, e2, e11, si_iload_n0, si_iload_n1, si_iload_n2, si_iload_n3, si_iload, si_lload_n0, si_lload_n1, si_lload_n2, si_lload_n3, si_lload, si_aload_n0, si_aload_n1, si_aload_n2, si_aload_n3, si_aload, si_istore_n0, si_istore_n1, si_istore_n2, si_istore_n3, si_istore, si_astore_n0, si_astore_n1, si_astore_n2, si_astore_n3, si_astore, si_lstore_n0, si_lstore_n1, si_lstore_n2, si_lstore_n3, si_lstore, si_iconst, si_bipush, si_sipush, si_ldc, si_ldc2_w, si_lconst0, si_lconst1, si_aconst_null, si_iinc, si_dup, si_dup2, si_iadd, si_isub, si_imul, si_idiv, si_irem, si_iand, si_ior, si_ishl, si_ishr, si_ladd, si_lmul, si_lor, si_lxor, si_lshl, si_lushr, si_lcmp, si_i2b, si_i2l, si_l2i, si_icmp_eq, si_icmp_ne, si_icmp_lt, si_icmp_ge, si_icmp_gt, si_icmp_le, si_if_eq, si_if_ne, si_if_lt, si_if_ge, si_if_gt, si_if_le, si_ifnull, si_ifnonnull, si_goto, si_tableswitch, si_lookupswitch, si_getfield, si_putfield, si_getstatic, si_iaload, si_baload, si_laload, si_aaload, si_iastore, si_bastore, si_lastore, si_aastore, si_arraylength, si_new, si_newarray, si_anewarray, si_invokevirtual, si_invokespecial, si_invokestatic, si_ireturn, si_lreturn, si_areturn, si_return_, pI_e, pL_e, pR_e, pA_r, pA_n, pN_n, pN_r, oI_e, oL_e, oA_r, oA_n, lget_e, lrm1_0, lrm2_0, lrm1_i, lrm1_r, lrm1_n, lrm1_l, lrm2_i, lrm2_r, lrm2_n, lrm2_l, popN_0, popN_s, acat_i, acat_l, acat_r, acat_n, stw_0, stw_s, psh_s, psh_n, wgf_r, wgf_i, wgf_b, wgf_n, wgf_m, wpf_i, wpf_r, wpf_b, wnew_e, callE_e, rbk_0, rbk_1, tsw_0, tsw_s, lsw_0, lsw_s, wp_s, wq_t, wq_f, oV_e, pick_0, pick_s, oZ_e, oY_e, r_Model_above_0, r_Model_above_1, r_Model_above_2, r_Model_above_3, r_Model_above_5, r_Model_above_7, r_Model_above_10, r_Model_above_13, r_Model_above_14, r_Model_above_17, r_Model_above_18, r_Model_above_20, r_Model_above_21, r_Model_above_24, r_Model_above_25, r_Model_above_26, r_Model_above_27, r_Model_above_28, r_Model_above_30, r_Model_above_33, r_Model_above_34, r_Model_above_35, r_Model_above_38, r_Model_above_40, r_Model_above_43, r_Model_above_44, xf_Model_above_78, xe_Model_above_380, xe_Model_above_396, xd_Model_above, xrb_Model_above, xin_Model_above, T_Model_at_e, TF_Model_at, T_Model_kindPlace_e, TF_Model_kindPlace, mh, mp0, mp2, mp3, mp4, mp5, mp6, mp7, mp8, mp9, mp10, mp11, mp12, mp13, mp14, mp15, mp16, mp17, mp18, mp19, mp20, mp21, mp22, mp24, mp25, mp26, mp27, mq0, mq2, mq3, mq4, mq5, mq6, mq7, mq8, mq9, mq10, mq11, mq12, mq13, mq14, mq15, mq16, mq17, mq18, mq19, mq20, mq21, mq22, mq24, mq25, mq26, mq27, Nat.reduceAdd, Nat.reduceMul, Nat.reduceEqDiff, reduceIte, Int.reduceNeg, Int.reduceLE, Int.reduceLT, Int.reduceAdd, Int.reduceSub, Int.reduceToNat, true_and, and_true, inR_e, Nat.reduceLT, Nat.reduceLeDiff, reduceCtorEq, Nat.add_zero, Nat.zero_add, or_false, false_or, or_true, true_or, not_true_eq_false, not_false_eq_true, Classical.not_not, Nat.add_eq_zero_iff, and_false, false_and, Int.reduceEq, List.mem_cons, List.not_mem_nil, forall_eq_or_imp, forall_eq, false_implies, implies_true, forall_const, aargs_0, aargs_i, aargs_r, aargs_l, aargs_n, nfT_e, eq_self, and_self, Nat.le_refl, fu_s, fu_fu, iu_iu, iu_s, fu_am, fu_a0, fu_0a, iu_l, Nat.reduceBEq, Int.reduceBEq, T_objInit_e]; clear mp0 mp2 mp3 mp4 mp5 mp6 mp7 mp8 mp9 mp10 mp11 mp12 mp13 mp14 mp15 mp16 mp17 mp18 mp19 mp20 mp21 mp22 mp24 mp25 mp26 mp27)
    refine ⟨fun h => ?_, fun h => ?_⟩
    · rw [h, ch_255, List.append_nil] at g2
      have := hT σ1 g3 (fun i hi => by rw [g2] at hi ⊢; exact g4 i hi)
      rw [g2] at this
      exact this
    · have hy : (0 ≤ y ∧ y < 40) ∧ 0 ≤ A y := by
        rcases g1 with z | z
        · exact absurd z h
        · exact z
      have hc := ch_k b5 hy.1 hy.2
      have h6 := b6 y hy.1 hy.2
      have h3 := b5.1 (A y + 3)
      rw [hc, List.length_cons] at hl2
      have hA := (b5.2 y hy.1 hy.2).1
      rw [b4 y hy.1]
      refine ⟨by omega, by omega, by omega, hL, b1, fun _ => ⟨by omega, hL, b1, by omega, ?_, (by rw [hμ]; simp only [gI_e, List.getD_cons_succ, List.getD_cons_zero]; omega)⟩, fun z => absurd hy.1 z⟩
      rw [hJd, b3 (A y + 2) (by omega)]
      refine ⟨rfl, pre ++ [y], U (A y + 2), _, b5.par hy.1 hy.2, by rw [g2, hc, List.append_assoc]; rfl, g3.fu (by omega), fun i hi => ?_, by rw [List.length_append]; rfl, rfl⟩
      rw [List.length_append, List.length_singleton] at hi
      rw [fu_s]
      by_cases e : i = pre.length
      · subst e
        rw [iu_s]
        simp
      · rw [iu_n (by omega), g4 i (by omega), List.getD_eq_getElem?_getD, List.getD_eq_getElem?_getD, List.getElem?_append_left (by omega)]

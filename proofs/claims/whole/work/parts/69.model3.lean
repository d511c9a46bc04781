theorem fL_app {U A : Int → Int} : ∀ a b : List Int, fL U A (a ++ b) = fL U A a + fL U A b
  | [], b => by show fL U A b = 0 + fL U A b; omega
  | k :: a, b => by
    show U (A k + 3) + fL U A (a ++ b) = U (A k + 3) + fL U A a + fL U A b
    rw [fL_app a b]
    omega
theorem co_X11_408 : CallOK RX11 (.invokevirtual 102) (3, 1, 0, 0, T_Model_above) := call_V S_Model_above (by decide) (ci := 11) rfl (by decide +kernel) (by decide +kernel) (by decide +kernel) (by decide +kernel) (by decide +kernel) (by decide +kernel) T_Model_above_r
def TF_Model_fieldsOf (o : Nat) (p : Int) (x : Int) (sz sl : Nat) (lay : Nat → Nat × Int) (ρ : Nat → Int → Nat) (σ : Nat → Int → Int) (τ : Nat → Int → Int64) (k : Option AV → Mm → Prop) : Prop := LModel lay ρ o ∧ ∃ (U : Int → Int) (len : Int) (A : Int → Int), MB σ o p U len A ∧ kn5 A x ∧ (∀ σ2 : Nat → Int → Int, Fr σ σ2 (o + 23) 0 → k (some (vI (fL U A (ch U A x)))) (sz, sl, lay, ρ, σ2, τ))
def T_Model_fieldsOf : Tr := mkT 11 fun o as M k => pI as fun p as => pI as fun x as => as = [] ∧ TF_Model_fieldsOf o p x M.1 M.2.1 M.2.2.1 M.2.2.2.1 M.2.2.2.2.1 M.2.2.2.2.2 k
theorem T_Model_fieldsOf_e {o : Nat} {p : Int} {x : Int} {sz sl : Nat} {lay : Nat → Nat × Int} {ρ : Nat → Int → Nat} {σ : Nat → Int → Int} {τ : Nat → Int → Int64} {k : Option AV → Mm → Prop} : T_Model_fieldsOf [vR o, vI p, vI x] (sz, sl, lay, ρ, σ, τ) k = (lay o = (21, 0) ∧ TF_Model_fieldsOf o p x sz sl lay ρ σ τ k) := by simp [T_Model_fieldsOf, mkT_e, pI_e, pR_e, pL_e]
theorem T_Model_fieldsOf_r (as : List AV) (M : Mm) (k : Option AV → Mm → Prop) (h : T_Model_fieldsOf as M k) : ∃ b As, as = vR b :: As ∧ M.2.2.1 b = (10 + 11, 0) := by
  obtain ⟨b, As, h1, h2, -⟩ := mkT_r h
  exact ⟨b, As, h1, h2⟩
def tb_Model_fieldsOf : List (Nat × Option (List Nat) × Instr × List Nat) := [(0, none, .aload_n 0, []), (1, none, .iload_n 1, []), (2, none, .iload_n 2, []), (3, none, .invokevirtual 102, []), (6, none, .istore_n 3, []), (7, none, .iconst 0, []), (8, none, .istore 4, []), (10, none, .iconst 0, []), (11, none, .istore 5, []), (13, some [0, 1, 2, 3, 4, 5], .iload 5, []), (15, none, .iload_n 3, []), (16, none, .if_icmp .ge 33, [49]), (19, none, .iload 4, []), (21, none, .aload_n 0, []), (22, none, .iload_n 1, []), (23, none, .aload_n 0, []), (24, none, .iload_n 1, []), (25, none, .aload_n 0, []), (26, none, .getfield 78, []), (29, none, .iload 5, []), (31, none, .iaload, []), (32, none, .invokevirtual 99, []), (35, none, .iconst 3, []), (36, none, .iadd, []), (37, none, .invokevirtual 95, []), (40, none, .iadd, []), (41, none, .istore 4, []), (43, none, .iinc 5 1, []), (46, none, .goto (-33), [13]), (49, none, .iload 4, []), (51, none, .ireturn, [])]
def P_Model_fieldsOf : Nat → Option (List Nat) × Instr × List Nat := plk tb_Model_fieldsOf
theorem r_Model_fieldsOf_0 : P_Model_fieldsOf 0 = (none, .aload_n 0, []) := by decide +kernel
theorem r_Model_fieldsOf_1 : P_Model_fieldsOf 1 = (none, .iload_n 1, []) := by decide +kernel
theorem r_Model_fieldsOf_2 : P_Model_fieldsOf 2 = (none, .iload_n 2, []) := by decide +kernel
theorem r_Model_fieldsOf_3 : P_Model_fieldsOf 3 = (none, .invokevirtual 102, []) := by decide +kernel
theorem r_Model_fieldsOf_6 : P_Model_fieldsOf 6 = (none, .istore_n 3, []) := by decide +kernel
theorem r_Model_fieldsOf_7 : P_Model_fieldsOf 7 = (none, .iconst 0, []) := by decide +kernel
theorem r_Model_fieldsOf_8 : P_Model_fieldsOf 8 = (none, .istore 4, []) := by decide +kernel
theorem r_Model_fieldsOf_10 : P_Model_fieldsOf 10 = (none, .iconst 0, []) := by decide +kernel
theorem r_Model_fieldsOf_11 : P_Model_fieldsOf 11 = (none, .istore 5, []) := by decide +kernel
theorem r_Model_fieldsOf_13 : P_Model_fieldsOf 13 = (some [0, 1, 2, 3, 4, 5], .iload 5, []) := by decide +kernel
theorem r_Model_fieldsOf_15 : P_Model_fieldsOf 15 = (none, .iload_n 3, []) := by decide +kernel
theorem r_Model_fieldsOf_16 : P_Model_fieldsOf 16 = (none, .if_icmp .ge 33, [49]) := by decide +kernel
theorem r_Model_fieldsOf_19 : P_Model_fieldsOf 19 = (none, .iload 4, []) := by decide +kernel
theorem r_Model_fieldsOf_21 : P_Model_fieldsOf 21 = (none, .aload_n 0, []) := by decide +kernel
theorem r_Model_fieldsOf_22 : P_Model_fieldsOf 22 = (none, .iload_n 1, []) := by decide +kernel
theorem r_Model_fieldsOf_23 : P_Model_fieldsOf 23 = (none, .aload_n 0, []) := by decide +kernel
theorem r_Model_fieldsOf_24 : P_Model_fieldsOf 24 = (none, .iload_n 1, []) := by decide +kernel
theorem r_Model_fieldsOf_25 : P_Model_fieldsOf 25 = (none, .aload_n 0, []) := by decide +kernel
theorem r_Model_fieldsOf_26 : P_Model_fieldsOf 26 = (none, .getfield 78, []) := by decide +kernel
theorem r_Model_fieldsOf_29 : P_Model_fieldsOf 29 = (none, .iload 5, []) := by decide +kernel
theorem r_Model_fieldsOf_31 : P_Model_fieldsOf 31 = (none, .iaload, []) := by decide +kernel
theorem r_Model_fieldsOf_32 : P_Model_fieldsOf 32 = (none, .invokevirtual 99, []) := by decide +kernel
theorem r_Model_fieldsOf_35 : P_Model_fieldsOf 35 = (none, .iconst 3, []) := by decide +kernel
theorem r_Model_fieldsOf_36 : P_Model_fieldsOf 36 = (none, .iadd, []) := by decide +kernel
theorem r_Model_fieldsOf_37 : P_Model_fieldsOf 37 = (none, .invokevirtual 95, []) := by decide +kernel
theorem r_Model_fieldsOf_40 : P_Model_fieldsOf 40 = (none, .iadd, []) := by decide +kernel
theorem r_Model_fieldsOf_41 : P_Model_fieldsOf 41 = (none, .istore 4, []) := by decide +kernel
theorem r_Model_fieldsOf_43 : P_Model_fieldsOf 43 = (none, .iinc 5 1, []) := by decide +kernel
theorem r_Model_fieldsOf_46 : P_Model_fieldsOf 46 = (none, .goto (-33), [13]) := by decide +kernel
theorem r_Model_fieldsOf_49 : P_Model_fieldsOf 49 = (none, .iload 4, []) := by decide +kernel
theorem r_Model_fieldsOf_51 : P_Model_fieldsOf 51 = (none, .ireturn, []) := by decide +kernel
def E_Model_fieldsOf : List (Nat × Ent) := [(408, (3, 1, 0, 0, T_Model_above)), (380, (3, 0, 0, 0, T_Model_at)), (396, (3, 0, 0, 0, T_Model_kindPlace))]
def X_Model_fieldsOf : Cx := (llk (0, 0, 9) ftX11, llk 99 ntX11, llk none kcX11, llk none klX11, llk dEnt E_Model_fieldsOf, 2, 0, false)
theorem xok_Model_fieldsOf : Xok RX11 X_Model_fieldsOf := xok_of ftX11_ok ntX11_ok kcX11_ok klX11_ok (E := E_Model_fieldsOf) (List.forall_mem_cons.mpr ⟨co_X11_408, List.forall_mem_cons.mpr ⟨co_X11_380, List.forall_mem_cons.mpr ⟨co_X11_396, fun _ h => absurd h List.not_mem_nil⟩⟩⟩)
theorem xf_Model_fieldsOf_78 : xfl X_Model_fieldsOf 78 = (11, 24, 1) := by decide +kernel
theorem xe_Model_fieldsOf_408 : xE X_Model_fieldsOf (4 * 102 + 0) = (3, 1, 0, 0, T_Model_above) := rfl
theorem xe_Model_fieldsOf_380 : xE X_Model_fieldsOf (4 * 95 + 0) = (3, 0, 0, 0, T_Model_at) := rfl
theorem xe_Model_fieldsOf_396 : xE X_Model_fieldsOf (4 * 99 + 0) = (3, 0, 0, 0, T_Model_kindPlace) := rfl
theorem xd_Model_fieldsOf : xd X_Model_fieldsOf = 2 := rfl
theorem xrb_Model_fieldsOf : xrb X_Model_fieldsOf = 0 := rfl
theorem xin_Model_fieldsOf : xin X_Model_fieldsOf = false := rfl
set_option maxHeartbeats 4000000 in
set_option maxRecDepth 100000 in
theorem S_Model_fieldsOf : Snd yX11_fieldsOf cX11_fieldsOf 6 (some .int) T_Model_fieldsOf 2 0 0 := by
  refine snd_of (X := X_Model_fieldsOf) (P := P_Model_fieldsOf) (tb := tb_Model_fieldsOf) (own := RX11) (by decide) rfl rfl (by decide +kernel) xok_Model_fieldsOf rfl rk0 (fun h => by first | rfl | cases h) ?_
  intro as M k has hM hT0
  obtain ⟨sz, sl, lay, ρ, σ, τ⟩ := M
  obtain ⟨o, as1, e, hlo, hT1⟩ := mkT_r hT0
  clear hT0
  subst e
  obtain ⟨p, as2, e, hT2⟩ := pI_x hT1
  clear hT1
  subst e
  obtain ⟨x, as3, e, hT3⟩ := pI_x hT2
  clear hT2
  subst e
  obtain ⟨e, hT⟩ := hT3
  subst e
  replace hlo : lay o = (21, 0) := hlo
  have r_p : -2147483648 ≤ p ∧ p ≤ 2147483647 := has (vI p) (by simp)
  have r_x : -2147483648 ≤ x ∧ x ≤ 2147483647 := has (vI x) (by simp)
  clear has
  replace hM : ∀ a i, -2147483648 ≤ σ a i ∧ σ a i ≤ 2147483647 := hM
  replace hT : TF_Model_fieldsOf o p x sz sl lay ρ σ τ k := hT
  unfold TF_Model_fieldsOf at hT
  obtain ⟨hL, U, len, A, hB, hx, hT⟩ := hT
  obtain ⟨J, hJd⟩ : ∃ J : Nat → List AV → Mm → Prop, J = (fun c vs M1 => c = 13 ∧ ∃ (pre suf : List Int) (σ1 : Nat → Int → Int), (ch U A x) = pre ++ suf ∧ Fr σ σ1 (o + 23) 0 ∧ (∀ i : Nat, i < (ch U A x).length → σ1 (o + 23) i = (ch U A x).getD i 0) ∧ vs = [vR o, vI p, vI x, vI ((ch U A x).length : Int), vI (fL U A pre), vI (pre.length : Int)] ∧ M1 = (sz, sl, lay, ρ, σ1, τ)) := ⟨_, rfl⟩
  obtain ⟨μ, hμ⟩ : ∃ μ : Nat → List AV → Mm → Nat, μ = (fun _ vs _ => (50 - gI (vs.getD 5 vN)).toNat) := ⟨_, rfl⟩
  refine ⟨Nat.le_of_ble_eq_true rfl, J, μ, 39, ?_, ?_⟩
  · obtain ⟨mh, mp0, mp2, mp3, mp4, mp5, mp6, mp7, mp8, mp9, mp10, mp11, mp12, mp13, mp14, mp15, mp16, mp17, mp18, mp19, mp20, mp21, mp22, mp24, mp25, mp26, mp27, mq0, mq2, mq3, mq4, mq5, mq6, mq7, mq8, mq9, mq10, mq11, mq12, mq13, mq14, mq15, mq16, mq17, mq18, mq19, mq20, mq21, mq22, mq24, mq25, mq26, mq27⟩ := (show LModel lay ρ _ from hL)
    unfold wps
    simp only [si_iload_n0, si_iload_n1, si_iload_n2, si_iload_n3, si_iload, si_lload_n0, si_lload_n1, si_lload_n2, si_lload_n3, si_lload, si_aload_n0, si_aload_n1, si_aload_n2, si_aload_n3, si_aload, si_istore_n0, si_istore_n1, si_istore_n2, si_istore_n3, si_istore, si_astore_n0, si_astore_n1, si_astore_n2, si_astore_n3, si_astore, si_lstore_n0, si_lstore_n1, si_lstore_n2, si_lstore_n3, si_lstore, si_iconst, si_bipush, si_sipush, si_ldc, si_ldc2_w, si_lconst0, si_lconst1, si_aconst_null, si_iinc, si_dup, si_dup2, si_iadd, si_isub, si_imul, si_idiv, si_irem, si_iand, si_ior, si_ishl, si_ishr, si_ladd, si_lmul, si_lor, si_lxor, si_lshl, si_lushr, si_lcmp, si_i2b, si_i2l, si_l2i, si_icmp_eq, si_icmp_ne, si_icmp_lt, si_icmp_ge, si_icmp_gt, si_icmp_le, si_if_eq, si_if_ne, si_if_lt, si_if_ge, si_if_gt, si_if_le, si_ifnull, si_ifnonnull, si_goto, si_tableswitch, si_lookupswitch, si_getfield, si_putfield, si_getstatic, si_iaload, si_baload, si_laload, si_aaload, si_iastore, si_bastore, si_lastore, si_aastore, si_arraylength, si_new, si_newarray, si_anewarray, si_invokevirtual, si_invokespecial, si_invokestatic, si_ireturn, si_lreturn, si_areturn, si_return_, pI_e, pL_e, pR_e, pA_r, pA_n, pN_n, pN_r, oI_e, oL_e, oA_r, oA_n, lget_e, lrm1_0, lrm2_0, lrm1_i, lrm1_r, lrm1_n, lrm1_l, lrm2_i, lrm2_r, lrm2_n, lrm2_l, popN_0, popN_s, acat_i, acat_l, acat_r, acat_n, stw_0, stw_s, psh_s, psh_n, wgf_r, wgf_i, wgf_b, wgf_n, wgf_m, wpf_i, wpf_r, wpf_b, wnew_e, callE_e, rbk_0, rbk_1, tsw_0, tsw_s, lsw_0, lsw_s, wp_s, wq_t, wq_f, oV_e, pick_0, pick_s, oZ_e, oY_e, r_Model_fieldsOf_0, r_Model_fieldsOf_1, r_Model_fieldsOf_2, r_Model_fieldsOf_3, r_Model_fieldsOf_6, r_Model_fieldsOf_7, r_Model_fieldsOf_8, r_Model_fieldsOf_10, r_Model_fieldsOf_11, r_Model_fieldsOf_13, r_Model_fieldsOf_15, r_Model_fieldsOf_16, r_Model_fieldsOf_19, r_Model_fieldsOf_21, r_Model_fieldsOf_22, r_Model_fieldsOf_23, r_Model_fieldsOf_24, r_Model_fieldsOf_25, r_Model_fieldsOf_26, r_Model_fieldsOf_29, r_Model_fieldsOf_31, r_Model_fieldsOf_32, r_Model_fieldsOf_35, r_Model_fieldsOf_36, r_Model_fieldsOf_37, r_Model_fieldsOf_40, r_Model_fieldsOf_41, r_Model_fieldsOf_43, r_Model_fieldsOf_46, r_Model_fieldsOf_49, r_Model_fieldsOf_51, xf_Model_fieldsOf_78, xe_Model_fieldsOf_408, xe_Model_fieldsOf_380, xe_Model_fieldsOf_396, xd_Model_fieldsOf, xrb_Model_fieldsOf, xin_Model_fieldsOf, T_Model_above_e, TF_Model_above, T_Model_at_e, TF_Model_at, T_Model_kindPlace_e, TF_Model_kindPlace, mh, mp0, mp2, mp3, mp4, mp5, mp6, mp7, mp8, mp9, mp10, mp11, mp12, mp13, mp14, mp15, mp16, mp17, mp18, mp19, mp20, mp21, mp22, mp24, mp25, mp26, mp27, mq0, mq2, mq3, mq4, mq5, mq6, mq7, mq8, mq9, mq10, mq11, mq12, mq13, mq14, mq15, mq16, mq17, mq18, mq19, mq20, mq21, mq22, mq24, mq25, mq26, mq27, Nat.reduceAdd, Nat.reduceMul, Nat.reduceEqDiff, reduceIte, Int.reduceNeg, Int.reduceLE, Int.reduceLT, Int.reduceAdd, Int.reduceSub, Int.reduceToNat, true_and, and_true, inR_e, Nat.reduceLT, Nat.reduceLeDiff, reduceCtorEq, Nat.add_zero, Nat.zero_add, or_false, false_or, or_true, true_or, not_true_eq_false, not_false_eq_true, Classical.not_not, Nat.add_eq_zero_iff, and_false, false_and, Int.reduceEq, List.mem_cons, List.not_mem_nil, forall_eq_or_imp, forall_eq, false_implies, implies_true, forall_const, aargs_0, aargs_i, aargs_r, aargs_l, aargs_n, nfT_e, eq_self, and_self, Nat.le_refl, fu_s, fu_fu, iu_iu, iu_s, fu_am, fu_a0, fu_0a, iu_l, Nat.reduceBEq, Int.reduceBEq, T_objInit_e]
    clear mp0 mp2 mp3 mp4 mp5 mp6 mp7 mp8 mp9 mp10 mp11 mp12 mp13 mp14 mp15 mp16 mp17 mp18 mp19 mp20 mp21 mp22 mp24 mp25 mp26 mp27
    refine ⟨hL, U, len, A, hB, hx, fun σ2 f1 f2 => ?_⟩
    rw [hJd]
    exact ⟨rfl, [], ch U A x, σ2, rfl, f1, f2, rfl, rfl⟩
  · intro cp vs M1 hvs hM1 hlen hJ
    rw [hJd] at hJ
    obtain ⟨rfl, pre, suf, σ1, g2, g3, g4, rfl, rfl⟩ := hJ
    have e2 : σ1 (o + 2) = σ (o + 2) := g3 _ (by omega)
    have e11 : σ1 (o + 11) = σ (o + 11) := g3 _ (by omega)
    obtain ⟨b1, b2, b3, b4, b5, b6, b7⟩ := (show MB σ o p U len A from hB)
    have hlen := ch_len b5 hx
    have hin := ch_in b5 x hx
    have hl2 : (ch U A x).length = pre.length + suf.length := by rw [g2, List.length_append]
    have hfp := fL_R b5 pre (fun z hz => hin z (by rw [g2]; exact List.mem_append_left _ hz))
    (obtain ⟨mh, mp0, mp2, mp3, mp4, mp5, mp6, mp7, mp8, mp9, mp10, mp11, mp12, mp13, mp14, mp15, mp16, mp17, mp18, mp19, mp20, mp21, mp22, mp24, mp25, mp26, mp27, mq0, mq2, mq3, mq4, mq5, mq6, mq7, mq8, mq9, mq10, mq11, mq12, mq13, mq14, mq15, mq16, mq17, mq18, mq19, mq20, mq21, mq22, mq24, mq25, mq26, mq27⟩ := (show LModel lay ρ _ from hL); unfold wps; simp only [Option.getD_some, List.zip_cons_cons, List.zip_nil_left, List.zip_nil_right, List.zip_nil_right, e2, e11, si_iload_n0, si_iload_n1, si_iload_n2, si_iload_n3, si_iload, si_lload_n0, si_lload_n1, si_lload_n2, si_lload_n3, si_lload, si_aload_n0, si_aload_n1, si_aload_n2, si_aload_n3, si_aload, si_istore_n0, si_istore_n1, si_istore_n2, si_istore_n3, si_istore, si_astore_n0, si_astore_n1, si_astore_n2, si_astore_n3, si_astore, si_lstore_n0, si_lstore_n1, si_lstore_n2, si_lstore_n3, si_lstore, si_iconst, si_bipush, si_sipush, si_ldc, si_ldc2_w, si_lconst0, si_lconst1, si_aconst_null, si_iinc, si_dup, si_dup2, si_iadd, si_isub, si_imul, si_idiv, si_irem, si_iand, si_ior, si_ishl, si_ishr, si_ladd, si_lmul, si_lor, si_lxor, si_lshl, si_lushr, si_lcmp, si_i2b, si_i2l, si_l2i, si_icmp_eq, si_icmp_ne, si_icmp_lt, si_icmp_ge, si_icmp_gt, si_icmp_le, si_if_eq, si_if_ne, si_if_lt, si_if_ge, si_if_gt, si_if_le, si_ifnull, si_ifnonnull, si_goto, si_tableswitch, si_lookupswitch, si_getfield, si_putfield, si_getstatic, si_iaload, si_baload, si_laload, si_aaload, si_iastore, si_bastore, si_lastore, si_aastore, si_arraylength, si_new, si_newarray, si_anewarray, si_invokevirtual, si_invokespecial, si_invokestatic, si_ireturn, si_lreturn, si_areturn, si_return_, pI_e, pL_e, pR_e, pA_r, pA_n, pN_n, pN_r, oI_e, oL_e, oA_r, oA_n, lget_e, lrm1_0, lrm2_0, lrm1_i, lrm1_r, lrm1_n, lrm1_l, lrm2_i, lrm2_r, lrm2_n, lrm2_l, popN_0, popN_s, acat_i, acat_l, acat_r, acat_n, stw_0, stw_s, psh_s, psh_n, wgf_r, wgf_i, wgf_b, wgf_n, wgf_m, wpf_i, wpf_r, wpf_b, wnew_e, callE_e, rbk_0, rbk_1, tsw_0, tsw_s, lsw_0, lsw_s, wp_s, wq_t, wq_f, oV_e, pick_0, pick_s, oZ_e, oY_e, r_Model_fieldsOf_0, r_Model_fieldsOf_1, r_Model_fieldsOf_2, r_Model_fieldsOf_3, r_Model_fieldsOf_6, r_Model_fieldsOf_7, r_Model_fieldsOf_8, r_Model_fieldsOf_10, r_Model_fieldsOf_11, r_Model_fieldsOf_13, r_Model_fieldsOf_15, r_Model_fieldsOf_16, r_Model_fieldsOf_19, r_Model_fieldsOf_21, r_Model_fieldsOf_22, r_Model_fieldsOf_23, r_Model_fieldsOf_24, r_Model_fieldsOf_25, r_Model_fieldsOf_26, r_Model_fieldsOf_29, r_Model_fieldsOf_31, r_Model_fieldsOf_32, r_Model_fieldsOf_35, r_Model_fieldsOf_36, r_Model_fieldsOf_37, r_Model_fieldsOf_40, r_Model_fieldsOf_41, r_Model_fieldsOf_43, r_Model_fieldsOf_46, r_Model_fieldsOf_49, r_Model_fieldsOf_51, xf_Model_fieldsOf_78, xe_Model_fieldsOf_408, xe_Model_fieldsOf_380, xe_Model_fieldsOf_396, xd_Model_fieldsOf, xrb_Model_fieldsOf, xin_Model_fieldsOf, T_Model_above_e, TF_Model_above, T_Model_at_e, TF_Model_at, T_Model_kindPlace_e, TF_Model_kindPlace, mh, mp0, mp2, mp3, mp4, mp5, mp6, mp7, mp8, mp9, mp10, mp11, mp12, mp13, mp14, mp15, mp16, mp17, mp18, mp19, mp20, mp21, mp22, mp24, mp25, mp26, mp27, mq0, mq2, mq3, mq4, mq5, mq6, mq7, mq8, mq9, mq10, mq11, mq12, mq13, mq14, mq15, mq16, mq17, mq18, mq19, mq20, mq21, mq22, mq24, mq25, mq26, mq27, Nat.reduceAdd, Nat.reduceMul, Nat.reduceEqDiff, reduceIte, Int.reduceNeg, Int.reduceLE, Int.reduceLT, Int.reduceAdd, Int.reduceSub, Int.reduceToNat, true_and, and_true, inR_e, Nat.reduceLT, Nat.reduceLeDiff, reduceCtorEq, Nat.add_zero, Nat.zero_add, or_false, false_or, or_true, true_or, not_true_eq_false, not_false_eq_true, Classical.not_not, Nat.add_eq_zero_iff, and_false, false_and, Int.reduceEq, List.mem_cons, List.not_mem_nil, forall_eq_or_imp, forall_eq, false_implies, implies_true, forall_const, aargs_0, aargs_i, aargs_r, aargs_l, aargs_n, nfT_e, eq_self, and_self, Nat.le_refl, fu_s, fu_fu, iu_iu, iu_s, fu_am, fu_a0, fu_0a, iu_l, Nat.reduceBEq, Int.reduceBEq, T_objInit_e]; clear mp0 mp2 mp3 mp4 mp5 mp6 mp7 mp8 mp9 mp10 mp11 mp12 mp13 mp14 mp15 mp16 mp17 mp18 mp19 mp20 mp21 mp22 mp24 mp25 mp26 mp27)
    cases suf with
    | nil =>
      rw [List.append_nil] at g2
      rw [List.length_nil] at hl2
      refine ⟨fun h => ?_, fun h => by omega⟩
      rw [← g2]
      exact hT σ1 g3
    | cons y suf =>
      rw [List.length_cons] at hl2
      have hy := hin y (by rw [g2]; exact List.mem_append_right _ List.mem_cons_self)
      have ey : σ1 (o + 23) (pre.length : Int) = y := by
        rw [g4 pre.length (by omega), g2]
        simp
      have h6 := b6 y hy.1 hy.2
      have h3 := b5.1 (A y + 3)
      have h12 := (b5.2 y hy.1 hy.2).2.2.1
      rw [ey, b4 y hy.1]
      refine ⟨fun h => by omega, fun h => ⟨by omega, by omega, hL, b1, fun _ => ⟨by omega, hL, b1, by omega, ?_⟩, fun z => absurd hy.1 z⟩⟩
      rw [b3 (A y + 3) (by omega)]
      refine ⟨by omega, by omega, ?_, (by rw [hμ]; simp only [gI_e, List.getD_cons_succ, List.getD_cons_zero]; omega)⟩
      rw [hJd]
      refine ⟨rfl, pre ++ [y], suf, σ1, by rw [g2, List.append_assoc]; rfl, g3, g4, ?_, rfl⟩
      rw [fL_app, List.length_append]
      show [vR o, vI p, vI x, vI ((ch U A x).length : Int), vI (fL U A pre + U (A y + 3)), vI ((pre.length : Int) + 1)] = [vR o, vI p, vI x, vI ((ch U A x).length : Int), vI (fL U A pre + (U (A y + 3) + 0)), vI ((pre.length + 1 : Nat) : Int)]
      rw [Int.add_zero]
      rfl

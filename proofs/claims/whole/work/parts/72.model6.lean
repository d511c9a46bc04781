theorem fr_fu1 {σ σ2 : Nat → Int → Int} {a : Nat} (h : Fr σ σ2 a 0) : σ2 = fu σ a (σ2 a) := by
  funext b
  by_cases e : b = a
  · rw [e, fu_s]
  · rw [fu_n e]
    exact h b (by omega)
theorem MB_fu {σ : Nat → Int → Int} {m n : Nat} {p : Int} {U : Int → Int} {len : Int} {A : Int → Int} {f : Int → Int} (h2 : (2 == n) = false) (h11 : (11 == n) = false) : MB (fu σ (m + n) f) m p U len A = MB σ m p U len A := by
  unfold MB
  rw [fu_am h2, fu_am h11]
/-- a thing's record, its head within the bytes -/
def TP (U : Int → Int) (len : Int) (A : Int → Int) (q : Int) : Prop := TOK U A q ∧ 0 ≤ q ∧ q + 4 ≤ len ∧ (U q = 82 → q + 6 ≤ len)
/-- the whole of it within them -/
def TV (U : Int → Int) (len : Int) (A : Int → Int) (q : Int) : Prop := TP U len A q ∧ vP U A q (nV U A q) ≤ len
theorem mul_wd {j s : Int} (h : 0 ≤ j) : 0 ≤ j * wd s ∧ j * wd s ≤ 8 * j := by
  unfold wd
  repeat' split
  all_goals omega
theorem co_X11_440 : CallOK RX11 (.invokevirtual 110) (3, 2, 0, 0, T_Model_fieldsOf) := call_V S_Model_fieldsOf (by decide) (ci := 11) rfl (by decide +kernel) (by decide +kernel) (by decide +kernel) (by decide +kernel) (by decide +kernel) (by decide +kernel) T_Model_fieldsOf_r
def TF_Model_valuesAt (o : Nat) (p : Int) (q : Int) (sz sl : Nat) (lay : Nat → Nat × Int) (ρ : Nat → Int → Nat) (σ : Nat → Int → Int) (τ : Nat → Int → Int64) (k : Option AV → Mm → Prop) : Prop := LModel lay ρ o ∧ ∃ (U : Int → Int) (len : Int) (A : Int → Int), MB σ o p U len A ∧ TP U len A q ∧ ∀ c : Int → Int, k (some (vI (nV U A q))) (sz, sl, lay, ρ, fu σ (o + 23) c, τ)
def T_Model_valuesAt : Tr := mkT 11 fun o as M k => pI as fun p as => pI as fun q as => as = [] ∧ TF_Model_valuesAt o p q M.1 M.2.1 M.2.2.1 M.2.2.2.1 M.2.2.2.2.1 M.2.2.2.2.2 k
theorem T_Model_valuesAt_e {o : Nat} {p : Int} {q : Int} {sz sl : Nat} {lay : Nat → Nat × Int} {ρ : Nat → Int → Nat} {σ : Nat → Int → Int} {τ : Nat → Int → Int64} {k : Option AV → Mm → Prop} : T_Model_valuesAt [vR o, vI p, vI q] (sz, sl, lay, ρ, σ, τ) k = (lay o = (21, 0) ∧ TF_Model_valuesAt o p q sz sl lay ρ σ τ k) := by simp [T_Model_valuesAt, mkT_e, pI_e, pR_e, pL_e]
theorem T_Model_valuesAt_r (as : List AV) (M : Mm) (k : Option AV → Mm → Prop) (h : T_Model_valuesAt as M k) : ∃ b As, as = vR b :: As ∧ M.2.2.1 b = (10 + 11, 0) := by
  obtain ⟨b, As, h1, h2, -⟩ := mkT_r h
  exact ⟨b, As, h1, h2⟩
def tb_Model_valuesAt : List (Nat × Option (List Nat) × Instr × List Nat) := [(0, none, .aload_n 0, []), (1, none, .iload_n 1, []), (2, none, .iload_n 2, []), (3, none, .invokevirtual 95, []), (6, none, .istore_n 3, []), (7, none, .iload_n 3, []), (8, none, .bipush 84, []), (10, none, .if_icmp .ne 19, [29]), (13, none, .aload_n 0, []), (14, none, .iload_n 1, []), (15, none, .aload_n 0, []), (16, none, .iload_n 1, []), (17, none, .iload_n 2, []), (18, none, .iconst 3, []), (19, none, .iadd, []), (20, none, .invokevirtual 95, []), (23, none, .invokevirtual 110, []), (26, none, .goto 21, [47]), (29, none, .iload_n 3, []), (30, none, .bipush 82, []), (32, none, .if_icmp .ne 14, [46]), (35, none, .aload_n 0, []), (36, none, .iload_n 1, []), (37, none, .iload_n 2, []), (38, none, .iconst 4, []), (39, none, .iadd, []), (40, none, .invokevirtual 107, []), (43, none, .goto 4, [47]), (46, none, .iconst 1, []), (47, none, .ireturn, [])]
def P_Model_valuesAt : Nat → Option (List Nat) × Instr × List Nat := plk tb_Model_valuesAt
theorem r_Model_valuesAt_0 : P_Model_valuesAt 0 = (none, .aload_n 0, []) := by decide +kernel
theorem r_Model_valuesAt_1 : P_Model_valuesAt 1 = (none, .iload_n 1, []) := by decide +kernel
theorem r_Model_valuesAt_2 : P_Model_valuesAt 2 = (none, .iload_n 2, []) := by decide +kernel
theorem r_Model_valuesAt_3 : P_Model_valuesAt 3 = (none, .invokevirtual 95, []) := by decide +kernel
theorem r_Model_valuesAt_6 : P_Model_valuesAt 6 = (none, .istore_n 3, []) := by decide +kernel
theorem r_Model_valuesAt_7 : P_Model_valuesAt 7 = (none, .iload_n 3, []) := by decide +kernel
theorem r_Model_valuesAt_8 : P_Model_valuesAt 8 = (none, .bipush 84, []) := by decide +kernel
theorem r_Model_valuesAt_10 : P_Model_valuesAt 10 = (none, .if_icmp .ne 19, [29]) := by decide +kernel
theorem r_Model_valuesAt_13 : P_Model_valuesAt 13 = (none, .aload_n 0, []) := by decide +kernel
theorem r_Model_valuesAt_14 : P_Model_valuesAt 14 = (none, .iload_n 1, []) := by decide +kernel
theorem r_Model_valuesAt_15 : P_Model_valuesAt 15 = (none, .aload_n 0, []) := by decide +kernel
theorem r_Model_valuesAt_16 : P_Model_valuesAt 16 = (none, .iload_n 1, []) := by decide +kernel
theorem r_Model_valuesAt_17 : P_Model_valuesAt 17 = (none, .iload_n 2, []) := by decide +kernel
theorem r_Model_valuesAt_18 : P_Model_valuesAt 18 = (none, .iconst 3, []) := by decide +kernel
theorem r_Model_valuesAt_19 : P_Model_valuesAt 19 = (none, .iadd, []) := by decide +kernel
theorem r_Model_valuesAt_20 : P_Model_valuesAt 20 = (none, .invokevirtual 95, []) := by decide +kernel
theorem r_Model_valuesAt_23 : P_Model_valuesAt 23 = (none, .invokevirtual 110, []) := by decide +kernel
theorem r_Model_valuesAt_26 : P_Model_valuesAt 26 = (none, .goto 21, [47]) := by decide +kernel
theorem r_Model_valuesAt_29 : P_Model_valuesAt 29 = (none, .iload_n 3, []) := by decide +kernel
theorem r_Model_valuesAt_30 : P_Model_valuesAt 30 = (none, .bipush 82, []) := by decide +kernel
theorem r_Model_valuesAt_32 : P_Model_valuesAt 32 = (none, .if_icmp .ne 14, [46]) := by decide +kernel
theorem r_Model_valuesAt_35 : P_Model_valuesAt 35 = (none, .aload_n 0, []) := by decide +kernel
theorem r_Model_valuesAt_36 : P_Model_valuesAt 36 = (none, .iload_n 1, []) := by decide +kernel
theorem r_Model_valuesAt_37 : P_Model_valuesAt 37 = (none, .iload_n 2, []) := by decide +kernel
theorem r_Model_valuesAt_38 : P_Model_valuesAt 38 = (none, .iconst 4, []) := by decide +kernel
theorem r_Model_valuesAt_39 : P_Model_valuesAt 39 = (none, .iadd, []) := by decide +kernel
theorem r_Model_valuesAt_40 : P_Model_valuesAt 40 = (none, .invokevirtual 107, []) := by decide +kernel
theorem r_Model_valuesAt_43 : P_Model_valuesAt 43 = (none, .goto 4, [47]) := by decide +kernel
theorem r_Model_valuesAt_46 : P_Model_valuesAt 46 = (none, .iconst 1, []) := by decide +kernel
theorem r_Model_valuesAt_47 : P_Model_valuesAt 47 = (none, .ireturn, []) := by decide +kernel
def E_Model_valuesAt : List (Nat × Ent) := [(428, (3, 1, 0, 0, T_Model_two)), (440, (3, 2, 0, 0, T_Model_fieldsOf)), (380, (3, 0, 0, 0, T_Model_at))]
def X_Model_valuesAt : Cx := (llk (0, 0, 9) ftX11, llk 99 ntX11, llk none kcX11, llk none klX11, llk dEnt E_Model_valuesAt, 3, 0, false)
theorem xok_Model_valuesAt : Xok RX11 X_Model_valuesAt := xok_of ftX11_ok ntX11_ok kcX11_ok klX11_ok (E := E_Model_valuesAt) (List.forall_mem_cons.mpr ⟨co_X11_428, List.forall_mem_cons.mpr ⟨co_X11_440, List.forall_mem_cons.mpr ⟨co_X11_380, fun _ h => absurd h List.not_mem_nil⟩⟩⟩)
theorem xe_Model_valuesAt_428 : xE X_Model_valuesAt (4 * 107 + 0) = (3, 1, 0, 0, T_Model_two) := rfl
theorem xe_Model_valuesAt_440 : xE X_Model_valuesAt (4 * 110 + 0) = (3, 2, 0, 0, T_Model_fieldsOf) := rfl
theorem xe_Model_valuesAt_380 : xE X_Model_valuesAt (4 * 95 + 0) = (3, 0, 0, 0, T_Model_at) := rfl
theorem xd_Model_valuesAt : xd X_Model_valuesAt = 3 := rfl
theorem xrb_Model_valuesAt : xrb X_Model_valuesAt = 0 := rfl
theorem xin_Model_valuesAt : xin X_Model_valuesAt = false := rfl
set_option maxHeartbeats 4000000 in
set_option maxRecDepth 100000 in
theorem S_Model_valuesAt : Snd yX11_valuesAt cX11_valuesAt 4 (some .int) T_Model_valuesAt 3 0 0 := by
  refine snd_of (X := X_Model_valuesAt) (P := P_Model_valuesAt) (tb := tb_Model_valuesAt) (own := RX11) (by decide) rfl rfl (by decide +kernel) xok_Model_valuesAt rfl rk0 (fun h => by first | rfl | cases h) ?_
  intro as M k has hM hT0
  obtain ⟨sz, sl, lay, ρ, σ, τ⟩ := M
  obtain ⟨o, as1, e, hlo, hT1⟩ := mkT_r hT0
  clear hT0
  subst e
  obtain ⟨p, as2, e, hT2⟩ := pI_x hT1
  clear hT1
  subst e
  obtain ⟨q, as3, e, hT3⟩ := pI_x hT2
  clear hT2
  subst e
  obtain ⟨e, hT⟩ := hT3
  subst e
  replace hlo : lay o = (21, 0) := hlo
  have r_p : -2147483648 ≤ p ∧ p ≤ 2147483647 := has (vI p) (by simp)
  have r_q : -2147483648 ≤ q ∧ q ≤ 2147483647 := has (vI q) (by simp)
  clear has
  replace hM : ∀ a i, -2147483648 ≤ σ a i ∧ σ a i ≤ 2147483647 := hM
  replace hT : TF_Model_valuesAt o p q sz sl lay ρ σ τ k := hT
  unfold TF_Model_valuesAt at hT
  obtain ⟨hL, U, len, A, hB, ⟨ht, t3, t4, t5⟩, hT⟩ := hT
  obtain ⟨b1, b2, b3, b4, b5, b6, b7⟩ := (show MB σ o p U len A from hB)
  refine ⟨Nat.le_of_ble_eq_true rfl, fun _ _ _ => False, fun _ _ _ => 0, 38, ?_, fun _ _ _ _ _ _ h => h.elim⟩
  rcases ht with ⟨e, t1, t2⟩ | ⟨e, t1, t2⟩ | e
  · have hq : σ (o + 2) (8000 * p + q) % 256 = 84 := (b3 q (by omega)).trans e
    have hq3 := b3 (q + 3) (by omega)
    (obtain ⟨mh, mp0, mp2, mp3, mp4, mp5, mp6, mp7, mp8, mp9, mp10, mp11, mp12, mp13, mp14, mp15, mp16, mp17, mp18, mp19, mp20, mp21, mp22, mp24, mp25, mp26, mp27, mq0, mq2, mq3, mq4, mq5, mq6, mq7, mq8, mq9, mq10, mq11, mq12, mq13, mq14, mq15, mq16, mq17, mq18, mq19, mq20, mq21, mq22, mq24, mq25, mq26, mq27⟩ := (show LModel lay ρ _ from hL); unfold wps; simp only [hq, hq3, si_iload_n0, si_iload_n1, si_iload_n2, si_iload_n3, si_iload, si_lload_n0, si_lload_n1, si_lload_n2, si_lload_n3, si_lload, si_aload_n0, si_aload_n1, si_aload_n2, si_aload_n3, si_aload, si_istore_n0, si_istore_n1, si_istore_n2, si_istore_n3, si_istore, si_astore_n0, si_astore_n1, si_astore_n2, si_astore_n3, si_astore, si_lstore_n0, si_lstore_n1, si_lstore_n2, si_lstore_n3, si_lstore, si_iconst, si_bipush, si_sipush, si_ldc, si_ldc2_w, si_lconst0, si_lconst1, si_aconst_null, si_iinc, si_dup, si_dup2, si_iadd, si_isub, si_imul, si_idiv, si_irem, si_iand, si_ior, si_ishl, si_ishr, si_ladd, si_lmul, si_lor, si_lxor, si_lshl, si_lushr, si_lcmp, si_i2b, si_i2l, si_l2i, si_icmp_eq, si_icmp_ne, si_icmp_lt, si_icmp_ge, si_icmp_gt, si_icmp_le, si_if_eq, si_if_ne, si_if_lt, si_if_ge, si_if_gt, si_if_le, si_ifnull, si_ifnonnull, si_goto, si_tableswitch, si_lookupswitch, si_getfield, si_putfield, si_getstatic, si_iaload, si_baload, si_laload, si_aaload, si_iastore, si_bastore, si_lastore, si_aastore, si_arraylength, si_new, si_newarray, si_anewarray, si_invokevirtual, si_invokespecial, si_invokestatic, si_ireturn, si_lreturn, si_areturn, si_return_, pI_e, pL_e, pR_e, pA_r, pA_n, pN_n, pN_r, oI_e, oL_e, oA_r, oA_n, lget_e, lrm1_0, lrm2_0, lrm1_i, lrm1_r, lrm1_n, lrm1_l, lrm2_i, lrm2_r, lrm2_n, lrm2_l, popN_0, popN_s, acat_i, acat_l, acat_r, acat_n, stw_0, stw_s, psh_s, psh_n, wgf_r, wgf_i, wgf_b, wgf_n, wgf_m, wpf_i, wpf_r, wpf_b, wnew_e, callE_e, rbk_0, rbk_1, tsw_0, tsw_s, lsw_0, lsw_s, wp_s, wq_t, wq_f, oV_e, pick_0, pick_s, oZ_e, oY_e, r_Model_valuesAt_0, r_Model_valuesAt_1, r_Model_valuesAt_2, r_Model_valuesAt_3, r_Model_valuesAt_6, r_Model_valuesAt_7, r_Model_valuesAt_8, r_Model_valuesAt_10, r_Model_valuesAt_13, r_Model_valuesAt_14, r_Model_valuesAt_15, r_Model_valuesAt_16, r_Model_valuesAt_17, r_Model_valuesAt_18, r_Model_valuesAt_19, r_Model_valuesAt_20, r_Model_valuesAt_23, r_Model_valuesAt_26, r_Model_valuesAt_29, r_Model_valuesAt_30, r_Model_valuesAt_32, r_Model_valuesAt_35, r_Model_valuesAt_36, r_Model_valuesAt_37, r_Model_valuesAt_38, r_Model_valuesAt_39, r_Model_valuesAt_40, r_Model_valuesAt_43, r_Model_valuesAt_46, r_Model_valuesAt_47, xe_Model_valuesAt_428, xe_Model_valuesAt_440, xe_Model_valuesAt_380, xd_Model_valuesAt, xrb_Model_valuesAt, xin_Model_valuesAt, T_Model_two_e, TF_Model_two, T_Model_fieldsOf_e, TF_Model_fieldsOf, T_Model_at_e, TF_Model_at, mh, mp0, mp2, mp3, mp4, mp5, mp6, mp7, mp8, mp9, mp10, mp11, mp12, mp13, mp14, mp15, mp16, mp17, mp18, mp19, mp20, mp21, mp22, mp24, mp25, mp26, mp27, mq0, mq2, mq3, mq4, mq5, mq6, mq7, mq8, mq9, mq10, mq11, mq12, mq13, mq14, mq15, mq16, mq17, mq18, mq19, mq20, mq21, mq22, mq24, mq25, mq26, mq27, Nat.reduceAdd, Nat.reduceMul, Nat.reduceEqDiff, reduceIte, Int.reduceNeg, Int.reduceLE, Int.reduceLT, Int.reduceAdd, Int.reduceSub, Int.reduceToNat, true_and, and_true, inR_e, Nat.reduceLT, Nat.reduceLeDiff, reduceCtorEq, Nat.add_zero, Nat.zero_add, or_false, false_or, or_true, true_or, not_true_eq_false, not_false_eq_true, Classical.not_not, Nat.add_eq_zero_iff, and_false, false_and, Int.reduceEq, List.mem_cons, List.not_mem_nil, forall_eq_or_imp, forall_eq, false_implies, implies_true, forall_const, aargs_0, aargs_i, aargs_r, aargs_l, aargs_n, nfT_e, eq_self, and_self, Nat.le_refl, fu_s, fu_fu, iu_iu, iu_s, fu_am, fu_a0, fu_0a, iu_l, Nat.reduceBEq, Int.reduceBEq, T_objInit_e]; clear mp0 mp2 mp3 mp4 mp5 mp6 mp7 mp8 mp9 mp10 mp11 mp12 mp13 mp14 mp15 mp16 mp17 mp18 mp19 mp20 mp21 mp22 mp24 mp25 mp26 mp27)
    refine ⟨hL, b1, by omega, by omega, hL, b1, by omega, hL, U, len, A, hB, Or.inr ⟨t1, t2⟩, fun σ2 f2 => ?_⟩
    have := hT (σ2 (o + 23))
    rw [nV_84 e, ← fr_fu1 f2] at this
    exact this
  · have hq : σ (o + 2) (8000 * p + q) % 256 = 82 := (b3 q (by omega)).trans e
    have hq4 := b3 (q + 4) (by omega)
    have hq5 := b3 (q + 4 + 1) (by omega)
    (obtain ⟨mh, mp0, mp2, mp3, mp4, mp5, mp6, mp7, mp8, mp9, mp10, mp11, mp12, mp13, mp14, mp15, mp16, mp17, mp18, mp19, mp20, mp21, mp22, mp24, mp25, mp26, mp27, mq0, mq2, mq3, mq4, mq5, mq6, mq7, mq8, mq9, mq10, mq11, mq12, mq13, mq14, mq15, mq16, mq17, mq18, mq19, mq20, mq21, mq22, mq24, mq25, mq26, mq27⟩ := (show LModel lay ρ _ from hL); unfold wps; simp only [hq, hq4, hq5, si_iload_n0, si_iload_n1, si_iload_n2, si_iload_n3, si_iload, si_lload_n0, si_lload_n1, si_lload_n2, si_lload_n3, si_lload, si_aload_n0, si_aload_n1, si_aload_n2, si_aload_n3, si_aload, si_istore_n0, si_istore_n1, si_istore_n2, si_istore_n3, si_istore, si_astore_n0, si_astore_n1, si_astore_n2, si_astore_n3, si_astore, si_lstore_n0, si_lstore_n1, si_lstore_n2, si_lstore_n3, si_lstore, si_iconst, si_bipush, si_sipush, si_ldc, si_ldc2_w, si_lconst0, si_lconst1, si_aconst_null, si_iinc, si_dup, si_dup2, si_iadd, si_isub, si_imul, si_idiv, si_irem, si_iand, si_ior, si_ishl, si_ishr, si_ladd, si_lmul, si_lor, si_lxor, si_lshl, si_lushr, si_lcmp, si_i2b, si_i2l, si_l2i, si_icmp_eq, si_icmp_ne, si_icmp_lt, si_icmp_ge, si_icmp_gt, si_icmp_le, si_if_eq, si_if_ne, si_if_lt, si_if_ge, si_if_gt, si_if_le, si_ifnull, si_ifnonnull, si_goto, si_tableswitch, si_lookupswitch, si_getfield, si_putfield, si_getstatic, si_iaload, si_baload, si_laload, si_aaload, si_iastore, si_bastore, si_lastore, si_aastore, si_arraylength, si_new, si_newarray, si_anewarray, si_invokevirtual, si_invokespecial, si_invokestatic, si_ireturn, si_lreturn, si_areturn, si_return_, pI_e, pL_e, pR_e, pA_r, pA_n, pN_n, pN_r, oI_e, oL_e, oA_r, oA_n, lget_e, lrm1_0, lrm2_0, lrm1_i, lrm1_r, lrm1_n, lrm1_l, lrm2_i, lrm2_r, lrm2_n, lrm2_l, popN_0, popN_s, acat_i, acat_l, acat_r, acat_n, stw_0, stw_s, psh_s, psh_n, wgf_r, wgf_i, wgf_b, wgf_n, wgf_m, wpf_i, wpf_r, wpf_b, wnew_e, callE_e, rbk_0, rbk_1, tsw_0, tsw_s, lsw_0, lsw_s, wp_s, wq_t, wq_f, oV_e, pick_0, pick_s, oZ_e, oY_e, r_Model_valuesAt_0, r_Model_valuesAt_1, r_Model_valuesAt_2, r_Model_valuesAt_3, r_Model_valuesAt_6, r_Model_valuesAt_7, r_Model_valuesAt_8, r_Model_valuesAt_10, r_Model_valuesAt_13, r_Model_valuesAt_14, r_Model_valuesAt_15, r_Model_valuesAt_16, r_Model_valuesAt_17, r_Model_valuesAt_18, r_Model_valuesAt_19, r_Model_valuesAt_20, r_Model_valuesAt_23, r_Model_valuesAt_26, r_Model_valuesAt_29, r_Model_valuesAt_30, r_Model_valuesAt_32, r_Model_valuesAt_35, r_Model_valuesAt_36, r_Model_valuesAt_37, r_Model_valuesAt_38, r_Model_valuesAt_39, r_Model_valuesAt_40, r_Model_valuesAt_43, r_Model_valuesAt_46, r_Model_valuesAt_47, xe_Model_valuesAt_428, xe_Model_valuesAt_440, xe_Model_valuesAt_380, xd_Model_valuesAt, xrb_Model_valuesAt, xin_Model_valuesAt, T_Model_two_e, TF_Model_two, T_Model_fieldsOf_e, TF_Model_fieldsOf, T_Model_at_e, TF_Model_at, mh, mp0, mp2, mp3, mp4, mp5, mp6, mp7, mp8, mp9, mp10, mp11, mp12, mp13, mp14, mp15, mp16, mp17, mp18, mp19, mp20, mp21, mp22, mp24, mp25, mp26, mp27, mq0, mq2, mq3, mq4, mq5, mq6, mq7, mq8, mq9, mq10, mq11, mq12, mq13, mq14, mq15, mq16, mq17, mq18, mq19, mq20, mq21, mq22, mq24, mq25, mq26, mq27, Nat.reduceAdd, Nat.reduceMul, Nat.reduceEqDiff, reduceIte, Int.reduceNeg, Int.reduceLE, Int.reduceLT, Int.reduceAdd, Int.reduceSub, Int.reduceToNat, true_and, and_true, inR_e, Nat.reduceLT, Nat.reduceLeDiff, reduceCtorEq, Nat.add_zero, Nat.zero_add, or_false, false_or, or_true, true_or, not_true_eq_false, not_false_eq_true, Classical.not_not, Nat.add_eq_zero_iff, and_false, false_and, Int.reduceEq, List.mem_cons, List.not_mem_nil, forall_eq_or_imp, forall_eq, false_implies, implies_true, forall_const, aargs_0, aargs_i, aargs_r, aargs_l, aargs_n, nfT_e, eq_self, and_self, Nat.le_refl, fu_s, fu_fu, iu_iu, iu_s, fu_am, fu_a0, fu_0a, iu_l, Nat.reduceBEq, Int.reduceBEq, T_objInit_e]; clear mp0 mp2 mp3 mp4 mp5 mp6 mp7 mp8 mp9 mp10 mp11 mp12 mp13 mp14 mp15 mp16 mp17 mp18 mp19 mp20 mp21 mp22 mp24 mp25 mp26 mp27)
    refine ⟨hL, b1, by omega, by omega, hL, b1, by omega, ?_⟩
    have := hT (σ (o + 23))
    rw [nV_82 e, fu_self] at this
    exact this
  · have hq : σ (o + 2) (8000 * p + q) % 256 = 83 := (b3 q (by omega)).trans e
    (obtain ⟨mh, mp0, mp2, mp3, mp4, mp5, mp6, mp7, mp8, mp9, mp10, mp11, mp12, mp13, mp14, mp15, mp16, mp17, mp18, mp19, mp20, mp21, mp22, mp24, mp25, mp26, mp27, mq0, mq2, mq3, mq4, mq5, mq6, mq7, mq8, mq9, mq10, mq11, mq12, mq13, mq14, mq15, mq16, mq17, mq18, mq19, mq20, mq21, mq22, mq24, mq25, mq26, mq27⟩ := (show LModel lay ρ _ from hL); unfold wps; simp only [hq, si_iload_n0, si_iload_n1, si_iload_n2, si_iload_n3, si_iload, si_lload_n0, si_lload_n1, si_lload_n2, si_lload_n3, si_lload, si_aload_n0, si_aload_n1, si_aload_n2, si_aload_n3, si_aload, si_istore_n0, si_istore_n1, si_istore_n2, si_istore_n3, si_istore, si_astore_n0, si_astore_n1, si_astore_n2, si_astore_n3, si_astore, si_lstore_n0, si_lstore_n1, si_lstore_n2, si_lstore_n3, si_lstore, si_iconst, si_bipush, si_sipush, si_ldc, si_ldc2_w, si_lconst0, si_lconst1, si_aconst_null, si_iinc, si_dup, si_dup2, si_iadd, si_isub, si_imul, si_idiv, si_irem, si_iand, si_ior, si_ishl, si_ishr, si_ladd, si_lmul, si_lor, si_lxor, si_lshl, si_lushr, si_lcmp, si_i2b, si_i2l, si_l2i, si_icmp_eq, si_icmp_ne, si_icmp_lt, si_icmp_ge, si_icmp_gt, si_icmp_le, si_if_eq, si_if_ne, si_if_lt, si_if_ge, si_if_gt, si_if_le, si_ifnull, si_ifnonnull, si_goto, si_tableswitch, si_lookupswitch, si_getfield, si_putfield, si_getstatic, si_iaload, si_baload, si_laload, si_aaload, si_iastore, si_bastore, si_lastore, si_aastore, si_arraylength, si_new, si_newarray, si_anewarray, si_invokevirtual, si_invokespecial, si_invokestatic, si_ireturn, si_lreturn, si_areturn, si_return_, pI_e, pL_e, pR_e, pA_r, pA_n, pN_n, pN_r, oI_e, oL_e, oA_r, oA_n, lget_e, lrm1_0, lrm2_0, lrm1_i, lrm1_r, lrm1_n, lrm1_l, lrm2_i, lrm2_r, lrm2_n, lrm2_l, popN_0, popN_s, acat_i, acat_l, acat_r, acat_n, stw_0, stw_s, psh_s, psh_n, wgf_r, wgf_i, wgf_b, wgf_n, wgf_m, wpf_i, wpf_r, wpf_b, wnew_e, callE_e, rbk_0, rbk_1, tsw_0, tsw_s, lsw_0, lsw_s, wp_s, wq_t, wq_f, oV_e, pick_0, pick_s, oZ_e, oY_e, r_Model_valuesAt_0, r_Model_valuesAt_1, r_Model_valuesAt_2, r_Model_valuesAt_3, r_Model_valuesAt_6, r_Model_valuesAt_7, r_Model_valuesAt_8, r_Model_valuesAt_10, r_Model_valuesAt_13, r_Model_valuesAt_14, r_Model_valuesAt_15, r_Model_valuesAt_16, r_Model_valuesAt_17, r_Model_valuesAt_18, r_Model_valuesAt_19, r_Model_valuesAt_20, r_Model_valuesAt_23, r_Model_valuesAt_26, r_Model_valuesAt_29, r_Model_valuesAt_30, r_Model_valuesAt_32, r_Model_valuesAt_35, r_Model_valuesAt_36, r_Model_valuesAt_37, r_Model_valuesAt_38, r_Model_valuesAt_39, r_Model_valuesAt_40, r_Model_valuesAt_43, r_Model_valuesAt_46, r_Model_valuesAt_47, xe_Model_valuesAt_428, xe_Model_valuesAt_440, xe_Model_valuesAt_380, xd_Model_valuesAt, xrb_Model_valuesAt, xin_Model_valuesAt, T_Model_two_e, TF_Model_two, T_Model_fieldsOf_e, TF_Model_fieldsOf, T_Model_at_e, TF_Model_at, mh, mp0, mp2, mp3, mp4, mp5, mp6, mp7, mp8, mp9, mp10, mp11, mp12, mp13, mp14, mp15, mp16, mp17, mp18, mp19, mp20, mp21, mp22, mp24, mp25, mp26, mp27, mq0, mq2, mq3, mq4, mq5, mq6, mq7, mq8, mq9, mq10, mq11, mq12, mq13, mq14, mq15, mq16, mq17, mq18, mq19, mq20, mq21, mq22, mq24, mq25, mq26, mq27, Nat.reduceAdd, Nat.reduceMul, Nat.reduceEqDiff, reduceIte, Int.reduceNeg, Int.reduceLE, Int.reduceLT, Int.reduceAdd, Int.reduceSub, Int.reduceToNat, true_and, and_true, inR_e, Nat.reduceLT, Nat.reduceLeDiff, reduceCtorEq, Nat.add_zero, Nat.zero_add, or_false, false_or, or_true, true_or, not_true_eq_false, not_false_eq_true, Classical.not_not, Nat.add_eq_zero_iff, and_false, false_and, Int.reduceEq, List.mem_cons, List.not_mem_nil, forall_eq_or_imp, forall_eq, false_implies, implies_true, forall_const, aargs_0, aargs_i, aargs_r, aargs_l, aargs_n, nfT_e, eq_self, and_self, Nat.le_refl, fu_s, fu_fu, iu_iu, iu_s, fu_am, fu_a0, fu_0a, iu_l, Nat.reduceBEq, Int.reduceBEq, T_objInit_e]; clear mp0 mp2 mp3 mp4 mp5 mp6 mp7 mp8 mp9 mp10 mp11 mp12 mp13 mp14 mp15 mp16 mp17 mp18 mp19 mp20 mp21 mp22 mp24 mp25 mp26 mp27)
    refine ⟨hL, b1, by omega, ?_⟩
    have := hT (σ (o + 23))
    rw [nV_83 e, fu_self] at this
    exact this
theorem co_X11_452 : CallOK RX11 (.invokevirtual 113) (4, 2, 0, 0, T_Model_sortOf) := call_V S_Model_sortOf (by decide) (ci := 11) rfl (by decide +kernel) (by decide +kernel) (by decide +kernel) (by decide +kernel) (by decide +kernel) (by decide +kernel) T_Model_sortOf_r
def TF_Model_sortAt (o : Nat) (p : Int) (q : Int) (j : Int) (sz sl : Nat) (lay : Nat → Nat × Int) (ρ : Nat → Int → Nat) (σ : Nat → Int → Int) (τ : Nat → Int → Int64) (k : Option AV → Mm → Prop) : Prop := LModel lay ρ o ∧ ∃ (U : Int → Int) (len : Int) (A : Int → Int), MB σ o p U len A ∧ TP U len A q ∧ (0 ≤ j ∧ j < nV U A q) ∧ ∀ c : Int → Int, k (some (vI (sA U A q j))) (sz, sl, lay, ρ, fu σ (o + 23) c, τ)
def T_Model_sortAt : Tr := mkT 11 fun o as M k => pI as fun p as => pI as fun q as => pI as fun j as => as = [] ∧ TF_Model_sortAt o p q j M.1 M.2.1 M.2.2.1 M.2.2.2.1 M.2.2.2.2.1 M.2.2.2.2.2 k
theorem T_Model_sortAt_e {o : Nat} {p : Int} {q : Int} {j : Int} {sz sl : Nat} {lay : Nat → Nat × Int} {ρ : Nat → Int → Nat} {σ : Nat → Int → Int} {τ : Nat → Int → Int64} {k : Option AV → Mm → Prop} : T_Model_sortAt [vR o, vI p, vI q, vI j] (sz, sl, lay, ρ, σ, τ) k = (lay o = (21, 0) ∧ TF_Model_sortAt o p q j sz sl lay ρ σ τ k) := by simp [T_Model_sortAt, mkT_e, pI_e, pR_e, pL_e]
theorem T_Model_sortAt_r (as : List AV) (M : Mm) (k : Option AV → Mm → Prop) (h : T_Model_sortAt as M k) : ∃ b As, as = vR b :: As ∧ M.2.2.1 b = (10 + 11, 0) := by
  obtain ⟨b, As, h1, h2, -⟩ := mkT_r h
  exact ⟨b, As, h1, h2⟩
def tb_Model_sortAt : List (Nat × Option (List Nat) × Instr × List Nat) := [(0, none, .aload_n 0, []), (1, none, .iload_n 1, []), (2, none, .iload_n 2, []), (3, none, .invokevirtual 95, []), (6, none, .istore 4, []), (8, none, .iload 4, []), (10, none, .bipush 84, []), (12, none, .if_icmp .ne 20, [32]), (15, none, .aload_n 0, []), (16, none, .iload_n 1, []), (17, none, .aload_n 0, []), (18, none, .iload_n 1, []), (19, none, .iload_n 2, []), (20, none, .iconst 3, []), (21, none, .iadd, []), (22, none, .invokevirtual 95, []), (25, none, .iload_n 3, []), (26, none, .invokevirtual 113, []), (29, none, .goto 22, [51]), (32, none, .iload 4, []), (34, none, .bipush 82, []), (36, none, .if_icmp .ne 14, [50]), (39, none, .aload_n 0, []), (40, none, .iload_n 1, []), (41, none, .iload_n 2, []), (42, none, .iconst 3, []), (43, none, .iadd, []), (44, none, .invokevirtual 95, []), (47, none, .goto 4, [51]), (50, none, .iconst 5, []), (51, none, .ireturn, [])]
def P_Model_sortAt : Nat → Option (List Nat) × Instr × List Nat := plk tb_Model_sortAt
theorem r_Model_sortAt_0 : P_Model_sortAt 0 = (none, .aload_n 0, []) := by decide +kernel
theorem r_Model_sortAt_1 : P_Model_sortAt 1 = (none, .iload_n 1, []) := by decide +kernel
theorem r_Model_sortAt_2 : P_Model_sortAt 2 = (none, .iload_n 2, []) := by decide +kernel
theorem r_Model_sortAt_3 : P_Model_sortAt 3 = (none, .invokevirtual 95, []) := by decide +kernel
theorem r_Model_sortAt_6 : P_Model_sortAt 6 = (none, .istore 4, []) := by decide +kernel
theorem r_Model_sortAt_8 : P_Model_sortAt 8 = (none, .iload 4, []) := by decide +kernel
theorem r_Model_sortAt_10 : P_Model_sortAt 10 = (none, .bipush 84, []) := by decide +kernel
theorem r_Model_sortAt_12 : P_Model_sortAt 12 = (none, .if_icmp .ne 20, [32]) := by decide +kernel
theorem r_Model_sortAt_15 : P_Model_sortAt 15 = (none, .aload_n 0, []) := by decide +kernel
theorem r_Model_sortAt_16 : P_Model_sortAt 16 = (none, .iload_n 1, []) := by decide +kernel
theorem r_Model_sortAt_17 : P_Model_sortAt 17 = (none, .aload_n 0, []) := by decide +kernel
theorem r_Model_sortAt_18 : P_Model_sortAt 18 = (none, .iload_n 1, []) := by decide +kernel
theorem r_Model_sortAt_19 : P_Model_sortAt 19 = (none, .iload_n 2, []) := by decide +kernel
theorem r_Model_sortAt_20 : P_Model_sortAt 20 = (none, .iconst 3, []) := by decide +kernel
theorem r_Model_sortAt_21 : P_Model_sortAt 21 = (none, .iadd, []) := by decide +kernel
theorem r_Model_sortAt_22 : P_Model_sortAt 22 = (none, .invokevirtual 95, []) := by decide +kernel
theorem r_Model_sortAt_25 : P_Model_sortAt 25 = (none, .iload_n 3, []) := by decide +kernel
theorem r_Model_sortAt_26 : P_Model_sortAt 26 = (none, .invokevirtual 113, []) := by decide +kernel
theorem r_Model_sortAt_29 : P_Model_sortAt 29 = (none, .goto 22, [51]) := by decide +kernel
theorem r_Model_sortAt_32 : P_Model_sortAt 32 = (none, .iload 4, []) := by decide +kernel
theorem r_Model_sortAt_34 : P_Model_sortAt 34 = (none, .bipush 82, []) := by decide +kernel
theorem r_Model_sortAt_36 : P_Model_sortAt 36 = (none, .if_icmp .ne 14, [50]) := by decide +kernel
theorem r_Model_sortAt_39 : P_Model_sortAt 39 = (none, .aload_n 0, []) := by decide +kernel
theorem r_Model_sortAt_40 : P_Model_sortAt 40 = (none, .iload_n 1, []) := by decide +kernel
theorem r_Model_sortAt_41 : P_Model_sortAt 41 = (none, .iload_n 2, []) := by decide +kernel
theorem r_Model_sortAt_42 : P_Model_sortAt 42 = (none, .iconst 3, []) := by decide +kernel
theorem r_Model_sortAt_43 : P_Model_sortAt 43 = (none, .iadd, []) := by decide +kernel
theorem r_Model_sortAt_44 : P_Model_sortAt 44 = (none, .invokevirtual 95, []) := by decide +kernel
theorem r_Model_sortAt_47 : P_Model_sortAt 47 = (none, .goto 4, [51]) := by decide +kernel
theorem r_Model_sortAt_50 : P_Model_sortAt 50 = (none, .iconst 5, []) := by decide +kernel
theorem r_Model_sortAt_51 : P_Model_sortAt 51 = (none, .ireturn, []) := by decide +kernel
def E_Model_sortAt : List (Nat × Ent) := [(452, (4, 2, 0, 0, T_Model_sortOf)), (380, (3, 0, 0, 0, T_Model_at))]
def X_Model_sortAt : Cx := (llk (0, 0, 9) ftX11, llk 99 ntX11, llk none kcX11, llk none klX11, llk dEnt E_Model_sortAt, 3, 0, false)
theorem xok_Model_sortAt : Xok RX11 X_Model_sortAt := xok_of ftX11_ok ntX11_ok kcX11_ok klX11_ok (E := E_Model_sortAt) (List.forall_mem_cons.mpr ⟨co_X11_452, List.forall_mem_cons.mpr ⟨co_X11_380, fun _ h => absurd h List.not_mem_nil⟩⟩)
theorem xe_Model_sortAt_452 : xE X_Model_sortAt (4 * 113 + 0) = (4, 2, 0, 0, T_Model_sortOf) := rfl
theorem xe_Model_sortAt_380 : xE X_Model_sortAt (4 * 95 + 0) = (3, 0, 0, 0, T_Model_at) := rfl
theorem xd_Model_sortAt : xd X_Model_sortAt = 3 := rfl
theorem xrb_Model_sortAt : xrb X_Model_sortAt = 0 := rfl
theorem xin_Model_sortAt : xin X_Model_sortAt = false := rfl
set_option maxHeartbeats 4000000 in
set_option maxRecDepth 100000 in
theorem S_Model_sortAt : Snd yX11_sortAt cX11_sortAt 5 (some .int) T_Model_sortAt 3 0 0 := by
  refine snd_of (X := X_Model_sortAt) (P := P_Model_sortAt) (tb := tb_Model_sortAt) (own := RX11) (by decide) rfl rfl (by decide +kernel) xok_Model_sortAt rfl rk0 (fun h => by first | rfl | cases h) ?_
  intro as M k has hM hT0
  obtain ⟨sz, sl, lay, ρ, σ, τ⟩ := M
  obtain ⟨o, as1, e, hlo, hT1⟩ := mkT_r hT0
  clear hT0
  subst e
  obtain ⟨p, as2, e, hT2⟩ := pI_x hT1
  clear hT1
  subst e
  obtain ⟨q, as3, e, hT3⟩ := pI_x hT2
  clear hT2
  subst e
  obtain ⟨j, as4, e, hT4⟩ := pI_x hT3
  clear hT3
  subst e
  obtain ⟨e, hT⟩ := hT4
  subst e
  replace hlo : lay o = (21, 0) := hlo
  have r_p : -2147483648 ≤ p ∧ p ≤ 2147483647 := has (vI p) (by simp)
  have r_q : -2147483648 ≤ q ∧ q ≤ 2147483647 := has (vI q) (by simp)
  have r_j : -2147483648 ≤ j ∧ j ≤ 2147483647 := has (vI j) (by simp)
  clear has
  replace hM : ∀ a i, -2147483648 ≤ σ a i ∧ σ a i ≤ 2147483647 := hM
  replace hT : TF_Model_sortAt o p q j sz sl lay ρ σ τ k := hT
  unfold TF_Model_sortAt at hT
  obtain ⟨hL, U, len, A, hB, ⟨ht, t3, t4, t5⟩, hj, hT⟩ := hT
  obtain ⟨b1, b2, b3, b4, b5, b6, b7⟩ := (show MB σ o p U len A from hB)
  refine ⟨Nat.le_of_ble_eq_true rfl, fun _ _ _ => False, fun _ _ _ => 0, 39, ?_, fun _ _ _ _ _ _ h => h.elim⟩
  rcases ht with ⟨e, t1, t2⟩ | ⟨e, t1, t2⟩ | e
  · have hq : σ (o + 2) (8000 * p + q) % 256 = 84 := (b3 q (by omega)).trans e
    have hq3 := b3 (q + 3) (by omega)
    rw [nV_84 e] at hj
    (obtain ⟨mh, mp0, mp2, mp3, mp4, mp5, mp6, mp7, mp8, mp9, mp10, mp11, mp12, mp13, mp14, mp15, mp16, mp17, mp18, mp19, mp20, mp21, mp22, mp24, mp25, mp26, mp27, mq0, mq2, mq3, mq4, mq5, mq6, mq7, mq8, mq9, mq10, mq11, mq12, mq13, mq14, mq15, mq16, mq17, mq18, mq19, mq20, mq21, mq22, mq24, mq25, mq26, mq27⟩ := (show LModel lay ρ _ from hL); unfold wps; simp only [hq, hq3, si_iload_n0, si_iload_n1, si_iload_n2, si_iload_n3, si_iload, si_lload_n0, si_lload_n1, si_lload_n2, si_lload_n3, si_lload, si_aload_n0, si_aload_n1, si_aload_n2, si_aload_n3, si_aload, si_istore_n0, si_istore_n1, si_istore_n2, si_istore_n3, si_istore, si_astore_n0, si_astore_n1, si_astore_n2, si_astore_n3, si_astore, si_lstore_n0, si_lstore_n1, si_lstore_n2, si_lstore_n3, si_lstore, si_iconst, si_bipush, si_sipush, si_ldc, si_ldc2_w, si_lconst0, si_lconst1, si_aconst_null, si_iinc, si_dup, si_dup2, si_iadd, si_isub, si_imul, si_idiv, si_irem, si_iand, si_ior, si_ishl, si_ishr, si_ladd, si_lmul, si_lor, si_lxor, si_lshl, si_lushr, si_lcmp, si_i2b, si_i2l, si_l2i, si_icmp_eq, si_icmp_ne, si_icmp_lt, si_icmp_ge, si_icmp_gt, si_icmp_le, si_if_eq, si_if_ne, si_if_lt, si_if_ge, si_if_gt, si_if_le, si_ifnull, si_ifnonnull, si_goto, si_tableswitch, si_lookupswitch, si_getfield, si_putfield, si_getstatic, si_iaload, si_baload, si_laload, si_aaload, si_iastore, si_bastore, si_lastore, si_aastore, si_arraylength, si_new, si_newarray, si_anewarray, si_invokevirtual, si_invokespecial, si_invokestatic, si_ireturn, si_lreturn, si_areturn, si_return_, pI_e, pL_e, pR_e, pA_r, pA_n, pN_n, pN_r, oI_e, oL_e, oA_r, oA_n, lget_e, lrm1_0, lrm2_0, lrm1_i, lrm1_r, lrm1_n, lrm1_l, lrm2_i, lrm2_r, lrm2_n, lrm2_l, popN_0, popN_s, acat_i, acat_l, acat_r, acat_n, stw_0, stw_s, psh_s, psh_n, wgf_r, wgf_i, wgf_b, wgf_n, wgf_m, wpf_i, wpf_r, wpf_b, wnew_e, callE_e, rbk_0, rbk_1, tsw_0, tsw_s, lsw_0, lsw_s, wp_s, wq_t, wq_f, oV_e, pick_0, pick_s, oZ_e, oY_e, r_Model_sortAt_0, r_Model_sortAt_1, r_Model_sortAt_2, r_Model_sortAt_3, r_Model_sortAt_6, r_Model_sortAt_8, r_Model_sortAt_10, r_Model_sortAt_12, r_Model_sortAt_15, r_Model_sortAt_16, r_Model_sortAt_17, r_Model_sortAt_18, r_Model_sortAt_19, r_Model_sortAt_20, r_Model_sortAt_21, r_Model_sortAt_22, r_Model_sortAt_25, r_Model_sortAt_26, r_Model_sortAt_29, r_Model_sortAt_32, r_Model_sortAt_34, r_Model_sortAt_36, r_Model_sortAt_39, r_Model_sortAt_40, r_Model_sortAt_41, r_Model_sortAt_42, r_Model_sortAt_43, r_Model_sortAt_44, r_Model_sortAt_47, r_Model_sortAt_50, r_Model_sortAt_51, xe_Model_sortAt_452, xe_Model_sortAt_380, xd_Model_sortAt, xrb_Model_sortAt, xin_Model_sortAt, T_Model_sortOf_e, TF_Model_sortOf, T_Model_at_e, TF_Model_at, mh, mp0, mp2, mp3, mp4, mp5, mp6, mp7, mp8, mp9, mp10, mp11, mp12, mp13, mp14, mp15, mp16, mp17, mp18, mp19, mp20, mp21, mp22, mp24, mp25, mp26, mp27, mq0, mq2, mq3, mq4, mq5, mq6, mq7, mq8, mq9, mq10, mq11, mq12, mq13, mq14, mq15, mq16, mq17, mq18, mq19, mq20, mq21, mq22, mq24, mq25, mq26, mq27, Nat.reduceAdd, Nat.reduceMul, Nat.reduceEqDiff, reduceIte, Int.reduceNeg, Int.reduceLE, Int.reduceLT, Int.reduceAdd, Int.reduceSub, Int.reduceToNat, true_and, and_true, inR_e, Nat.reduceLT, Nat.reduceLeDiff, reduceCtorEq, Nat.add_zero, Nat.zero_add, or_false, false_or, or_true, true_or, not_true_eq_false, not_false_eq_true, Classical.not_not, Nat.add_eq_zero_iff, and_false, false_and, Int.reduceEq, List.mem_cons, List.not_mem_nil, forall_eq_or_imp, forall_eq, false_implies, implies_true, forall_const, aargs_0, aargs_i, aargs_r, aargs_l, aargs_n, nfT_e, eq_self, and_self, Nat.le_refl, fu_s, fu_fu, iu_iu, iu_s, fu_am, fu_a0, fu_0a, iu_l, Nat.reduceBEq, Int.reduceBEq, T_objInit_e]; clear mp0 mp2 mp3 mp4 mp5 mp6 mp7 mp8 mp9 mp10 mp11 mp12 mp13 mp14 mp15 mp16 mp17 mp18 mp19 mp20 mp21 mp22 mp24 mp25 mp26 mp27)
    refine ⟨hL, b1, by omega, by omega, hL, b1, by omega, hL, U, len, A, hB, Or.inr ⟨t1, t2⟩, hj, fun σ2 f2 => ?_⟩
    have := hT (σ2 (o + 23))
    rw [sA_84 e, ← fr_fu1 f2] at this
    exact this
  · have hq : σ (o + 2) (8000 * p + q) % 256 = 82 := (b3 q (by omega)).trans e
    have hq3 := b3 (q + 3) (by omega)
    (obtain ⟨mh, mp0, mp2, mp3, mp4, mp5, mp6, mp7, mp8, mp9, mp10, mp11, mp12, mp13, mp14, mp15, mp16, mp17, mp18, mp19, mp20, mp21, mp22, mp24, mp25, mp26, mp27, mq0, mq2, mq3, mq4, mq5, mq6, mq7, mq8, mq9, mq10, mq11, mq12, mq13, mq14, mq15, mq16, mq17, mq18, mq19, mq20, mq21, mq22, mq24, mq25, mq26, mq27⟩ := (show LModel lay ρ _ from hL); unfold wps; simp only [hq, hq3, si_iload_n0, si_iload_n1, si_iload_n2, si_iload_n3, si_iload, si_lload_n0, si_lload_n1, si_lload_n2, si_lload_n3, si_lload, si_aload_n0, si_aload_n1, si_aload_n2, si_aload_n3, si_aload, si_istore_n0, si_istore_n1, si_istore_n2, si_istore_n3, si_istore, si_astore_n0, si_astore_n1, si_astore_n2, si_astore_n3, si_astore, si_lstore_n0, si_lstore_n1, si_lstore_n2, si_lstore_n3, si_lstore, si_iconst, si_bipush, si_sipush, si_ldc, si_ldc2_w, si_lconst0, si_lconst1, si_aconst_null, si_iinc, si_dup, si_dup2, si_iadd, si_isub, si_imul, si_idiv, si_irem, si_iand, si_ior, si_ishl, si_ishr, si_ladd, si_lmul, si_lor, si_lxor, si_lshl, si_lushr, si_lcmp, si_i2b, si_i2l, si_l2i, si_icmp_eq, si_icmp_ne, si_icmp_lt, si_icmp_ge, si_icmp_gt, si_icmp_le, si_if_eq, si_if_ne, si_if_lt, si_if_ge, si_if_gt, si_if_le, si_ifnull, si_ifnonnull, si_goto, si_tableswitch, si_lookupswitch, si_getfield, si_putfield, si_getstatic, si_iaload, si_baload, si_laload, si_aaload, si_iastore, si_bastore, si_lastore, si_aastore, si_arraylength, si_new, si_newarray, si_anewarray, si_invokevirtual, si_invokespecial, si_invokestatic, si_ireturn, si_lreturn, si_areturn, si_return_, pI_e, pL_e, pR_e, pA_r, pA_n, pN_n, pN_r, oI_e, oL_e, oA_r, oA_n, lget_e, lrm1_0, lrm2_0, lrm1_i, lrm1_r, lrm1_n, lrm1_l, lrm2_i, lrm2_r, lrm2_n, lrm2_l, popN_0, popN_s, acat_i, acat_l, acat_r, acat_n, stw_0, stw_s, psh_s, psh_n, wgf_r, wgf_i, wgf_b, wgf_n, wgf_m, wpf_i, wpf_r, wpf_b, wnew_e, callE_e, rbk_0, rbk_1, tsw_0, tsw_s, lsw_0, lsw_s, wp_s, wq_t, wq_f, oV_e, pick_0, pick_s, oZ_e, oY_e, r_Model_sortAt_0, r_Model_sortAt_1, r_Model_sortAt_2, r_Model_sortAt_3, r_Model_sortAt_6, r_Model_sortAt_8, r_Model_sortAt_10, r_Model_sortAt_12, r_Model_sortAt_15, r_Model_sortAt_16, r_Model_sortAt_17, r_Model_sortAt_18, r_Model_sortAt_19, r_Model_sortAt_20, r_Model_sortAt_21, r_Model_sortAt_22, r_Model_sortAt_25, r_Model_sortAt_26, r_Model_sortAt_29, r_Model_sortAt_32, r_Model_sortAt_34, r_Model_sortAt_36, r_Model_sortAt_39, r_Model_sortAt_40, r_Model_sortAt_41, r_Model_sortAt_42, r_Model_sortAt_43, r_Model_sortAt_44, r_Model_sortAt_47, r_Model_sortAt_50, r_Model_sortAt_51, xe_Model_sortAt_452, xe_Model_sortAt_380, xd_Model_sortAt, xrb_Model_sortAt, xin_Model_sortAt, T_Model_sortOf_e, TF_Model_sortOf, T_Model_at_e, TF_Model_at, mh, mp0, mp2, mp3, mp4, mp5, mp6, mp7, mp8, mp9, mp10, mp11, mp12, mp13, mp14, mp15, mp16, mp17, mp18, mp19, mp20, mp21, mp22, mp24, mp25, mp26, mp27, mq0, mq2, mq3, mq4, mq5, mq6, mq7, mq8, mq9, mq10, mq11, mq12, mq13, mq14, mq15, mq16, mq17, mq18, mq19, mq20, mq21, mq22, mq24, mq25, mq26, mq27, Nat.reduceAdd, Nat.reduceMul, Nat.reduceEqDiff, reduceIte, Int.reduceNeg, Int.reduceLE, Int.reduceLT, Int.reduceAdd, Int.reduceSub, Int.reduceToNat, true_and, and_true, inR_e, Nat.reduceLT, Nat.reduceLeDiff, reduceCtorEq, Nat.add_zero, Nat.zero_add, or_false, false_or, or_true, true_or, not_true_eq_false, not_false_eq_true, Classical.not_not, Nat.add_eq_zero_iff, and_false, false_and, Int.reduceEq, List.mem_cons, List.not_mem_nil, forall_eq_or_imp, forall_eq, false_implies, implies_true, forall_const, aargs_0, aargs_i, aargs_r, aargs_l, aargs_n, nfT_e, eq_self, and_self, Nat.le_refl, fu_s, fu_fu, iu_iu, iu_s, fu_am, fu_a0, fu_0a, iu_l, Nat.reduceBEq, Int.reduceBEq, T_objInit_e]; clear mp0 mp2 mp3 mp4 mp5 mp6 mp7 mp8 mp9 mp10 mp11 mp12 mp13 mp14 mp15 mp16 mp17 mp18 mp19 mp20 mp21 mp22 mp24 mp25 mp26 mp27)
    refine ⟨hL, b1, by omega, by omega, hL, b1, by omega, ?_⟩
    have := hT (σ (o + 23))
    rw [sA_82 e, fu_self] at this
    exact this
  · have hq : σ (o + 2) (8000 * p + q) % 256 = 83 := (b3 q (by omega)).trans e
    (obtain ⟨mh, mp0, mp2, mp3, mp4, mp5, mp6, mp7, mp8, mp9, mp10, mp11, mp12, mp13, mp14, mp15, mp16, mp17, mp18, mp19, mp20, mp21, mp22, mp24, mp25, mp26, mp27, mq0, mq2, mq3, mq4, mq5, mq6, mq7, mq8, mq9, mq10, mq11, mq12, mq13, mq14, mq15, mq16, mq17, mq18, mq19, mq20, mq21, mq22, mq24, mq25, mq26, mq27⟩ := (show LModel lay ρ _ from hL); unfold wps; simp only [hq, si_iload_n0, si_iload_n1, si_iload_n2, si_iload_n3, si_iload, si_lload_n0, si_lload_n1, si_lload_n2, si_lload_n3, si_lload, si_aload_n0, si_aload_n1, si_aload_n2, si_aload_n3, si_aload, si_istore_n0, si_istore_n1, si_istore_n2, si_istore_n3, si_istore, si_astore_n0, si_astore_n1, si_astore_n2, si_astore_n3, si_astore, si_lstore_n0, si_lstore_n1, si_lstore_n2, si_lstore_n3, si_lstore, si_iconst, si_bipush, si_sipush, si_ldc, si_ldc2_w, si_lconst0, si_lconst1, si_aconst_null, si_iinc, si_dup, si_dup2, si_iadd, si_isub, si_imul, si_idiv, si_irem, si_iand, si_ior, si_ishl, si_ishr, si_ladd, si_lmul, si_lor, si_lxor, si_lshl, si_lushr, si_lcmp, si_i2b, si_i2l, si_l2i, si_icmp_eq, si_icmp_ne, si_icmp_lt, si_icmp_ge, si_icmp_gt, si_icmp_le, si_if_eq, si_if_ne, si_if_lt, si_if_ge, si_if_gt, si_if_le, si_ifnull, si_ifnonnull, si_goto, si_tableswitch, si_lookupswitch, si_getfield, si_putfield, si_getstatic, si_iaload, si_baload, si_laload, si_aaload, si_iastore, si_bastore, si_lastore, si_aastore, si_arraylength, si_new, si_newarray, si_anewarray, si_invokevirtual, si_invokespecial, si_invokestatic, si_ireturn, si_lreturn, si_areturn, si_return_, pI_e, pL_e, pR_e, pA_r, pA_n, pN_n, pN_r, oI_e, oL_e, oA_r, oA_n, lget_e, lrm1_0, lrm2_0, lrm1_i, lrm1_r, lrm1_n, lrm1_l, lrm2_i, lrm2_r, lrm2_n, lrm2_l, popN_0, popN_s, acat_i, acat_l, acat_r, acat_n, stw_0, stw_s, psh_s, psh_n, wgf_r, wgf_i, wgf_b, wgf_n, wgf_m, wpf_i, wpf_r, wpf_b, wnew_e, callE_e, rbk_0, rbk_1, tsw_0, tsw_s, lsw_0, lsw_s, wp_s, wq_t, wq_f, oV_e, pick_0, pick_s, oZ_e, oY_e, r_Model_sortAt_0, r_Model_sortAt_1, r_Model_sortAt_2, r_Model_sortAt_3, r_Model_sortAt_6, r_Model_sortAt_8, r_Model_sortAt_10, r_Model_sortAt_12, r_Model_sortAt_15, r_Model_sortAt_16, r_Model_sortAt_17, r_Model_sortAt_18, r_Model_sortAt_19, r_Model_sortAt_20, r_Model_sortAt_21, r_Model_sortAt_22, r_Model_sortAt_25, r_Model_sortAt_26, r_Model_sortAt_29, r_Model_sortAt_32, r_Model_sortAt_34, r_Model_sortAt_36, r_Model_sortAt_39, r_Model_sortAt_40, r_Model_sortAt_41, r_Model_sortAt_42, r_Model_sortAt_43, r_Model_sortAt_44, r_Model_sortAt_47, r_Model_sortAt_50, r_Model_sortAt_51, xe_Model_sortAt_452, xe_Model_sortAt_380, xd_Model_sortAt, xrb_Model_sortAt, xin_Model_sortAt, T_Model_sortOf_e, TF_Model_sortOf, T_Model_at_e, TF_Model_at, mh, mp0, mp2, mp3, mp4, mp5, mp6, mp7, mp8, mp9, mp10, mp11, mp12, mp13, mp14, mp15, mp16, mp17, mp18, mp19, mp20, mp21, mp22, mp24, mp25, mp26, mp27, mq0, mq2, mq3, mq4, mq5, mq6, mq7, mq8, mq9, mq10, mq11, mq12, mq13, mq14, mq15, mq16, mq17, mq18, mq19, mq20, mq21, mq22, mq24, mq25, mq26, mq27, Nat.reduceAdd, Nat.reduceMul, Nat.reduceEqDiff, reduceIte, Int.reduceNeg, Int.reduceLE, Int.reduceLT, Int.reduceAdd, Int.reduceSub, Int.reduceToNat, true_and, and_true, inR_e, Nat.reduceLT, Nat.reduceLeDiff, reduceCtorEq, Nat.add_zero, Nat.zero_add, or_false, false_or, or_true, true_or, not_true_eq_false, not_false_eq_true, Classical.not_not, Nat.add_eq_zero_iff, and_false, false_and, Int.reduceEq, List.mem_cons, List.not_mem_nil, forall_eq_or_imp, forall_eq, false_implies, implies_true, forall_const, aargs_0, aargs_i, aargs_r, aargs_l, aargs_n, nfT_e, eq_self, and_self, Nat.le_refl, fu_s, fu_fu, iu_iu, iu_s, fu_am, fu_a0, fu_0a, iu_l, Nat.reduceBEq, Int.reduceBEq, T_objInit_e]; clear mp0 mp2 mp3 mp4 mp5 mp6 mp7 mp8 mp9 mp10 mp11 mp12 mp13 mp14 mp15 mp16 mp17 mp18 mp19 mp20 mp21 mp22 mp24 mp25 mp26 mp27)
    refine ⟨hL, b1, by omega, ?_⟩
    have := hT (σ (o + 23))
    rw [sA_83 e, fu_self] at this
    exact this
theorem co_X11_470 : CallOK RX11 (.invokestatic 117) (1, 0, 0, 0, T_Model_width) := call_S S_Model_width (by decide) (by decide +kernel) (Or.inl (by decide +kernel)) (by decide +kernel) (by decide +kernel) (by decide +kernel)
theorem co_X11_484 : CallOK RX11 (.invokevirtual 121) (4, 3, 0, 0, T_Model_sortAt) := call_V S_Model_sortAt (by decide) (ci := 11) rfl (by decide +kernel) (by decide +kernel) (by decide +kernel) (by decide +kernel) (by decide +kernel) (by decide +kernel) T_Model_sortAt_r
def TF_Model_valuePlace (o : Nat) (p : Int) (q : Int) (j : Int) (sz sl : Nat) (lay : Nat → Nat × Int) (ρ : Nat → Int → Nat) (σ : Nat → Int → Int) (τ : Nat → Int → Int64) (k : Option AV → Mm → Prop) : Prop := LModel lay ρ o ∧ ∃ (U : Int → Int) (len : Int) (A : Int → Int), MB σ o p U len A ∧ TP U len A q ∧ (0 ≤ j ∧ j ≤ nV U A q) ∧ ∀ c : Int → Int, k (some (vI (vP U A q j))) (sz, sl, lay, ρ, fu σ (o + 23) c, τ)
def T_Model_valuePlace : Tr := mkT 11 fun o as M k => pI as fun p as => pI as fun q as => pI as fun j as => as = [] ∧ TF_Model_valuePlace o p q j M.1 M.2.1 M.2.2.1 M.2.2.2.1 M.2.2.2.2.1 M.2.2.2.2.2 k
theorem T_Model_valuePlace_e {o : Nat} {p : Int} {q : Int} {j : Int} {sz sl : Nat} {lay : Nat → Nat × Int} {ρ : Nat → Int → Nat} {σ : Nat → Int → Int} {τ : Nat → Int → Int64} {k : Option AV → Mm → Prop} : T_Model_valuePlace [vR o, vI p, vI q, vI j] (sz, sl, lay, ρ, σ, τ) k = (lay o = (21, 0) ∧ TF_Model_valuePlace o p q j sz sl lay ρ σ τ k) := by simp [T_Model_valuePlace, mkT_e, pI_e, pR_e, pL_e]
theorem T_Model_valuePlace_r (as : List AV) (M : Mm) (k : Option AV → Mm → Prop) (h : T_Model_valuePlace as M k) : ∃ b As, as = vR b :: As ∧ M.2.2.1 b = (10 + 11, 0) := by
  obtain ⟨b, As, h1, h2, -⟩ := mkT_r h
  exact ⟨b, As, h1, h2⟩
def tb_Model_valuePlace : List (Nat × Option (List Nat) × Instr × List Nat) := [(0, none, .aload_n 0, []), (1, none, .iload_n 1, []), (2, none, .iload_n 2, []), (3, none, .invokevirtual 95, []), (6, none, .istore 4, []), (8, none, .iload 4, []), (10, none, .bipush 83, []), (12, none, .if_icmp .ne 11, [23]), (15, none, .iload_n 2, []), (16, none, .iconst 3, []), (17, none, .iadd, []), (18, none, .iconst 2, []), (19, none, .iload_n 3, []), (20, none, .imul, []), (21, none, .iadd, []), (22, none, .ireturn, []), (23, none, .iload 4, []), (25, none, .bipush 82, []), (27, none, .if_icmp .ne 22, [49]), (30, none, .iload_n 2, []), (31, none, .bipush 6, []), (33, none, .iadd, []), (34, none, .iload_n 3, []), (35, none, .aload_n 0, []), (36, none, .iload_n 1, []), (37, none, .iload_n 2, []), (38, none, .iconst 3, []), (39, none, .iadd, []), (40, none, .invokevirtual 95, []), (43, none, .invokestatic 117, []), (46, none, .imul, []), (47, none, .iadd, []), (48, none, .ireturn, []), (49, none, .iload_n 2, []), (50, none, .iconst 4, []), (51, none, .iadd, []), (52, none, .istore 5, []), (54, none, .iconst 0, []), (55, none, .istore 6, []), (57, some [0, 1, 2, 3, 4, 5, 6], .iload 6, []), (59, none, .iload_n 3, []), (60, none, .if_icmp .ge 25, [85]), (63, none, .iload 5, []), (65, none, .aload_n 0, []), (66, none, .iload_n 1, []), (67, none, .iload_n 2, []), (68, none, .iload 6, []), (70, none, .invokevirtual 121, []), (73, none, .invokestatic 117, []), (76, none, .iadd, []), (77, none, .istore 5, []), (79, none, .iinc 6 1, []), (82, none, .goto (-25), [57]), (85, none, .iload 5, []), (87, none, .ireturn, [])]
def P_Model_valuePlace : Nat → Option (List Nat) × Instr × List Nat := plk tb_Model_valuePlace
theorem r_Model_valuePlace_0 : P_Model_valuePlace 0 = (none, .aload_n 0, []) := by decide +kernel
theorem r_Model_valuePlace_1 : P_Model_valuePlace 1 = (none, .iload_n 1, []) := by decide +kernel
theorem r_Model_valuePlace_2 : P_Model_valuePlace 2 = (none, .iload_n 2, []) := by decide +kernel
theorem r_Model_valuePlace_3 : P_Model_valuePlace 3 = (none, .invokevirtual 95, []) := by decide +kernel
theorem r_Model_valuePlace_6 : P_Model_valuePlace 6 = (none, .istore 4, []) := by decide +kernel
theorem r_Model_valuePlace_8 : P_Model_valuePlace 8 = (none, .iload 4, []) := by decide +kernel
theorem r_Model_valuePlace_10 : P_Model_valuePlace 10 = (none, .bipush 83, []) := by decide +kernel
theorem r_Model_valuePlace_12 : P_Model_valuePlace 12 = (none, .if_icmp .ne 11, [23]) := by decide +kernel
theorem r_Model_valuePlace_15 : P_Model_valuePlace 15 = (none, .iload_n 2, []) := by decide +kernel
theorem r_Model_valuePlace_16 : P_Model_valuePlace 16 = (none, .iconst 3, []) := by decide +kernel
theorem r_Model_valuePlace_17 : P_Model_valuePlace 17 = (none, .iadd, []) := by decide +kernel
theorem r_Model_valuePlace_18 : P_Model_valuePlace 18 = (none, .iconst 2, []) := by decide +kernel
theorem r_Model_valuePlace_19 : P_Model_valuePlace 19 = (none, .iload_n 3, []) := by decide +kernel
theorem r_Model_valuePlace_20 : P_Model_valuePlace 20 = (none, .imul, []) := by decide +kernel
theorem r_Model_valuePlace_21 : P_Model_valuePlace 21 = (none, .iadd, []) := by decide +kernel
theorem r_Model_valuePlace_22 : P_Model_valuePlace 22 = (none, .ireturn, []) := by decide +kernel
theorem r_Model_valuePlace_23 : P_Model_valuePlace 23 = (none, .iload 4, []) := by decide +kernel
theorem r_Model_valuePlace_25 : P_Model_valuePlace 25 = (none, .bipush 82, []) := by decide +kernel
theorem r_Model_valuePlace_27 : P_Model_valuePlace 27 = (none, .if_icmp .ne 22, [49]) := by decide +kernel
theorem r_Model_valuePlace_30 : P_Model_valuePlace 30 = (none, .iload_n 2, []) := by decide +kernel
theorem r_Model_valuePlace_31 : P_Model_valuePlace 31 = (none, .bipush 6, []) := by decide +kernel
theorem r_Model_valuePlace_33 : P_Model_valuePlace 33 = (none, .iadd, []) := by decide +kernel
theorem r_Model_valuePlace_34 : P_Model_valuePlace 34 = (none, .iload_n 3, []) := by decide +kernel
theorem r_Model_valuePlace_35 : P_Model_valuePlace 35 = (none, .aload_n 0, []) := by decide +kernel
theorem r_Model_valuePlace_36 : P_Model_valuePlace 36 = (none, .iload_n 1, []) := by decide +kernel
theorem r_Model_valuePlace_37 : P_Model_valuePlace 37 = (none, .iload_n 2, []) := by decide +kernel
theorem r_Model_valuePlace_38 : P_Model_valuePlace 38 = (none, .iconst 3, []) := by decide +kernel
theorem r_Model_valuePlace_39 : P_Model_valuePlace 39 = (none, .iadd, []) := by decide +kernel
theorem r_Model_valuePlace_40 : P_Model_valuePlace 40 = (none, .invokevirtual 95, []) := by decide +kernel
theorem r_Model_valuePlace_43 : P_Model_valuePlace 43 = (none, .invokestatic 117, []) := by decide +kernel
theorem r_Model_valuePlace_46 : P_Model_valuePlace 46 = (none, .imul, []) := by decide +kernel
theorem r_Model_valuePlace_47 : P_Model_valuePlace 47 = (none, .iadd, []) := by decide +kernel
theorem r_Model_valuePlace_48 : P_Model_valuePlace 48 = (none, .ireturn, []) := by decide +kernel
theorem r_Model_valuePlace_49 : P_Model_valuePlace 49 = (none, .iload_n 2, []) := by decide +kernel
theorem r_Model_valuePlace_50 : P_Model_valuePlace 50 = (none, .iconst 4, []) := by decide +kernel
theorem r_Model_valuePlace_51 : P_Model_valuePlace 51 = (none, .iadd, []) := by decide +kernel
theorem r_Model_valuePlace_52 : P_Model_valuePlace 52 = (none, .istore 5, []) := by decide +kernel
theorem r_Model_valuePlace_54 : P_Model_valuePlace 54 = (none, .iconst 0, []) := by decide +kernel
theorem r_Model_valuePlace_55 : P_Model_valuePlace 55 = (none, .istore 6, []) := by decide +kernel
theorem r_Model_valuePlace_57 : P_Model_valuePlace 57 = (some [0, 1, 2, 3, 4, 5, 6], .iload 6, []) := by decide +kernel
theorem r_Model_valuePlace_59 : P_Model_valuePlace 59 = (none, .iload_n 3, []) := by decide +kernel
theorem r_Model_valuePlace_60 : P_Model_valuePlace 60 = (none, .if_icmp .ge 25, [85]) := by decide +kernel
theorem r_Model_valuePlace_63 : P_Model_valuePlace 63 = (none, .iload 5, []) := by decide +kernel
theorem r_Model_valuePlace_65 : P_Model_valuePlace 65 = (none, .aload_n 0, []) := by decide +kernel
theorem r_Model_valuePlace_66 : P_Model_valuePlace 66 = (none, .iload_n 1, []) := by decide +kernel
theorem r_Model_valuePlace_67 : P_Model_valuePlace 67 = (none, .iload_n 2, []) := by decide +kernel
theorem r_Model_valuePlace_68 : P_Model_valuePlace 68 = (none, .iload 6, []) := by decide +kernel
theorem r_Model_valuePlace_70 : P_Model_valuePlace 70 = (none, .invokevirtual 121, []) := by decide +kernel
theorem r_Model_valuePlace_73 : P_Model_valuePlace 73 = (none, .invokestatic 117, []) := by decide +kernel
theorem r_Model_valuePlace_76 : P_Model_valuePlace 76 = (none, .iadd, []) := by decide +kernel
theorem r_Model_valuePlace_77 : P_Model_valuePlace 77 = (none, .istore 5, []) := by decide +kernel
theorem r_Model_valuePlace_79 : P_Model_valuePlace 79 = (none, .iinc 6 1, []) := by decide +kernel
theorem r_Model_valuePlace_82 : P_Model_valuePlace 82 = (none, .goto (-25), [57]) := by decide +kernel
theorem r_Model_valuePlace_85 : P_Model_valuePlace 85 = (none, .iload 5, []) := by decide +kernel
theorem r_Model_valuePlace_87 : P_Model_valuePlace 87 = (none, .ireturn, []) := by decide +kernel
def E_Model_valuePlace : List (Nat × Ent) := [(470, (1, 0, 0, 0, T_Model_width)), (484, (4, 3, 0, 0, T_Model_sortAt)), (380, (3, 0, 0, 0, T_Model_at))]
def X_Model_valuePlace : Cx := (llk (0, 0, 9) ftX11, llk 99 ntX11, llk none kcX11, llk none klX11, llk dEnt E_Model_valuePlace, 4, 0, false)
theorem xok_Model_valuePlace : Xok RX11 X_Model_valuePlace := xok_of ftX11_ok ntX11_ok kcX11_ok klX11_ok (E := E_Model_valuePlace) (List.forall_mem_cons.mpr ⟨co_X11_470, List.forall_mem_cons.mpr ⟨co_X11_484, List.forall_mem_cons.mpr ⟨co_X11_380, fun _ h => absurd h List.not_mem_nil⟩⟩⟩)
theorem xe_Model_valuePlace_470 : xE X_Model_valuePlace (4 * 117 + 2) = (1, 0, 0, 0, T_Model_width) := rfl
theorem xe_Model_valuePlace_484 : xE X_Model_valuePlace (4 * 121 + 0) = (4, 3, 0, 0, T_Model_sortAt) := rfl
theorem xe_Model_valuePlace_380 : xE X_Model_valuePlace (4 * 95 + 0) = (3, 0, 0, 0, T_Model_at) := rfl
theorem xd_Model_valuePlace : xd X_Model_valuePlace = 4 := rfl
theorem xrb_Model_valuePlace : xrb X_Model_valuePlace = 0 := rfl
theorem xin_Model_valuePlace : xin X_Model_valuePlace = false := rfl
set_option maxHeartbeats 4000000 in
set_option maxRecDepth 100000 in
theorem S_Model_valuePlace : Snd yX11_valuePlace cX11_valuePlace 7 (some .int) T_Model_valuePlace 4 0 0 := by
  refine snd_of (X := X_Model_valuePlace) (P := P_Model_valuePlace) (tb := tb_Model_valuePlace) (own := RX11) (by decide) rfl rfl (by decide +kernel) xok_Model_valuePlace rfl rk0 (fun h => by first | rfl | cases h) ?_
  intro as M k has hM hT0
  obtain ⟨sz, sl, lay, ρ, σ, τ⟩ := M
  obtain ⟨o, as1, e, hlo, hT1⟩ := mkT_r hT0
  clear hT0
  subst e
  obtain ⟨p, as2, e, hT2⟩ := pI_x hT1
  clear hT1
  subst e
  obtain ⟨q, as3, e, hT3⟩ := pI_x hT2
  clear hT2
  subst e
  obtain ⟨j, as4, e, hT4⟩ := pI_x hT3
  clear hT3
  subst e
  obtain ⟨e, hT⟩ := hT4
  subst e
  replace hlo : lay o = (21, 0) := hlo
  have r_p : -2147483648 ≤ p ∧ p ≤ 2147483647 := has (vI p) (by simp)
  have r_q : -2147483648 ≤ q ∧ q ≤ 2147483647 := has (vI q) (by simp)
  have r_j : -2147483648 ≤ j ∧ j ≤ 2147483647 := has (vI j) (by simp)
  clear has
  replace hM : ∀ a i, -2147483648 ≤ σ a i ∧ σ a i ≤ 2147483647 := hM
  replace hT : TF_Model_valuePlace o p q j sz sl lay ρ σ τ k := hT
  unfold TF_Model_valuePlace at hT
  obtain ⟨hL, U, len, A, hB, ⟨ht, t3, t4, t5⟩, hj, hT⟩ := hT
  obtain ⟨b1, b2, b3, b4, b5, b6, b7⟩ := (show MB σ o p U len A from hB)
  obtain ⟨J, hJd⟩ : ∃ J : Nat → List AV → Mm → Prop, J = (fun c vs M1 => c = 57 ∧ U q = 84 ∧ ∃ (c : Int → Int) (i : Int), (0 ≤ i ∧ i ≤ j) ∧ vs = [vR o, vI p, vI q, vI j, vI 84, vI (vP U A q i), vI i] ∧ M1 = (sz, sl, lay, ρ, fu σ (o + 23) c, τ)) := ⟨_, rfl⟩
  obtain ⟨μ, hμ⟩ : ∃ μ : Nat → List AV → Mm → Nat, μ = (fun _ vs _ => (1000 - gI (vs.getD 6 vN)).toNat) := ⟨_, rfl⟩
  refine ⟨Nat.le_of_ble_eq_true rfl, J, μ, 63, ?_, ?_⟩
  · skip
    have nv := ht.nv b5
    rcases ht with ⟨e, t1, t2⟩ | ⟨e, t1, t2⟩ | e
    · have hq : σ (o + 2) (8000 * p + q) % 256 = 84 := (b3 q (by omega)).trans e
      (obtain ⟨mh, mp0, mp2, mp3, mp4, mp5, mp6, mp7, mp8, mp9, mp10, mp11, mp12, mp13, mp14, mp15, mp16, mp17, mp18, mp19, mp20, mp21, mp22, mp24, mp25, mp26, mp27, mq0, mq2, mq3, mq4, mq5, mq6, mq7, mq8, mq9, mq10, mq11, mq12, mq13, mq14, mq15, mq16, mq17, mq18, mq19, mq20, mq21, mq22, mq24, mq25, mq26, mq27⟩ := (show LModel lay ρ _ from hL); unfold wps; simp only [hq, si_iload_n0, si_iload_n1, si_iload_n2, si_iload_n3, si_iload, si_lload_n0, si_lload_n1, si_lload_n2, si_lload_n3, si_lload, si_aload_n0, si_aload_n1, si_aload_n2, si_aload_n3, si_aload, si_istore_n0, si_istore_n1, si_istore_n2, si_istore_n3, si_istore, si_astore_n0, si_astore_n1, si_astore_n2, si_astore_n3, si_astore, si_lstore_n0, si_lstore_n1, si_lstore_n2, si_lstore_n3, si_lstore, si_iconst, si_bipush, si_sipush, si_ldc, si_ldc2_w, si_lconst0, si_lconst1, si_aconst_null, si_iinc, si_dup, si_dup2, si_iadd, si_isub, si_imul, si_idiv, si_irem, si_iand, si_ior, si_ishl, si_ishr, si_ladd, si_lmul, si_lor, si_lxor, si_lshl, si_lushr, si_lcmp, si_i2b, si_i2l, si_l2i, si_icmp_eq, si_icmp_ne, si_icmp_lt, si_icmp_ge, si_icmp_gt, si_icmp_le, si_if_eq, si_if_ne, si_if_lt, si_if_ge, si_if_gt, si_if_le, si_ifnull, si_ifnonnull, si_goto, si_tableswitch, si_lookupswitch, si_getfield, si_putfield, si_getstatic, si_iaload, si_baload, si_laload, si_aaload, si_iastore, si_bastore, si_lastore, si_aastore, si_arraylength, si_new, si_newarray, si_anewarray, si_invokevirtual, si_invokespecial, si_invokestatic, si_ireturn, si_lreturn, si_areturn, si_return_, pI_e, pL_e, pR_e, pA_r, pA_n, pN_n, pN_r, oI_e, oL_e, oA_r, oA_n, lget_e, lrm1_0, lrm2_0, lrm1_i, lrm1_r, lrm1_n, lrm1_l, lrm2_i, lrm2_r, lrm2_n, lrm2_l, popN_0, popN_s, acat_i, acat_l, acat_r, acat_n, stw_0, stw_s, psh_s, psh_n, wgf_r, wgf_i, wgf_b, wgf_n, wgf_m, wpf_i, wpf_r, wpf_b, wnew_e, callE_e, rbk_0, rbk_1, tsw_0, tsw_s, lsw_0, lsw_s, wp_s, wq_t, wq_f, oV_e, pick_0, pick_s, oZ_e, oY_e, r_Model_valuePlace_0, r_Model_valuePlace_1, r_Model_valuePlace_2, r_Model_valuePlace_3, r_Model_valuePlace_6, r_Model_valuePlace_8, r_Model_valuePlace_10, r_Model_valuePlace_12, r_Model_valuePlace_15, r_Model_valuePlace_16, r_Model_valuePlace_17, r_Model_valuePlace_18, r_Model_valuePlace_19, r_Model_valuePlace_20, r_Model_valuePlace_21, r_Model_valuePlace_22, r_Model_valuePlace_23, r_Model_valuePlace_25, r_Model_valuePlace_27, r_Model_valuePlace_30, r_Model_valuePlace_31, r_Model_valuePlace_33, r_Model_valuePlace_34, r_Model_valuePlace_35, r_Model_valuePlace_36, r_Model_valuePlace_37, r_Model_valuePlace_38, r_Model_valuePlace_39, r_Model_valuePlace_40, r_Model_valuePlace_43, r_Model_valuePlace_46, r_Model_valuePlace_47, r_Model_valuePlace_48, r_Model_valuePlace_49, r_Model_valuePlace_50, r_Model_valuePlace_51, r_Model_valuePlace_52, r_Model_valuePlace_54, r_Model_valuePlace_55, r_Model_valuePlace_57, r_Model_valuePlace_59, r_Model_valuePlace_60, r_Model_valuePlace_63, r_Model_valuePlace_65, r_Model_valuePlace_66, r_Model_valuePlace_67, r_Model_valuePlace_68, r_Model_valuePlace_70, r_Model_valuePlace_73, r_Model_valuePlace_76, r_Model_valuePlace_77, r_Model_valuePlace_79, r_Model_valuePlace_82, r_Model_valuePlace_85, r_Model_valuePlace_87, xe_Model_valuePlace_470, xe_Model_valuePlace_484, xe_Model_valuePlace_380, xd_Model_valuePlace, xrb_Model_valuePlace, xin_Model_valuePlace, T_Model_width_e, TF_Model_width, T_Model_sortAt_e, TF_Model_sortAt, T_Model_at_e, TF_Model_at, mh, mp0, mp2, mp3, mp4, mp5, mp6, mp7, mp8, mp9, mp10, mp11, mp12, mp13, mp14, mp15, mp16, mp17, mp18, mp19, mp20, mp21, mp22, mp24, mp25, mp26, mp27, mq0, mq2, mq3, mq4, mq5, mq6, mq7, mq8, mq9, mq10, mq11, mq12, mq13, mq14, mq15, mq16, mq17, mq18, mq19, mq20, mq21, mq22, mq24, mq25, mq26, mq27, Nat.reduceAdd, Nat.reduceMul, Nat.reduceEqDiff, reduceIte, Int.reduceNeg, Int.reduceLE, Int.reduceLT, Int.reduceAdd, Int.reduceSub, Int.reduceToNat, true_and, and_true, inR_e, Nat.reduceLT, Nat.reduceLeDiff, reduceCtorEq, Nat.add_zero, Nat.zero_add, or_false, false_or, or_true, true_or, not_true_eq_false, not_false_eq_true, Classical.not_not, Nat.add_eq_zero_iff, and_false, false_and, Int.reduceEq, List.mem_cons, List.not_mem_nil, forall_eq_or_imp, forall_eq, false_implies, implies_true, forall_const, aargs_0, aargs_i, aargs_r, aargs_l, aargs_n, nfT_e, eq_self, and_self, Nat.le_refl, fu_s, fu_fu, iu_iu, iu_s, fu_am, fu_a0, fu_0a, iu_l, Nat.reduceBEq, Int.reduceBEq, T_objInit_e]; clear mp0 mp2 mp3 mp4 mp5 mp6 mp7 mp8 mp9 mp10 mp11 mp12 mp13 mp14 mp15 mp16 mp17 mp18 mp19 mp20 mp21 mp22 mp24 mp25 mp26 mp27)
      refine ⟨hL, b1, by omega, by omega, ?_⟩
      rw [hJd]
      refine ⟨rfl, e, σ (o + 23), 0, by omega, ?_, by rw [fu_self]⟩
      rw [TOK.v0 (Or.inl ⟨e, t1, t2⟩)]
      unfold hdL
      rw [if_pos e]
    · have hq : σ (o + 2) (8000 * p + q) % 256 = 82 := (b3 q (by omega)).trans e
      have hq3 := b3 (q + 3) (by omega)
      have hm := mul_wd (s := U (q + 3)) hj.1
      (obtain ⟨mh, mp0, mp2, mp3, mp4, mp5, mp6, mp7, mp8, mp9, mp10, mp11, mp12, mp13, mp14, mp15, mp16, mp17, mp18, mp19, mp20, mp21, mp22, mp24, mp25, mp26, mp27, mq0, mq2, mq3, mq4, mq5, mq6, mq7, mq8, mq9, mq10, mq11, mq12, mq13, mq14, mq15, mq16, mq17, mq18, mq19, mq20, mq21, mq22, mq24, mq25, mq26, mq27⟩ := (show LModel lay ρ _ from hL); unfold wps; simp only [hq, hq3, si_iload_n0, si_iload_n1, si_iload_n2, si_iload_n3, si_iload, si_lload_n0, si_lload_n1, si_lload_n2, si_lload_n3, si_lload, si_aload_n0, si_aload_n1, si_aload_n2, si_aload_n3, si_aload, si_istore_n0, si_istore_n1, si_istore_n2, si_istore_n3, si_istore, si_astore_n0, si_astore_n1, si_astore_n2, si_astore_n3, si_astore, si_lstore_n0, si_lstore_n1, si_lstore_n2, si_lstore_n3, si_lstore, si_iconst, si_bipush, si_sipush, si_ldc, si_ldc2_w, si_lconst0, si_lconst1, si_aconst_null, si_iinc, si_dup, si_dup2, si_iadd, si_isub, si_imul, si_idiv, si_irem, si_iand, si_ior, si_ishl, si_ishr, si_ladd, si_lmul, si_lor, si_lxor, si_lshl, si_lushr, si_lcmp, si_i2b, si_i2l, si_l2i, si_icmp_eq, si_icmp_ne, si_icmp_lt, si_icmp_ge, si_icmp_gt, si_icmp_le, si_if_eq, si_if_ne, si_if_lt, si_if_ge, si_if_gt, si_if_le, si_ifnull, si_ifnonnull, si_goto, si_tableswitch, si_lookupswitch, si_getfield, si_putfield, si_getstatic, si_iaload, si_baload, si_laload, si_aaload, si_iastore, si_bastore, si_lastore, si_aastore, si_arraylength, si_new, si_newarray, si_anewarray, si_invokevirtual, si_invokespecial, si_invokestatic, si_ireturn, si_lreturn, si_areturn, si_return_, pI_e, pL_e, pR_e, pA_r, pA_n, pN_n, pN_r, oI_e, oL_e, oA_r, oA_n, lget_e, lrm1_0, lrm2_0, lrm1_i, lrm1_r, lrm1_n, lrm1_l, lrm2_i, lrm2_r, lrm2_n, lrm2_l, popN_0, popN_s, acat_i, acat_l, acat_r, acat_n, stw_0, stw_s, psh_s, psh_n, wgf_r, wgf_i, wgf_b, wgf_n, wgf_m, wpf_i, wpf_r, wpf_b, wnew_e, callE_e, rbk_0, rbk_1, tsw_0, tsw_s, lsw_0, lsw_s, wp_s, wq_t, wq_f, oV_e, pick_0, pick_s, oZ_e, oY_e, r_Model_valuePlace_0, r_Model_valuePlace_1, r_Model_valuePlace_2, r_Model_valuePlace_3, r_Model_valuePlace_6, r_Model_valuePlace_8, r_Model_valuePlace_10, r_Model_valuePlace_12, r_Model_valuePlace_15, r_Model_valuePlace_16, r_Model_valuePlace_17, r_Model_valuePlace_18, r_Model_valuePlace_19, r_Model_valuePlace_20, r_Model_valuePlace_21, r_Model_valuePlace_22, r_Model_valuePlace_23, r_Model_valuePlace_25, r_Model_valuePlace_27, r_Model_valuePlace_30, r_Model_valuePlace_31, r_Model_valuePlace_33, r_Model_valuePlace_34, r_Model_valuePlace_35, r_Model_valuePlace_36, r_Model_valuePlace_37, r_Model_valuePlace_38, r_Model_valuePlace_39, r_Model_valuePlace_40, r_Model_valuePlace_43, r_Model_valuePlace_46, r_Model_valuePlace_47, r_Model_valuePlace_48, r_Model_valuePlace_49, r_Model_valuePlace_50, r_Model_valuePlace_51, r_Model_valuePlace_52, r_Model_valuePlace_54, r_Model_valuePlace_55, r_Model_valuePlace_57, r_Model_valuePlace_59, r_Model_valuePlace_60, r_Model_valuePlace_63, r_Model_valuePlace_65, r_Model_valuePlace_66, r_Model_valuePlace_67, r_Model_valuePlace_68, r_Model_valuePlace_70, r_Model_valuePlace_73, r_Model_valuePlace_76, r_Model_valuePlace_77, r_Model_valuePlace_79, r_Model_valuePlace_82, r_Model_valuePlace_85, r_Model_valuePlace_87, xe_Model_valuePlace_470, xe_Model_valuePlace_484, xe_Model_valuePlace_380, xd_Model_valuePlace, xrb_Model_valuePlace, xin_Model_valuePlace, T_Model_width_e, TF_Model_width, T_Model_sortAt_e, TF_Model_sortAt, T_Model_at_e, TF_Model_at, mh, mp0, mp2, mp3, mp4, mp5, mp6, mp7, mp8, mp9, mp10, mp11, mp12, mp13, mp14, mp15, mp16, mp17, mp18, mp19, mp20, mp21, mp22, mp24, mp25, mp26, mp27, mq0, mq2, mq3, mq4, mq5, mq6, mq7, mq8, mq9, mq10, mq11, mq12, mq13, mq14, mq15, mq16, mq17, mq18, mq19, mq20, mq21, mq22, mq24, mq25, mq26, mq27, Nat.reduceAdd, Nat.reduceMul, Nat.reduceEqDiff, reduceIte, Int.reduceNeg, Int.reduceLE, Int.reduceLT, Int.reduceAdd, Int.reduceSub, Int.reduceToNat, true_and, and_true, inR_e, Nat.reduceLT, Nat.reduceLeDiff, reduceCtorEq, Nat.add_zero, Nat.zero_add, or_false, false_or, or_true, true_or, not_true_eq_false, not_false_eq_true, Classical.not_not, Nat.add_eq_zero_iff, and_false, false_and, Int.reduceEq, List.mem_cons, List.not_mem_nil, forall_eq_or_imp, forall_eq, false_implies, implies_true, forall_const, aargs_0, aargs_i, aargs_r, aargs_l, aargs_n, nfT_e, eq_self, and_self, Nat.le_refl, fu_s, fu_fu, iu_iu, iu_s, fu_am, fu_a0, fu_0a, iu_l, Nat.reduceBEq, Int.reduceBEq, T_objInit_e]; clear mp0 mp2 mp3 mp4 mp5 mp6 mp7 mp8 mp9 mp10 mp11 mp12 mp13 mp14 mp15 mp16 mp17 mp18 mp19 mp20 mp21 mp22 mp24 mp25 mp26 mp27)
      refine ⟨hL, b1, by omega, by omega, by omega, hL, b1, by omega, by omega, by omega, by omega, ?_⟩
      have := hT (σ (o + 23))
      rw [vP_82 e, fu_self] at this
      exact this
    · have hq : σ (o + 2) (8000 * p + q) % 256 = 83 := (b3 q (by omega)).trans e
      (obtain ⟨mh, mp0, mp2, mp3, mp4, mp5, mp6, mp7, mp8, mp9, mp10, mp11, mp12, mp13, mp14, mp15, mp16, mp17, mp18, mp19, mp20, mp21, mp22, mp24, mp25, mp26, mp27, mq0, mq2, mq3, mq4, mq5, mq6, mq7, mq8, mq9, mq10, mq11, mq12, mq13, mq14, mq15, mq16, mq17, mq18, mq19, mq20, mq21, mq22, mq24, mq25, mq26, mq27⟩ := (show LModel lay ρ _ from hL); unfold wps; simp only [hq, si_iload_n0, si_iload_n1, si_iload_n2, si_iload_n3, si_iload, si_lload_n0, si_lload_n1, si_lload_n2, si_lload_n3, si_lload, si_aload_n0, si_aload_n1, si_aload_n2, si_aload_n3, si_aload, si_istore_n0, si_istore_n1, si_istore_n2, si_istore_n3, si_istore, si_astore_n0, si_astore_n1, si_astore_n2, si_astore_n3, si_astore, si_lstore_n0, si_lstore_n1, si_lstore_n2, si_lstore_n3, si_lstore, si_iconst, si_bipush, si_sipush, si_ldc, si_ldc2_w, si_lconst0, si_lconst1, si_aconst_null, si_iinc, si_dup, si_dup2, si_iadd, si_isub, si_imul, si_idiv, si_irem, si_iand, si_ior, si_ishl, si_ishr, si_ladd, si_lmul, si_lor, si_lxor, si_lshl, si_lushr, si_lcmp, si_i2b, si_i2l, si_l2i, si_icmp_eq, si_icmp_ne, si_icmp_lt, si_icmp_ge, si_icmp_gt, si_icmp_le, si_if_eq, si_if_ne, si_if_lt, si_if_ge, si_if_gt, si_if_le, si_ifnull, si_ifnonnull, si_goto, si_tableswitch, si_lookupswitch, si_getfield, si_putfield, si_getstatic, si_iaload, si_baload, si_laload, si_aaload, si_iastore, si_bastore, si_lastore, si_aastore, si_arraylength, si_new, si_newarray, si_anewarray, si_invokevirtual, si_invokespecial, si_invokestatic, si_ireturn, si_lreturn, si_areturn, si_return_, pI_e, pL_e, pR_e, pA_r, pA_n, pN_n, pN_r, oI_e, oL_e, oA_r, oA_n, lget_e, lrm1_0, lrm2_0, lrm1_i, lrm1_r, lrm1_n, lrm1_l, lrm2_i, lrm2_r, lrm2_n, lrm2_l, popN_0, popN_s, acat_i, acat_l, acat_r, acat_n, stw_0, stw_s, psh_s, psh_n, wgf_r, wgf_i, wgf_b, wgf_n, wgf_m, wpf_i, wpf_r, wpf_b, wnew_e, callE_e, rbk_0, rbk_1, tsw_0, tsw_s, lsw_0, lsw_s, wp_s, wq_t, wq_f, oV_e, pick_0, pick_s, oZ_e, oY_e, r_Model_valuePlace_0, r_Model_valuePlace_1, r_Model_valuePlace_2, r_Model_valuePlace_3, r_Model_valuePlace_6, r_Model_valuePlace_8, r_Model_valuePlace_10, r_Model_valuePlace_12, r_Model_valuePlace_15, r_Model_valuePlace_16, r_Model_valuePlace_17, r_Model_valuePlace_18, r_Model_valuePlace_19, r_Model_valuePlace_20, r_Model_valuePlace_21, r_Model_valuePlace_22, r_Model_valuePlace_23, r_Model_valuePlace_25, r_Model_valuePlace_27, r_Model_valuePlace_30, r_Model_valuePlace_31, r_Model_valuePlace_33, r_Model_valuePlace_34, r_Model_valuePlace_35, r_Model_valuePlace_36, r_Model_valuePlace_37, r_Model_valuePlace_38, r_Model_valuePlace_39, r_Model_valuePlace_40, r_Model_valuePlace_43, r_Model_valuePlace_46, r_Model_valuePlace_47, r_Model_valuePlace_48, r_Model_valuePlace_49, r_Model_valuePlace_50, r_Model_valuePlace_51, r_Model_valuePlace_52, r_Model_valuePlace_54, r_Model_valuePlace_55, r_Model_valuePlace_57, r_Model_valuePlace_59, r_Model_valuePlace_60, r_Model_valuePlace_63, r_Model_valuePlace_65, r_Model_valuePlace_66, r_Model_valuePlace_67, r_Model_valuePlace_68, r_Model_valuePlace_70, r_Model_valuePlace_73, r_Model_valuePlace_76, r_Model_valuePlace_77, r_Model_valuePlace_79, r_Model_valuePlace_82, r_Model_valuePlace_85, r_Model_valuePlace_87, xe_Model_valuePlace_470, xe_Model_valuePlace_484, xe_Model_valuePlace_380, xd_Model_valuePlace, xrb_Model_valuePlace, xin_Model_valuePlace, T_Model_width_e, TF_Model_width, T_Model_sortAt_e, TF_Model_sortAt, T_Model_at_e, TF_Model_at, mh, mp0, mp2, mp3, mp4, mp5, mp6, mp7, mp8, mp9, mp10, mp11, mp12, mp13, mp14, mp15, mp16, mp17, mp18, mp19, mp20, mp21, mp22, mp24, mp25, mp26, mp27, mq0, mq2, mq3, mq4, mq5, mq6, mq7, mq8, mq9, mq10, mq11, mq12, mq13, mq14, mq15, mq16, mq17, mq18, mq19, mq20, mq21, mq22, mq24, mq25, mq26, mq27, Nat.reduceAdd, Nat.reduceMul, Nat.reduceEqDiff, reduceIte, Int.reduceNeg, Int.reduceLE, Int.reduceLT, Int.reduceAdd, Int.reduceSub, Int.reduceToNat, true_and, and_true, inR_e, Nat.reduceLT, Nat.reduceLeDiff, reduceCtorEq, Nat.add_zero, Nat.zero_add, or_false, false_or, or_true, true_or, not_true_eq_false, not_false_eq_true, Classical.not_not, Nat.add_eq_zero_iff, and_false, false_and, Int.reduceEq, List.mem_cons, List.not_mem_nil, forall_eq_or_imp, forall_eq, false_implies, implies_true, forall_const, aargs_0, aargs_i, aargs_r, aargs_l, aargs_n, nfT_e, eq_self, and_self, Nat.le_refl, fu_s, fu_fu, iu_iu, iu_s, fu_am, fu_a0, fu_0a, iu_l, Nat.reduceBEq, Int.reduceBEq, T_objInit_e]; clear mp0 mp2 mp3 mp4 mp5 mp6 mp7 mp8 mp9 mp10 mp11 mp12 mp13 mp14 mp15 mp16 mp17 mp18 mp19 mp20 mp21 mp22 mp24 mp25 mp26 mp27)
      refine ⟨hL, b1, by omega, by omega, by omega, by omega, ?_⟩
      have := hT (σ (o + 23))
      rw [vP_83 e, fu_self] at this
      exact this
  · intro cp vs M1 hvs hM1 hlen hJ
    rw [hJd] at hJ
    obtain ⟨rfl, e, c, i, hi, rfl, rfl⟩ := hJ
    have nv := ht.nv b5
    have vb := ht.vb b5 i.toNat (by omega)
    rw [show ((i.toNat : Nat) : Int) = i by omega] at vb
    have hd : hdL U q = 4 := by
      unfold hdL
      rw [if_pos e]
    (obtain ⟨mh, mp0, mp2, mp3, mp4, mp5, mp6, mp7, mp8, mp9, mp10, mp11, mp12, mp13, mp14, mp15, mp16, mp17, mp18, mp19, mp20, mp21, mp22, mp24, mp25, mp26, mp27, mq0, mq2, mq3, mq4, mq5, mq6, mq7, mq8, mq9, mq10, mq11, mq12, mq13, mq14, mq15, mq16, mq17, mq18, mq19, mq20, mq21, mq22, mq24, mq25, mq26, mq27⟩ := (show LModel lay ρ _ from hL); unfold wps; simp only [Option.getD_some, List.zip_cons_cons, List.zip_nil_left, List.zip_nil_right, List.zip_nil_right, MB_fu, si_iload_n0, si_iload_n1, si_iload_n2, si_iload_n3, si_iload, si_lload_n0, si_lload_n1, si_lload_n2, si_lload_n3, si_lload, si_aload_n0, si_aload_n1, si_aload_n2, si_aload_n3, si_aload, si_istore_n0, si_istore_n1, si_istore_n2, si_istore_n3, si_istore, si_astore_n0, si_astore_n1, si_astore_n2, si_astore_n3, si_astore, si_lstore_n0, si_lstore_n1, si_lstore_n2, si_lstore_n3, si_lstore, si_iconst, si_bipush, si_sipush, si_ldc, si_ldc2_w, si_lconst0, si_lconst1, si_aconst_null, si_iinc, si_dup, si_dup2, si_iadd, si_isub, si_imul, si_idiv, si_irem, si_iand, si_ior, si_ishl, si_ishr, si_ladd, si_lmul, si_lor, si_lxor, si_lshl, si_lushr, si_lcmp, si_i2b, si_i2l, si_l2i, si_icmp_eq, si_icmp_ne, si_icmp_lt, si_icmp_ge, si_icmp_gt, si_icmp_le, si_if_eq, si_if_ne, si_if_lt, si_if_ge, si_if_gt, si_if_le, si_ifnull, si_ifnonnull, si_goto, si_tableswitch, si_lookupswitch, si_getfield, si_putfield, si_getstatic, si_iaload, si_baload, si_laload, si_aaload, si_iastore, si_bastore, si_lastore, si_aastore, si_arraylength, si_new, si_newarray, si_anewarray, si_invokevirtual, si_invokespecial, si_invokestatic, si_ireturn, si_lreturn, si_areturn, si_return_, pI_e, pL_e, pR_e, pA_r, pA_n, pN_n, pN_r, oI_e, oL_e, oA_r, oA_n, lget_e, lrm1_0, lrm2_0, lrm1_i, lrm1_r, lrm1_n, lrm1_l, lrm2_i, lrm2_r, lrm2_n, lrm2_l, popN_0, popN_s, acat_i, acat_l, acat_r, acat_n, stw_0, stw_s, psh_s, psh_n, wgf_r, wgf_i, wgf_b, wgf_n, wgf_m, wpf_i, wpf_r, wpf_b, wnew_e, callE_e, rbk_0, rbk_1, tsw_0, tsw_s, lsw_0, lsw_s, wp_s, wq_t, wq_f, oV_e, pick_0, pick_s, oZ_e, oY_e, r_Model_valuePlace_0, r_Model_valuePlace_1, r_Model_valuePlace_2, r_Model_valuePlace_3, r_Model_valuePlace_6, r_Model_valuePlace_8, r_Model_valuePlace_10, r_Model_valuePlace_12, r_Model_valuePlace_15, r_Model_valuePlace_16, r_Model_valuePlace_17, r_Model_valuePlace_18, r_Model_valuePlace_19, r_Model_valuePlace_20, r_Model_valuePlace_21, r_Model_valuePlace_22, r_Model_valuePlace_23, r_Model_valuePlace_25, r_Model_valuePlace_27, r_Model_valuePlace_30, r_Model_valuePlace_31, r_Model_valuePlace_33, r_Model_valuePlace_34, r_Model_valuePlace_35, r_Model_valuePlace_36, r_Model_valuePlace_37, r_Model_valuePlace_38, r_Model_valuePlace_39, r_Model_valuePlace_40, r_Model_valuePlace_43, r_Model_valuePlace_46, r_Model_valuePlace_47, r_Model_valuePlace_48, r_Model_valuePlace_49, r_Model_valuePlace_50, r_Model_valuePlace_51, r_Model_valuePlace_52, r_Model_valuePlace_54, r_Model_valuePlace_55, r_Model_valuePlace_57, r_Model_valuePlace_59, r_Model_valuePlace_60, r_Model_valuePlace_63, r_Model_valuePlace_65, r_Model_valuePlace_66, r_Model_valuePlace_67, r_Model_valuePlace_68, r_Model_valuePlace_70, r_Model_valuePlace_73, r_Model_valuePlace_76, r_Model_valuePlace_77, r_Model_valuePlace_79, r_Model_valuePlace_82, r_Model_valuePlace_85, r_Model_valuePlace_87, xe_Model_valuePlace_470, xe_Model_valuePlace_484, xe_Model_valuePlace_380, xd_Model_valuePlace, xrb_Model_valuePlace, xin_Model_valuePlace, T_Model_width_e, TF_Model_width, T_Model_sortAt_e, TF_Model_sortAt, T_Model_at_e, TF_Model_at, mh, mp0, mp2, mp3, mp4, mp5, mp6, mp7, mp8, mp9, mp10, mp11, mp12, mp13, mp14, mp15, mp16, mp17, mp18, mp19, mp20, mp21, mp22, mp24, mp25, mp26, mp27, mq0, mq2, mq3, mq4, mq5, mq6, mq7, mq8, mq9, mq10, mq11, mq12, mq13, mq14, mq15, mq16, mq17, mq18, mq19, mq20, mq21, mq22, mq24, mq25, mq26, mq27, Nat.reduceAdd, Nat.reduceMul, Nat.reduceEqDiff, reduceIte, Int.reduceNeg, Int.reduceLE, Int.reduceLT, Int.reduceAdd, Int.reduceSub, Int.reduceToNat, true_and, and_true, inR_e, Nat.reduceLT, Nat.reduceLeDiff, reduceCtorEq, Nat.add_zero, Nat.zero_add, or_false, false_or, or_true, true_or, not_true_eq_false, not_false_eq_true, Classical.not_not, Nat.add_eq_zero_iff, and_false, false_and, Int.reduceEq, List.mem_cons, List.not_mem_nil, forall_eq_or_imp, forall_eq, false_implies, implies_true, forall_const, aargs_0, aargs_i, aargs_r, aargs_l, aargs_n, nfT_e, eq_self, and_self, Nat.le_refl, fu_s, fu_fu, iu_iu, iu_s, fu_am, fu_a0, fu_0a, iu_l, Nat.reduceBEq, Int.reduceBEq, T_objInit_e]; clear mp0 mp2 mp3 mp4 mp5 mp6 mp7 mp8 mp9 mp10 mp11 mp12 mp13 mp14 mp15 mp16 mp17 mp18 mp19 mp20 mp21 mp22 mp24 mp25 mp26 mp27)
    refine ⟨fun h => ?_, fun h => ⟨hL, U, len, A, hB, ⟨ht, t3, t4, t5⟩, by omega, fun d => ?_⟩⟩
    · have e2 : i = j := by omega
      rw [e2]
      exact hT c
    · have sa := ht.sa b5 (k := i) (by omega)
      have w := ht.wdR b5 (k := i) (by omega)
      refine ⟨sa, by omega, by omega, ?_, (by rw [hμ]; simp only [gI_e, List.getD_cons_succ, List.getD_cons_zero]; omega)⟩
      rw [hJd]
      refine ⟨rfl, e, d, i + 1, by omega, ?_, rfl⟩
      rw [ht.vs hi.1]

theorem co_X11_428 : CallOK RX11 (.invokevirtual 107) (3, 1, 0, 0, T_Model_two) := call_V S_Model_two (by decide) (ci := 11) rfl (by decide +kernel) (by decide +kernel) (by decide +kernel) (by decide +kernel) (by decide +kernel) (by decide +kernel) T_Model_two_r
def TF_Model_numberOf (o : Nat) (p : Int) (i : Int) (sz sl : Nat) (lay : Nat → Nat × Int) (ρ : Nat → Int → Nat) (σ : Nat → Int → Int) (τ : Nat → Int → Int64) (k : Option AV → Mm → Prop) : Prop := LModel lay ρ o ∧ ∃ (U : Int → Int) (len : Int) (A : Int → Int), MB σ o p U len A ∧ (0 ≤ i ∧ i < 600) ∧ (0 ≤ σ (o + 13) (600 * p + i) ∧ σ (o + 13) (600 * p + i) + 2 < len) ∧ k (some (vI (two2 U (σ (o + 13) (600 * p + i) + 1)))) (sz, sl, lay, ρ, σ, τ)
def T_Model_numberOf : Tr := mkT 11 fun o as M k => pI as fun p as => pI as fun i as => as = [] ∧ TF_Model_numberOf o p i M.1 M.2.1 M.2.2.1 M.2.2.2.1 M.2.2.2.2.1 M.2.2.2.2.2 k
theorem T_Model_numberOf_e {o : Nat} {p : Int} {i : Int} {sz sl : Nat} {lay : Nat → Nat × Int} {ρ : Nat → Int → Nat} {σ : Nat → Int → Int} {τ : Nat → Int → Int64} {k : Option AV → Mm → Prop} : T_Model_numberOf [vR o, vI p, vI i] (sz, sl, lay, ρ, σ, τ) k = (lay o = (21, 0) ∧ TF_Model_numberOf o p i sz sl lay ρ σ τ k) := by simp [T_Model_numberOf, mkT_e, pI_e, pR_e, pL_e]
theorem T_Model_numberOf_r (as : List AV) (M : Mm) (k : Option AV → Mm → Prop) (h : T_Model_numberOf as M k) : ∃ b As, as = vR b :: As ∧ M.2.2.1 b = (10 + 11, 0) := by
  obtain ⟨b, As, h1, h2, -⟩ := mkT_r h
  exact ⟨b, As, h1, h2⟩
def tb_Model_numberOf : List (Nat × Option (List Nat) × Instr × List Nat) := [(0, none, .aload_n 0, []), (1, none, .iload_n 1, []), (2, none, .aload_n 0, []), (3, none, .getfield 47, []), (6, none, .sipush 600, []), (9, none, .iload_n 1, []), (10, none, .imul, []), (11, none, .iload_n 2, []), (12, none, .iadd, []), (13, none, .iaload, []), (14, none, .iconst 1, []), (15, none, .iadd, []), (16, none, .invokevirtual 107, []), (19, none, .ireturn, [])]
def P_Model_numberOf : Nat → Option (List Nat) × Instr × List Nat := plk tb_Model_numberOf
theorem r_Model_numberOf_0 : P_Model_numberOf 0 = (none, .aload_n 0, []) := by decide +kernel
theorem r_Model_numberOf_1 : P_Model_numberOf 1 = (none, .iload_n 1, []) := by decide +kernel
theorem r_Model_numberOf_2 : P_Model_numberOf 2 = (none, .aload_n 0, []) := by decide +kernel
theorem r_Model_numberOf_3 : P_Model_numberOf 3 = (none, .getfield 47, []) := by decide +kernel
theorem r_Model_numberOf_6 : P_Model_numberOf 6 = (none, .sipush 600, []) := by decide +kernel
theorem r_Model_numberOf_9 : P_Model_numberOf 9 = (none, .iload_n 1, []) := by decide +kernel
theorem r_Model_numberOf_10 : P_Model_numberOf 10 = (none, .imul, []) := by decide +kernel
theorem r_Model_numberOf_11 : P_Model_numberOf 11 = (none, .iload_n 2, []) := by decide +kernel
theorem r_Model_numberOf_12 : P_Model_numberOf 12 = (none, .iadd, []) := by decide +kernel
theorem r_Model_numberOf_13 : P_Model_numberOf 13 = (none, .iaload, []) := by decide +kernel
theorem r_Model_numberOf_14 : P_Model_numberOf 14 = (none, .iconst 1, []) := by decide +kernel
theorem r_Model_numberOf_15 : P_Model_numberOf 15 = (none, .iadd, []) := by decide +kernel
theorem r_Model_numberOf_16 : P_Model_numberOf 16 = (none, .invokevirtual 107, []) := by decide +kernel
theorem r_Model_numberOf_19 : P_Model_numberOf 19 = (none, .ireturn, []) := by decide +kernel
def E_Model_numberOf : List (Nat × Ent) := [(428, (3, 1, 0, 0, T_Model_two))]
def X_Model_numberOf : Cx := (llk (0, 0, 9) ftX11, llk 99 ntX11, llk none kcX11, llk none klX11, llk dEnt E_Model_numberOf, 2, 0, false)
theorem xok_Model_numberOf : Xok RX11 X_Model_numberOf := xok_of ftX11_ok ntX11_ok kcX11_ok klX11_ok (E := E_Model_numberOf) (List.forall_mem_cons.mpr ⟨co_X11_428, fun _ h => absurd h List.not_mem_nil⟩)
theorem xf_Model_numberOf_47 : xfl X_Model_numberOf 47 = (11, 13, 1) := by decide +kernel
theorem xe_Model_numberOf_428 : xE X_Model_numberOf (4 * 107 + 0) = (3, 1, 0, 0, T_Model_two) := rfl
theorem xd_Model_numberOf : xd X_Model_numberOf = 2 := rfl
theorem xrb_Model_numberOf : xrb X_Model_numberOf = 0 := rfl
theorem xin_Model_numberOf : xin X_Model_numberOf = false := rfl
set_option maxHeartbeats 4000000 in
set_option maxRecDepth 100000 in
theorem S_Model_numberOf : Snd yX11_numberOf cX11_numberOf 3 (some .int) T_Model_numberOf 2 0 0 := by
  refine snd_of (X := X_Model_numberOf) (P := P_Model_numberOf) (tb := tb_Model_numberOf) (own := RX11) (by decide) rfl rfl (by decide +kernel) xok_Model_numberOf rfl rk0 (fun h => by first | rfl | cases h) ?_
  intro as M k has hM hT0
  obtain ⟨sz, sl, lay, ρ, σ, τ⟩ := M
  obtain ⟨o, as1, e, hlo, hT1⟩ := mkT_r hT0
  clear hT0
  subst e
  obtain ⟨p, as2, e, hT2⟩ := pI_x hT1
  clear hT1
  subst e
  obtain ⟨i, as3, e, hT3⟩ := pI_x hT2
  clear hT2
  subst e
  obtain ⟨e, hT⟩ := hT3
  subst e
  replace hlo : lay o = (21, 0) := hlo
  have r_p : -2147483648 ≤ p ∧ p ≤ 2147483647 := has (vI p) (by simp)
  have r_i : -2147483648 ≤ i ∧ i ≤ 2147483647 := has (vI i) (by simp)
  clear has
  replace hM : ∀ a i, -2147483648 ≤ σ a i ∧ σ a i ≤ 2147483647 := hM
  replace hT : TF_Model_numberOf o p i sz sl lay ρ σ τ k := hT
  unfold TF_Model_numberOf at hT
  obtain ⟨hL, U, len, A, hB, hi, hq, hT⟩ := hT
  obtain ⟨b1, b2, b3, b4, b5, b6, b7⟩ := (show MB σ o p U len A from hB)
  refine ⟨Nat.le_of_ble_eq_true rfl, fun _ _ _ => False, fun _ _ _ => 0, 22, ?_, fun _ _ _ _ _ _ h => h.elim⟩
  obtain ⟨mh, mp0, mp2, mp3, mp4, mp5, mp6, mp7, mp8, mp9, mp10, mp11, mp12, mp13, mp14, mp15, mp16, mp17, mp18, mp19, mp20, mp21, mp22, mp24, mp25, mp26, mp27, mq0, mq2, mq3, mq4, mq5, mq6, mq7, mq8, mq9, mq10, mq11, mq12, mq13, mq14, mq15, mq16, mq17, mq18, mq19, mq20, mq21, mq22, mq24, mq25, mq26, mq27⟩ := (show LModel lay ρ _ from hL)
  unfold wps
  simp only [si_iload_n0, si_iload_n1, si_iload_n2, si_iload_n3, si_iload, si_lload_n0, si_lload_n1, si_lload_n2, si_lload_n3, si_lload, si_aload_n0, si_aload_n1, si_aload_n2, si_aload_n3, si_aload, si_istore_n0, si_istore_n1, si_istore_n2, si_istore_n3, si_istore, si_astore_n0, si_astore_n1, si_astore_n2, si_astore_n3, si_astore, si_lstore_n0, si_lstore_n1, si_lstore_n2, si_lstore_n3, si_lstore, si_iconst, si_bipush, si_sipush, si_ldc, si_ldc2_w, si_lconst0, si_lconst1, si_aconst_null, si_iinc, si_dup, si_dup2, si_iadd, si_isub, si_imul, si_idiv, si_irem, si_iand, si_ior, si_ishl, si_ishr, si_ladd, si_lmul, si_lor, si_lxor, si_lshl, si_lushr, si_lcmp, si_i2b, si_i2l, si_l2i, si_icmp_eq, si_icmp_ne, si_icmp_lt, si_icmp_ge, si_icmp_gt, si_icmp_le, si_if_eq, si_if_ne, si_if_lt, si_if_ge, si_if_gt, si_if_le, si_ifnull, si_ifnonnull, si_goto, si_tableswitch, si_lookupswitch, si_getfield, si_putfield, si_getstatic, si_iaload, si_baload, si_laload, si_aaload, si_iastore, si_bastore, si_lastore, si_aastore, si_arraylength, si_new, si_newarray, si_anewarray, si_invokevirtual, si_invokespecial, si_invokestatic, si_ireturn, si_lreturn, si_areturn, si_return_, pI_e, pL_e, pR_e, pA_r, pA_n, pN_n, pN_r, oI_e, oL_e, oA_r, oA_n, lget_e, lrm1_0, lrm2_0, lrm1_i, lrm1_r, lrm1_n, lrm1_l, lrm2_i, lrm2_r, lrm2_n, lrm2_l, popN_0, popN_s, acat_i, acat_l, acat_r, acat_n, stw_0, stw_s, psh_s, psh_n, wgf_r, wgf_i, wgf_b, wgf_n, wgf_m, wpf_i, wpf_r, wpf_b, wnew_e, callE_e, rbk_0, rbk_1, tsw_0, tsw_s, lsw_0, lsw_s, wp_s, wq_t, wq_f, oV_e, pick_0, pick_s, oZ_e, oY_e, r_Model_numberOf_0, r_Model_numberOf_1, r_Model_numberOf_2, r_Model_numberOf_3, r_Model_numberOf_6, r_Model_numberOf_9, r_Model_numberOf_10, r_Model_numberOf_11, r_Model_numberOf_12, r_Model_numberOf_13, r_Model_numberOf_14, r_Model_numberOf_15, r_Model_numberOf_16, r_Model_numberOf_19, xf_Model_numberOf_47, xe_Model_numberOf_428, xd_Model_numberOf, xrb_Model_numberOf, xin_Model_numberOf, T_Model_two_e, TF_Model_two, mh, mp0, mp2, mp3, mp4, mp5, mp6, mp7, mp8, mp9, mp10, mp11, mp12, mp13, mp14, mp15, mp16, mp17, mp18, mp19, mp20, mp21, mp22, mp24, mp25, mp26, mp27, mq0, mq2, mq3, mq4, mq5, mq6, mq7, mq8, mq9, mq10, mq11, mq12, mq13, mq14, mq15, mq16, mq17, mq18, mq19, mq20, mq21, mq22, mq24, mq25, mq26, mq27, Nat.reduceAdd, Nat.reduceMul, Nat.reduceEqDiff, reduceIte, Int.reduceNeg, Int.reduceLE, Int.reduceLT, Int.reduceAdd, Int.reduceSub, Int.reduceToNat, true_and, and_true, inR_e, Nat.reduceLT, Nat.reduceLeDiff, reduceCtorEq, Nat.add_zero, Nat.zero_add, or_false, false_or, or_true, true_or, not_true_eq_false, not_false_eq_true, Classical.not_not, Nat.add_eq_zero_iff, and_false, false_and, Int.reduceEq, List.mem_cons, List.not_mem_nil, forall_eq_or_imp, forall_eq, false_implies, implies_true, forall_const, aargs_0, aargs_i, aargs_r, aargs_l, aargs_n, nfT_e, eq_self, and_self, Nat.le_refl, fu_s, fu_fu, iu_iu, iu_s, fu_am, fu_a0, fu_0a, iu_l, Nat.reduceBEq, Int.reduceBEq, T_objInit_e]
  clear mp0 mp2 mp3 mp4 mp5 mp6 mp7 mp8 mp9 mp10 mp11 mp12 mp13 mp14 mp15 mp16 mp17 mp18 mp19 mp20 mp21 mp22 mp24 mp25 mp26 mp27
  rw [b3 (σ (o + 13) (600 * p + i) + 1) (by omega), b3 (σ (o + 13) (600 * p + i) + 1 + 1) (by omega)]
  exact ⟨by omega, by omega, by omega, by omega, by omega, hL, b1, by omega, hT⟩
def TF_Model_sort (o : Nat) (p : Int) (i : Int) (sz sl : Nat) (lay : Nat → Nat × Int) (ρ : Nat → Int → Nat) (σ : Nat → Int → Int) (τ : Nat → Int → Int64) (k : Option AV → Mm → Prop) : Prop := LModel lay ρ o ∧ ∃ (U : Int → Int) (len : Int) (A : Int → Int), MB σ o p U len A ∧ (0 ≤ i ∧ i < 600) ∧ (0 ≤ σ (o + 13) (600 * p + i) ∧ σ (o + 13) (600 * p + i) < len) ∧ k (some (vI (srt U (σ (o + 13) (600 * p + i))))) (sz, sl, lay, ρ, σ, τ)
def T_Model_sort : Tr := mkT 11 fun o as M k => pI as fun p as => pI as fun i as => as = [] ∧ TF_Model_sort o p i M.1 M.2.1 M.2.2.1 M.2.2.2.1 M.2.2.2.2.1 M.2.2.2.2.2 k
theorem T_Model_sort_e {o : Nat} {p : Int} {i : Int} {sz sl : Nat} {lay : Nat → Nat × Int} {ρ : Nat → Int → Nat} {σ : Nat → Int → Int} {τ : Nat → Int → Int64} {k : Option AV → Mm → Prop} : T_Model_sort [vR o, vI p, vI i] (sz, sl, lay, ρ, σ, τ) k = (lay o = (21, 0) ∧ TF_Model_sort o p i sz sl lay ρ σ τ k) := by simp [T_Model_sort, mkT_e, pI_e, pR_e, pL_e]
theorem T_Model_sort_r (as : List AV) (M : Mm) (k : Option AV → Mm → Prop) (h : T_Model_sort as M k) : ∃ b As, as = vR b :: As ∧ M.2.2.1 b = (10 + 11, 0) := by
  obtain ⟨b, As, h1, h2, -⟩ := mkT_r h
  exact ⟨b, As, h1, h2⟩
def tb_Model_sort : List (Nat × Option (List Nat) × Instr × List Nat) := [(0, none, .aload_n 0, []), (1, none, .iload_n 1, []), (2, none, .aload_n 0, []), (3, none, .getfield 47, []), (6, none, .sipush 600, []), (9, none, .iload_n 1, []), (10, none, .imul, []), (11, none, .iload_n 2, []), (12, none, .iadd, []), (13, none, .iaload, []), (14, none, .invokevirtual 95, []), (17, none, .istore_n 3, []), (18, none, .iload_n 3, []), (19, none, .bipush 84, []), (21, none, .if_icmp .ne 7, [28]), (24, none, .iconst 0, []), (25, none, .goto 14, [39]), (28, none, .iload_n 3, []), (29, none, .bipush 82, []), (31, none, .if_icmp .ne 7, [38]), (34, none, .iconst 1, []), (35, none, .goto 4, [39]), (38, none, .iconst 2, []), (39, none, .ireturn, [])]
def P_Model_sort : Nat → Option (List Nat) × Instr × List Nat := plk tb_Model_sort
theorem r_Model_sort_0 : P_Model_sort 0 = (none, .aload_n 0, []) := by decide +kernel
theorem r_Model_sort_1 : P_Model_sort 1 = (none, .iload_n 1, []) := by decide +kernel
theorem r_Model_sort_2 : P_Model_sort 2 = (none, .aload_n 0, []) := by decide +kernel
theorem r_Model_sort_3 : P_Model_sort 3 = (none, .getfield 47, []) := by decide +kernel
theorem r_Model_sort_6 : P_Model_sort 6 = (none, .sipush 600, []) := by decide +kernel
theorem r_Model_sort_9 : P_Model_sort 9 = (none, .iload_n 1, []) := by decide +kernel
theorem r_Model_sort_10 : P_Model_sort 10 = (none, .imul, []) := by decide +kernel
theorem r_Model_sort_11 : P_Model_sort 11 = (none, .iload_n 2, []) := by decide +kernel
theorem r_Model_sort_12 : P_Model_sort 12 = (none, .iadd, []) := by decide +kernel
theorem r_Model_sort_13 : P_Model_sort 13 = (none, .iaload, []) := by decide +kernel
theorem r_Model_sort_14 : P_Model_sort 14 = (none, .invokevirtual 95, []) := by decide +kernel
theorem r_Model_sort_17 : P_Model_sort 17 = (none, .istore_n 3, []) := by decide +kernel
theorem r_Model_sort_18 : P_Model_sort 18 = (none, .iload_n 3, []) := by decide +kernel
theorem r_Model_sort_19 : P_Model_sort 19 = (none, .bipush 84, []) := by decide +kernel
theorem r_Model_sort_21 : P_Model_sort 21 = (none, .if_icmp .ne 7, [28]) := by decide +kernel
theorem r_Model_sort_24 : P_Model_sort 24 = (none, .iconst 0, []) := by decide +kernel
theorem r_Model_sort_25 : P_Model_sort 25 = (none, .goto 14, [39]) := by decide +kernel
theorem r_Model_sort_28 : P_Model_sort 28 = (none, .iload_n 3, []) := by decide +kernel
theorem r_Model_sort_29 : P_Model_sort 29 = (none, .bipush 82, []) := by decide +kernel
theorem r_Model_sort_31 : P_Model_sort 31 = (none, .if_icmp .ne 7, [38]) := by decide +kernel
theorem r_Model_sort_34 : P_Model_sort 34 = (none, .iconst 1, []) := by decide +kernel
theorem r_Model_sort_35 : P_Model_sort 35 = (none, .goto 4, [39]) := by decide +kernel
theorem r_Model_sort_38 : P_Model_sort 38 = (none, .iconst 2, []) := by decide +kernel
theorem r_Model_sort_39 : P_Model_sort 39 = (none, .ireturn, []) := by decide +kernel
def E_Model_sort : List (Nat × Ent) := [(380, (3, 0, 0, 0, T_Model_at))]
def X_Model_sort : Cx := (llk (0, 0, 9) ftX11, llk 99 ntX11, llk none kcX11, llk none klX11, llk dEnt E_Model_sort, 1, 0, false)
theorem xok_Model_sort : Xok RX11 X_Model_sort := xok_of ftX11_ok ntX11_ok kcX11_ok klX11_ok (E := E_Model_sort) (List.forall_mem_cons.mpr ⟨co_X11_380, fun _ h => absurd h List.not_mem_nil⟩)
theorem xf_Model_sort_47 : xfl X_Model_sort 47 = (11, 13, 1) := by decide +kernel
theorem xe_Model_sort_380 : xE X_Model_sort (4 * 95 + 0) = (3, 0, 0, 0, T_Model_at) := rfl
theorem xd_Model_sort : xd X_Model_sort = 1 := rfl
theorem xrb_Model_sort : xrb X_Model_sort = 0 := rfl
theorem xin_Model_sort : xin X_Model_sort = false := rfl
set_option maxHeartbeats 4000000 in
set_option maxRecDepth 100000 in
theorem S_Model_sort : Snd yX11_sort cX11_sort 4 (some .int) T_Model_sort 1 0 0 := by
  refine snd_of (X := X_Model_sort) (P := P_Model_sort) (tb := tb_Model_sort) (own := RX11) (by decide) rfl rfl (by decide +kernel) xok_Model_sort rfl rk0 (fun h => by first | rfl | cases h) ?_
  intro as M k has hM hT0
  obtain ⟨sz, sl, lay, ρ, σ, τ⟩ := M
  obtain ⟨o, as1, e, hlo, hT1⟩ := mkT_r hT0
  clear hT0
  subst e
  obtain ⟨p, as2, e, hT2⟩ := pI_x hT1
  clear hT1
  subst e
  obtain ⟨i, as3, e, hT3⟩ := pI_x hT2
  clear hT2
  subst e
  obtain ⟨e, hT⟩ := hT3
  subst e
  replace hlo : lay o = (21, 0) := hlo
  have r_p : -2147483648 ≤ p ∧ p ≤ 2147483647 := has (vI p) (by simp)
  have r_i : -2147483648 ≤ i ∧ i ≤ 2147483647 := has (vI i) (by simp)
  clear has
  replace hM : ∀ a i, -2147483648 ≤ σ a i ∧ σ a i ≤ 2147483647 := hM
  replace hT : TF_Model_sort o p i sz sl lay ρ σ τ k := hT
  unfold TF_Model_sort at hT
  obtain ⟨hL, U, len, A, hB, hi, hq, hT⟩ := hT
  obtain ⟨b1, b2, b3, b4, b5, b6, b7⟩ := (show MB σ o p U len A from hB)
  refine ⟨Nat.le_of_ble_eq_true rfl, fun _ _ _ => False, fun _ _ _ => 0, 32, ?_, fun _ _ _ _ _ _ h => h.elim⟩
  obtain ⟨mh, mp0, mp2, mp3, mp4, mp5, mp6, mp7, mp8, mp9, mp10, mp11, mp12, mp13, mp14, mp15, mp16, mp17, mp18, mp19, mp20, mp21, mp22, mp24, mp25, mp26, mp27, mq0, mq2, mq3, mq4, mq5, mq6, mq7, mq8, mq9, mq10, mq11, mq12, mq13, mq14, mq15, mq16, mq17, mq18, mq19, mq20, mq21, mq22, mq24, mq25, mq26, mq27⟩ := (show LModel lay ρ _ from hL)
  unfold wps
  simp only [si_iload_n0, si_iload_n1, si_iload_n2, si_iload_n3, si_iload, si_lload_n0, si_lload_n1, si_lload_n2, si_lload_n3, si_lload, si_aload_n0, si_aload_n1, si_aload_n2, si_aload_n3, si_aload, si_istore_n0, si_istore_n1, si_istore_n2, si_istore_n3, si_istore, si_astore_n0, si_astore_n1, si_astore_n2, si_astore_n3, si_astore, si_lstore_n0, si_lstore_n1, si_lstore_n2, si_lstore_n3, si_lstore, si_iconst, si_bipush, si_sipush, si_ldc, si_ldc2_w, si_lconst0, si_lconst1, si_aconst_null, si_iinc, si_dup, si_dup2, si_iadd, si_isub, si_imul, si_idiv, si_irem, si_iand, si_ior, si_ishl, si_ishr, si_ladd, si_lmul, si_lor, si_lxor, si_lshl, si_lushr, si_lcmp, si_i2b, si_i2l, si_l2i, si_icmp_eq, si_icmp_ne, si_icmp_lt, si_icmp_ge, si_icmp_gt, si_icmp_le, si_if_eq, si_if_ne, si_if_lt, si_if_ge, si_if_gt, si_if_le, si_ifnull, si_ifnonnull, si_goto, si_tableswitch, si_lookupswitch, si_getfield, si_putfield, si_getstatic, si_iaload, si_baload, si_laload, si_aaload, si_iastore, si_bastore, si_lastore, si_aastore, si_arraylength, si_new, si_newarray, si_anewarray, si_invokevirtual, si_invokespecial, si_invokestatic, si_ireturn, si_lreturn, si_areturn, si_return_, pI_e, pL_e, pR_e, pA_r, pA_n, pN_n, pN_r, oI_e, oL_e, oA_r, oA_n, lget_e, lrm1_0, lrm2_0, lrm1_i, lrm1_r, lrm1_n, lrm1_l, lrm2_i, lrm2_r, lrm2_n, lrm2_l, popN_0, popN_s, acat_i, acat_l, acat_r, acat_n, stw_0, stw_s, psh_s, psh_n, wgf_r, wgf_i, wgf_b, wgf_n, wgf_m, wpf_i, wpf_r, wpf_b, wnew_e, callE_e, rbk_0, rbk_1, tsw_0, tsw_s, lsw_0, lsw_s, wp_s, wq_t, wq_f, oV_e, pick_0, pick_s, oZ_e, oY_e, r_Model_sort_0, r_Model_sort_1, r_Model_sort_2, r_Model_sort_3, r_Model_sort_6, r_Model_sort_9, r_Model_sort_10, r_Model_sort_11, r_Model_sort_12, r_Model_sort_13, r_Model_sort_14, r_Model_sort_17, r_Model_sort_18, r_Model_sort_19, r_Model_sort_21, r_Model_sort_24, r_Model_sort_25, r_Model_sort_28, r_Model_sort_29, r_Model_sort_31, r_Model_sort_34, r_Model_sort_35, r_Model_sort_38, r_Model_sort_39, xf_Model_sort_47, xe_Model_sort_380, xd_Model_sort, xrb_Model_sort, xin_Model_sort, T_Model_at_e, TF_Model_at, mh, mp0, mp2, mp3, mp4, mp5, mp6, mp7, mp8, mp9, mp10, mp11, mp12, mp13, mp14, mp15, mp16, mp17, mp18, mp19, mp20, mp21, mp22, mp24, mp25, mp26, mp27, mq0, mq2, mq3, mq4, mq5, mq6, mq7, mq8, mq9, mq10, mq11, mq12, mq13, mq14, mq15, mq16, mq17, mq18, mq19, mq20, mq21, mq22, mq24, mq25, mq26, mq27, Nat.reduceAdd, Nat.reduceMul, Nat.reduceEqDiff, reduceIte, Int.reduceNeg, Int.reduceLE, Int.reduceLT, Int.reduceAdd, Int.reduceSub, Int.reduceToNat, true_and, and_true, inR_e, Nat.reduceLT, Nat.reduceLeDiff, reduceCtorEq, Nat.add_zero, Nat.zero_add, or_false, false_or, or_true, true_or, not_true_eq_false, not_false_eq_true, Classical.not_not, Nat.add_eq_zero_iff, and_false, false_and, Int.reduceEq, List.mem_cons, List.not_mem_nil, forall_eq_or_imp, forall_eq, false_implies, implies_true, forall_const, aargs_0, aargs_i, aargs_r, aargs_l, aargs_n, nfT_e, eq_self, and_self, Nat.le_refl, fu_s, fu_fu, iu_iu, iu_s, fu_am, fu_a0, fu_0a, iu_l, Nat.reduceBEq, Int.reduceBEq, T_objInit_e]
  clear mp0 mp2 mp3 mp4 mp5 mp6 mp7 mp8 mp9 mp10 mp11 mp12 mp13 mp14 mp15 mp16 mp17 mp18 mp19 mp20 mp21 mp22 mp24 mp25 mp26 mp27
  rw [b3 (σ (o + 13) (600 * p + i)) (by omega)]
  unfold srt at hT
  refine ⟨by omega, by omega, by omega, by omega, hL, b1, by omega, fun a => ⟨fun b => ?_, fun b => ?_⟩, fun a => ?_⟩
  · rw [if_neg a, if_neg b] at hT; exact hT
  · rw [if_neg a, if_pos b] at hT; exact hT
  · rw [if_pos a] at hT; exact hT
def TF_Model_has (o : Nat) (p : Int) (i : Int) (n : Int) (sz sl : Nat) (lay : Nat → Nat × Int) (ρ : Nat → Int → Nat) (σ : Nat → Int → Int) (τ : Nat → Int → Int64) (k : Option AV → Mm → Prop) : Prop := LModel lay ρ o ∧ (0 ≤ p ∧ p < 3) ∧ (0 ≤ i ∧ i ≤ 100000) ∧ (0 ≤ n ∧ n ≤ 100000) ∧ (i + n ≤ σ (o + 3) p → k (some (vI (1))) (sz, sl, lay, ρ, σ, τ)) ∧ (¬ (i + n ≤ σ (o + 3) p) → k (some (vI (0))) (sz, sl, lay, ρ, σ, τ))
def T_Model_has : Tr := mkT 11 fun o as M k => pI as fun p as => pI as fun i as => pI as fun n as => as = [] ∧ TF_Model_has o p i n M.1 M.2.1 M.2.2.1 M.2.2.2.1 M.2.2.2.2.1 M.2.2.2.2.2 k
theorem T_Model_has_e {o : Nat} {p : Int} {i : Int} {n : Int} {sz sl : Nat} {lay : Nat → Nat × Int} {ρ : Nat → Int → Nat} {σ : Nat → Int → Int} {τ : Nat → Int → Int64} {k : Option AV → Mm → Prop} : T_Model_has [vR o, vI p, vI i, vI n] (sz, sl, lay, ρ, σ, τ) k = (lay o = (21, 0) ∧ TF_Model_has o p i n sz sl lay ρ σ τ k) := by simp [T_Model_has, mkT_e, pI_e, pR_e, pL_e]
theorem T_Model_has_r (as : List AV) (M : Mm) (k : Option AV → Mm → Prop) (h : T_Model_has as M k) : ∃ b As, as = vR b :: As ∧ M.2.2.1 b = (10 + 11, 0) := by
  obtain ⟨b, As, h1, h2, -⟩ := mkT_r h
  exact ⟨b, As, h1, h2⟩
def tb_Model_has : List (Nat × Option (List Nat) × Instr × List Nat) := [(0, none, .iload_n 2, []), (1, none, .iload_n 3, []), (2, none, .iadd, []), (3, none, .aload_n 0, []), (4, none, .getfield 16, []), (7, none, .iload_n 1, []), (8, none, .iaload, []), (9, none, .if_icmp .gt 7, [16]), (12, none, .iconst 1, []), (13, none, .goto 4, [17]), (16, none, .iconst 0, []), (17, none, .ireturn, [])]
def P_Model_has : Nat → Option (List Nat) × Instr × List Nat := plk tb_Model_has
theorem r_Model_has_0 : P_Model_has 0 = (none, .iload_n 2, []) := by decide +kernel
theorem r_Model_has_1 : P_Model_has 1 = (none, .iload_n 3, []) := by decide +kernel
theorem r_Model_has_2 : P_Model_has 2 = (none, .iadd, []) := by decide +kernel
theorem r_Model_has_3 : P_Model_has 3 = (none, .aload_n 0, []) := by decide +kernel
theorem r_Model_has_4 : P_Model_has 4 = (none, .getfield 16, []) := by decide +kernel
theorem r_Model_has_7 : P_Model_has 7 = (none, .iload_n 1, []) := by decide +kernel
theorem r_Model_has_8 : P_Model_has 8 = (none, .iaload, []) := by decide +kernel
theorem r_Model_has_9 : P_Model_has 9 = (none, .if_icmp .gt 7, [16]) := by decide +kernel
theorem r_Model_has_12 : P_Model_has 12 = (none, .iconst 1, []) := by decide +kernel
theorem r_Model_has_13 : P_Model_has 13 = (none, .goto 4, [17]) := by decide +kernel
theorem r_Model_has_16 : P_Model_has 16 = (none, .iconst 0, []) := by decide +kernel
theorem r_Model_has_17 : P_Model_has 17 = (none, .ireturn, []) := by decide +kernel
def E_Model_has : List (Nat × Ent) := []
def X_Model_has : Cx := (llk (0, 0, 9) ftX11, llk 99 ntX11, llk none kcX11, llk none klX11, llk dEnt E_Model_has, 0, 1, false)
theorem xok_Model_has : Xok RX11 X_Model_has := xok_of ftX11_ok ntX11_ok kcX11_ok klX11_ok (E := E_Model_has) (fun _ h => absurd h List.not_mem_nil)
theorem xf_Model_has_16 : xfl X_Model_has 16 = (11, 3, 1) := by decide +kernel
theorem xd_Model_has : xd X_Model_has = 0 := rfl
theorem xrb_Model_has : xrb X_Model_has = 1 := rfl
theorem xin_Model_has : xin X_Model_has = false := rfl
set_option maxHeartbeats 4000000 in
set_option maxRecDepth 100000 in
theorem S_Model_has : Snd yX11_has cX11_has 4 (some .boolean) T_Model_has 0 0 0 := by
  refine snd_of (X := X_Model_has) (P := P_Model_has) (tb := tb_Model_has) (own := RX11) (by decide) rfl rfl (by decide +kernel) xok_Model_has rfl rk1 (fun h => by first | rfl | cases h) ?_
  intro as M k has hM hT0
  obtain ⟨sz, sl, lay, ρ, σ, τ⟩ := M
  obtain ⟨o, as1, e, hlo, hT1⟩ := mkT_r hT0
  clear hT0
  subst e
  obtain ⟨p, as2, e, hT2⟩ := pI_x hT1
  clear hT1
  subst e
  obtain ⟨i, as3, e, hT3⟩ := pI_x hT2
  clear hT2
  subst e
  obtain ⟨n, as4, e, hT4⟩ := pI_x hT3
  clear hT3
  subst e
  obtain ⟨e, hT⟩ := hT4
  subst e
  replace hlo : lay o = (21, 0) := hlo
  have r_p : -2147483648 ≤ p ∧ p ≤ 2147483647 := has (vI p) (by simp)
  have r_i : -2147483648 ≤ i ∧ i ≤ 2147483647 := has (vI i) (by simp)
  have r_n : -2147483648 ≤ n ∧ n ≤ 2147483647 := has (vI n) (by simp)
  clear has
  replace hM : ∀ a i, -2147483648 ≤ σ a i ∧ σ a i ≤ 2147483647 := hM
  replace hT : TF_Model_has o p i n sz sl lay ρ σ τ k := hT
  unfold TF_Model_has at hT
  obtain ⟨hL, hp, hi, hn, h1, h0⟩ := hT
  refine ⟨Nat.le_of_ble_eq_true rfl, fun _ _ _ => False, fun _ _ _ => 0, 20, ?_, fun _ _ _ _ _ _ h => h.elim⟩
  obtain ⟨mh, mp0, mp2, mp3, mp4, mp5, mp6, mp7, mp8, mp9, mp10, mp11, mp12, mp13, mp14, mp15, mp16, mp17, mp18, mp19, mp20, mp21, mp22, mp24, mp25, mp26, mp27, mq0, mq2, mq3, mq4, mq5, mq6, mq7, mq8, mq9, mq10, mq11, mq12, mq13, mq14, mq15, mq16, mq17, mq18, mq19, mq20, mq21, mq22, mq24, mq25, mq26, mq27⟩ := (show LModel lay ρ _ from hL)
  unfold wps
  simp only [si_iload_n0, si_iload_n1, si_iload_n2, si_iload_n3, si_iload, si_lload_n0, si_lload_n1, si_lload_n2, si_lload_n3, si_lload, si_aload_n0, si_aload_n1, si_aload_n2, si_aload_n3, si_aload, si_istore_n0, si_istore_n1, si_istore_n2, si_istore_n3, si_istore, si_astore_n0, si_astore_n1, si_astore_n2, si_astore_n3, si_astore, si_lstore_n0, si_lstore_n1, si_lstore_n2, si_lstore_n3, si_lstore, si_iconst, si_bipush, si_sipush, si_ldc, si_ldc2_w, si_lconst0, si_lconst1, si_aconst_null, si_iinc, si_dup, si_dup2, si_iadd, si_isub, si_imul, si_idiv, si_irem, si_iand, si_ior, si_ishl, si_ishr, si_ladd, si_lmul, si_lor, si_lxor, si_lshl, si_lushr, si_lcmp, si_i2b, si_i2l, si_l2i, si_icmp_eq, si_icmp_ne, si_icmp_lt, si_icmp_ge, si_icmp_gt, si_icmp_le, si_if_eq, si_if_ne, si_if_lt, si_if_ge, si_if_gt, si_if_le, si_ifnull, si_ifnonnull, si_goto, si_tableswitch, si_lookupswitch, si_getfield, si_putfield, si_getstatic, si_iaload, si_baload, si_laload, si_aaload, si_iastore, si_bastore, si_lastore, si_aastore, si_arraylength, si_new, si_newarray, si_anewarray, si_invokevirtual, si_invokespecial, si_invokestatic, si_ireturn, si_lreturn, si_areturn, si_return_, pI_e, pL_e, pR_e, pA_r, pA_n, pN_n, pN_r, oI_e, oL_e, oA_r, oA_n, lget_e, lrm1_0, lrm2_0, lrm1_i, lrm1_r, lrm1_n, lrm1_l, lrm2_i, lrm2_r, lrm2_n, lrm2_l, popN_0, popN_s, acat_i, acat_l, acat_r, acat_n, stw_0, stw_s, psh_s, psh_n, wgf_r, wgf_i, wgf_b, wgf_n, wgf_m, wpf_i, wpf_r, wpf_b, wnew_e, callE_e, rbk_0, rbk_1, tsw_0, tsw_s, lsw_0, lsw_s, wp_s, wq_t, wq_f, oV_e, pick_0, pick_s, oZ_e, oY_e, r_Model_has_0, r_Model_has_1, r_Model_has_2, r_Model_has_3, r_Model_has_4, r_Model_has_7, r_Model_has_8, r_Model_has_9, r_Model_has_12, r_Model_has_13, r_Model_has_16, r_Model_has_17, xf_Model_has_16, xd_Model_has, xrb_Model_has, xin_Model_has, mh, mp0, mp2, mp3, mp4, mp5, mp6, mp7, mp8, mp9, mp10, mp11, mp12, mp13, mp14, mp15, mp16, mp17, mp18, mp19, mp20, mp21, mp22, mp24, mp25, mp26, mp27, mq0, mq2, mq3, mq4, mq5, mq6, mq7, mq8, mq9, mq10, mq11, mq12, mq13, mq14, mq15, mq16, mq17, mq18, mq19, mq20, mq21, mq22, mq24, mq25, mq26, mq27, Nat.reduceAdd, Nat.reduceMul, Nat.reduceEqDiff, reduceIte, Int.reduceNeg, Int.reduceLE, Int.reduceLT, Int.reduceAdd, Int.reduceSub, Int.reduceToNat, true_and, and_true, inR_e, Nat.reduceLT, Nat.reduceLeDiff, reduceCtorEq, Nat.add_zero, Nat.zero_add, or_false, false_or, or_true, true_or, not_true_eq_false, not_false_eq_true, Classical.not_not, Nat.add_eq_zero_iff, and_false, false_and, Int.reduceEq, List.mem_cons, List.not_mem_nil, forall_eq_or_imp, forall_eq, false_implies, implies_true, forall_const, aargs_0, aargs_i, aargs_r, aargs_l, aargs_n, nfT_e, eq_self, and_self, Nat.le_refl, fu_s, fu_fu, iu_iu, iu_s, fu_am, fu_a0, fu_0a, iu_l, Nat.reduceBEq, Int.reduceBEq, T_objInit_e]
  clear mp0 mp2 mp3 mp4 mp5 mp6 mp7 mp8 mp9 mp10 mp11 mp12 mp13 mp14 mp15 mp16 mp17 mp18 mp19 mp20 mp21 mp22 mp24 mp25 mp26 mp27
  repeat' (first | assumption | intro _ | apply And.intro)
  all_goals first | omega | assumption | (exact h1 (by omega)) | (exact h0 (by omega)) | (exact h1 ⟨by omega, by omega⟩) | (exact h0 ⟨by omega, by omega⟩) | (exact h1 ⟨by omega, by omega, by omega⟩) | (exact h0 ⟨by omega, by omega, by omega⟩)

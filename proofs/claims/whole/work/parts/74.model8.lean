theorem vZ5 {U A : Int → Int} {q k : Int} (hU : ∀ x, 0 ≤ U x ∧ U x < 256) (e : sA U A q k = 5) : 0 ≤ vZ U A q k ∧ vZ U A q k < 65536 := by
  unfold vZ vS
  rw [e, if_pos (Or.inl rfl), wd_5]
  have h1 := hU (vP U A q k)
  have h2 := hU (vP U A q k + 1)
  show 0 ≤ (0 * 256 + U (vP U A q k)) * 256 + U (vP U A q k + 1) ∧ (0 * 256 + U (vP U A q k)) * 256 + U (vP U A q k + 1) < 65536
  omega
theorem vZ4 {U A : Int → Int} {q k : Int} (hU : ∀ x, 0 ≤ U x ∧ U x < 256) (e : sA U A q k = 4) : 0 ≤ vZ U A q k ∧ vZ U A q k < 256 := by
  unfold vZ vS
  rw [e, if_pos (Or.inr rfl), wd_4]
  have h1 := hU (vP U A q k)
  show 0 ≤ 0 * 256 + U (vP U A q k) ∧ 0 * 256 + U (vP U A q k) < 256
  omega
theorem ofI64 {a b : Int} (ha : 0 ≤ a ∧ a < 65536) (hb : 0 ≤ b ∧ b < 65536) : Int64.ofInt a = Int64.ofInt b ↔ a = b := by
  constructor
  · intro h
    have := congrArg Int64.toInt h
    rw [toIL (by unfold inRL; omega), toIL (by unfold inRL; omega)] at this
    exact this
  · intro h
    rw [h]
theorem cmp0 {a : Int} (ha : 0 ≤ a ∧ a < 65536) : cmpL (Int64.ofInt a) 0 = 0 ↔ a = 0 := by
  rw [cmpL_eq]
  exact ofI64 ha (b := 0) (by omega)
theorem cmp1 {a : Int} (ha : 0 ≤ a ∧ a < 65536) : cmpL (Int64.ofInt a) 1 = 0 ↔ a = 1 := by
  rw [cmpL_eq]
  exact ofI64 ha (b := 1) (by omega)
theorem co_X11_548 : CallOK RX11 (.invokevirtual 137) (4, 5, 0, 0, T_Model_valueAt) := call_V S_Model_valueAt (by decide) (ci := 11) rfl (by decide +kernel) (by decide +kernel) (by decide +kernel) (by decide +kernel) (by decide +kernel) (by decide +kernel) T_Model_valueAt_r
def TF_Model_refsNotZero (o : Nat) (p : Int) (q : Int) (sz sl : Nat) (lay : Nat → Nat × Int) (ρ : Nat → Int → Nat) (σ : Nat → Int → Int) (τ : Nat → Int → Int64) (k : Option AV → Mm → Prop) : Prop := LModel lay ρ o ∧ ∃ (U : Int → Int) (len : Int) (A : Int → Int), MB σ o p U len A ∧ TV U len A q ∧ ∀ c : Int → Int, k (some (vI (rz U A q))) (sz, sl, lay, ρ, fu σ (o + 23) c, τ)
def T_Model_refsNotZero : Tr := mkT 11 fun o as M k => pI as fun p as => pI as fun q as => as = [] ∧ TF_Model_refsNotZero o p q M.1 M.2.1 M.2.2.1 M.2.2.2.1 M.2.2.2.2.1 M.2.2.2.2.2 k
theorem T_Model_refsNotZero_e {o : Nat} {p : Int} {q : Int} {sz sl : Nat} {lay : Nat → Nat × Int} {ρ : Nat → Int → Nat} {σ : Nat → Int → Int} {τ : Nat → Int → Int64} {k : Option AV → Mm → Prop} : T_Model_refsNotZero [vR o, vI p, vI q] (sz, sl, lay, ρ, σ, τ) k = (lay o = (21, 0) ∧ TF_Model_refsNotZero o p q sz sl lay ρ σ τ k) := by simp [T_Model_refsNotZero, mkT_e, pI_e, pR_e, pL_e]
theorem T_Model_refsNotZero_r (as : List AV) (M : Mm) (k : Option AV → Mm → Prop) (h : T_Model_refsNotZero as M k) : ∃ b As, as = vR b :: As ∧ M.2.2.1 b = (10 + 11, 0) := by
  obtain ⟨b, As, h1, h2, -⟩ := mkT_r h
  exact ⟨b, As, h1, h2⟩
def tb_Model_refsNotZero : List (Nat × Option (List Nat) × Instr × List Nat) := [(0, none, .aload_n 0, []), (1, none, .iload_n 1, []), (2, none, .iload_n 2, []), (3, none, .invokevirtual 131, []), (6, none, .istore_n 3, []), (7, none, .iconst 0, []), (8, none, .istore 4, []), (10, none, .iconst 0, []), (11, none, .istore 5, []), (13, some [0, 1, 2, 3, 4, 5], .iload 5, []), (15, none, .iload_n 3, []), (16, none, .if_icmp .ge 44, [60]), (19, none, .iload 4, []), (21, none, .aload_n 0, []), (22, none, .iload_n 1, []), (23, none, .iload_n 2, []), (24, none, .iload 5, []), (26, none, .invokevirtual 121, []), (29, none, .iconst 5, []), (30, none, .if_icmp .ne 20, [50]), (33, none, .aload_n 0, []), (34, none, .iload_n 1, []), (35, none, .iload_n 2, []), (36, none, .iload 5, []), (38, none, .invokevirtual 137, []), (41, none, .lconst 0, []), (42, none, .lcmp, []), (43, none, .ifCond .eq 7, [50]), (46, none, .iconst 1, []), (47, none, .goto 4, [51]), (50, none, .iconst 0, []), (51, none, .iadd, []), (52, none, .istore 4, []), (54, none, .iinc 5 1, []), (57, none, .goto (-44), [13]), (60, none, .iload 4, []), (62, none, .ireturn, [])]
def P_Model_refsNotZero : Nat → Option (List Nat) × Instr × List Nat := plk tb_Model_refsNotZero
theorem r_Model_refsNotZero_0 : P_Model_refsNotZero 0 = (none, .aload_n 0, []) := by decide +kernel
theorem r_Model_refsNotZero_1 : P_Model_refsNotZero 1 = (none, .iload_n 1, []) := by decide +kernel
theorem r_Model_refsNotZero_2 : P_Model_refsNotZero 2 = (none, .iload_n 2, []) := by decide +kernel
theorem r_Model_refsNotZero_3 : P_Model_refsNotZero 3 = (none, .invokevirtual 131, []) := by decide +kernel
theorem r_Model_refsNotZero_6 : P_Model_refsNotZero 6 = (none, .istore_n 3, []) := by decide +kernel
theorem r_Model_refsNotZero_7 : P_Model_refsNotZero 7 = (none, .iconst 0, []) := by decide +kernel
theorem r_Model_refsNotZero_8 : P_Model_refsNotZero 8 = (none, .istore 4, []) := by decide +kernel
theorem r_Model_refsNotZero_10 : P_Model_refsNotZero 10 = (none, .iconst 0, []) := by decide +kernel
theorem r_Model_refsNotZero_11 : P_Model_refsNotZero 11 = (none, .istore 5, []) := by decide +kernel
theorem r_Model_refsNotZero_13 : P_Model_refsNotZero 13 = (some [0, 1, 2, 3, 4, 5], .iload 5, []) := by decide +kernel
theorem r_Model_refsNotZero_15 : P_Model_refsNotZero 15 = (none, .iload_n 3, []) := by decide +kernel
theorem r_Model_refsNotZero_16 : P_Model_refsNotZero 16 = (none, .if_icmp .ge 44, [60]) := by decide +kernel
theorem r_Model_refsNotZero_19 : P_Model_refsNotZero 19 = (none, .iload 4, []) := by decide +kernel
theorem r_Model_refsNotZero_21 : P_Model_refsNotZero 21 = (none, .aload_n 0, []) := by decide +kernel
theorem r_Model_refsNotZero_22 : P_Model_refsNotZero 22 = (none, .iload_n 1, []) := by decide +kernel
theorem r_Model_refsNotZero_23 : P_Model_refsNotZero 23 = (none, .iload_n 2, []) := by decide +kernel
theorem r_Model_refsNotZero_24 : P_Model_refsNotZero 24 = (none, .iload 5, []) := by decide +kernel
theorem r_Model_refsNotZero_26 : P_Model_refsNotZero 26 = (none, .invokevirtual 121, []) := by decide +kernel
theorem r_Model_refsNotZero_29 : P_Model_refsNotZero 29 = (none, .iconst 5, []) := by decide +kernel
theorem r_Model_refsNotZero_30 : P_Model_refsNotZero 30 = (none, .if_icmp .ne 20, [50]) := by decide +kernel
theorem r_Model_refsNotZero_33 : P_Model_refsNotZero 33 = (none, .aload_n 0, []) := by decide +kernel
theorem r_Model_refsNotZero_34 : P_Model_refsNotZero 34 = (none, .iload_n 1, []) := by decide +kernel
theorem r_Model_refsNotZero_35 : P_Model_refsNotZero 35 = (none, .iload_n 2, []) := by decide +kernel
theorem r_Model_refsNotZero_36 : P_Model_refsNotZero 36 = (none, .iload 5, []) := by decide +kernel
theorem r_Model_refsNotZero_38 : P_Model_refsNotZero 38 = (none, .invokevirtual 137, []) := by decide +kernel
theorem r_Model_refsNotZero_41 : P_Model_refsNotZero 41 = (none, .lconst 0, []) := by decide +kernel
theorem r_Model_refsNotZero_42 : P_Model_refsNotZero 42 = (none, .lcmp, []) := by decide +kernel
theorem r_Model_refsNotZero_43 : P_Model_refsNotZero 43 = (none, .ifCond .eq 7, [50]) := by decide +kernel
theorem r_Model_refsNotZero_46 : P_Model_refsNotZero 46 = (none, .iconst 1, []) := by decide +kernel
theorem r_Model_refsNotZero_47 : P_Model_refsNotZero 47 = (none, .goto 4, [51]) := by decide +kernel
theorem r_Model_refsNotZero_50 : P_Model_refsNotZero 50 = (none, .iconst 0, []) := by decide +kernel
theorem r_Model_refsNotZero_51 : P_Model_refsNotZero 51 = (none, .iadd, []) := by decide +kernel
theorem r_Model_refsNotZero_52 : P_Model_refsNotZero 52 = (none, .istore 4, []) := by decide +kernel
theorem r_Model_refsNotZero_54 : P_Model_refsNotZero 54 = (none, .iinc 5 1, []) := by decide +kernel
theorem r_Model_refsNotZero_57 : P_Model_refsNotZero 57 = (none, .goto (-44), [13]) := by decide +kernel
theorem r_Model_refsNotZero_60 : P_Model_refsNotZero 60 = (none, .iload 4, []) := by decide +kernel
theorem r_Model_refsNotZero_62 : P_Model_refsNotZero 62 = (none, .ireturn, []) := by decide +kernel
def E_Model_refsNotZero : List (Nat × Ent) := [(484, (4, 3, 0, 0, T_Model_sortAt)), (524, (3, 3, 0, 0, T_Model_valuesAt)), (548, (4, 5, 0, 0, T_Model_valueAt))]
def X_Model_refsNotZero : Cx := (llk (0, 0, 9) ftX11, llk 99 ntX11, llk none kcX11, llk none klX11, llk dEnt E_Model_refsNotZero, 6, 0, false)
theorem xok_Model_refsNotZero : Xok RX11 X_Model_refsNotZero := xok_of ftX11_ok ntX11_ok kcX11_ok klX11_ok (E := E_Model_refsNotZero) (List.forall_mem_cons.mpr ⟨co_X11_484, List.forall_mem_cons.mpr ⟨co_X11_524, List.forall_mem_cons.mpr ⟨co_X11_548, fun _ h => absurd h List.not_mem_nil⟩⟩⟩)
theorem xe_Model_refsNotZero_484 : xE X_Model_refsNotZero (4 * 121 + 0) = (4, 3, 0, 0, T_Model_sortAt) := rfl
theorem xe_Model_refsNotZero_524 : xE X_Model_refsNotZero (4 * 131 + 0) = (3, 3, 0, 0, T_Model_valuesAt) := rfl
theorem xe_Model_refsNotZero_548 : xE X_Model_refsNotZero (4 * 137 + 0) = (4, 5, 0, 0, T_Model_valueAt) := rfl
theorem xd_Model_refsNotZero : xd X_Model_refsNotZero = 6 := rfl
theorem xrb_Model_refsNotZero : xrb X_Model_refsNotZero = 0 := rfl
theorem xin_Model_refsNotZero : xin X_Model_refsNotZero = false := rfl
set_option maxHeartbeats 4000000 in
set_option maxRecDepth 100000 in
theorem S_Model_refsNotZero : Snd yX11_refsNotZero cX11_refsNotZero 6 (some .int) T_Model_refsNotZero 6 0 0 := by
  refine snd_of (X := X_Model_refsNotZero) (P := P_Model_refsNotZero) (tb := tb_Model_refsNotZero) (own := RX11) (by decide) rfl rfl (by decide +kernel) xok_Model_refsNotZero rfl rk0 (fun h => by first | rfl | cases h) ?_
  intro as M k has hM hT0
  obtain ⟨sz, sl, lay, ρ, σ, τ⟩ := M
  obtain ⟨o, as1, e, hlo, hT1⟩ := mkT_r hT0
  clear hT0
  subst e
  obtain ⟨p, as2, e, hT2⟩ := pI_x hT1
  clear hT1
  subst e
  obtain ⟨q, as3, e, hT3⟩ := pI_x hT2
  clear hT2
  subst e
  obtain ⟨e, hT⟩ := hT3
  subst e
  replace hlo : lay o = (21, 0) := hlo
  have r_p : -2147483648 ≤ p ∧ p ≤ 2147483647 := has (vI p) (by simp)
  have r_q : -2147483648 ≤ q ∧ q ≤ 2147483647 := has (vI q) (by simp)
  clear has
  replace hM : ∀ a i, -2147483648 ≤ σ a i ∧ σ a i ≤ 2147483647 := hM
  replace hT : TF_Model_refsNotZero o p q sz sl lay ρ σ τ k := hT
  unfold TF_Model_refsNotZero at hT
  obtain ⟨hL, U, len, A, hB, ⟨htp, hen⟩, hT⟩ := hT
  obtain ⟨b1, b2, b3, b4, b5, b6, b7⟩ := (show MB σ o p U len A from hB)
  obtain ⟨J, hJd⟩ : ∃ J : Nat → List AV → Mm → Prop, J = (fun c vs M1 => c = 13 ∧ ∃ (c : Int → Int) (i : Nat), (i : Int) ≤ nV U A q ∧ vs = [vR o, vI p, vI q, vI (nV U A q), vI (cntZ (fun k => decide (sA U A q k = 5 ∧ ¬ vZ U A q k = 0)) i), vI (i : Int)] ∧ M1 = (sz, sl, lay, ρ, fu σ (o + 23) c, τ)) := ⟨_, rfl⟩
  obtain ⟨μ, hμ⟩ : ∃ μ : Nat → List AV → Mm → Nat, μ = (fun _ vs _ => (1000 - gI (vs.getD 5 vN)).toNat) := ⟨_, rfl⟩
  refine ⟨Nat.le_of_ble_eq_true rfl, J, μ, 45, ?_, ?_⟩
  · obtain ⟨mh, mp0, mp2, mp3, mp4, mp5, mp6, mp7, mp8, mp9, mp10, mp11, mp12, mp13, mp14, mp15, mp16, mp17, mp18, mp19, mp20, mp21, mp22, mp24, mp25, mp26, mp27, mq0, mq2, mq3, mq4, mq5, mq6, mq7, mq8, mq9, mq10, mq11, mq12, mq13, mq14, mq15, mq16, mq17, mq18, mq19, mq20, mq21, mq22, mq24, mq25, mq26, mq27⟩ := (show LModel lay ρ _ from hL)
    unfold wps
    simp only [si_iload_n0, si_iload_n1, si_iload_n2, si_iload_n3, si_iload, si_lload_n0, si_lload_n1, si_lload_n2, si_lload_n3, si_lload, si_aload_n0, si_aload_n1, si_aload_n2, si_aload_n3, si_aload, si_istore_n0, si_istore_n1, si_istore_n2, si_istore_n3, si_istore, si_astore_n0, si_astore_n1, si_astore_n2, si_astore_n3, si_astore, si_lstore_n0, si_lstore_n1, si_lstore_n2, si_lstore_n3, si_lstore, si_iconst, si_bipush, si_sipush, si_ldc, si_ldc2_w, si_lconst0, si_lconst1, si_aconst_null, si_iinc, si_dup, si_dup2, si_iadd, si_isub, si_imul, si_idiv, si_irem, si_iand, si_ior, si_ishl, si_ishr, si_ladd, si_lmul, si_lor, si_lxor, si_lshl, si_lushr, si_lcmp, si_i2b, si_i2l, si_l2i, si_icmp_eq, si_icmp_ne, si_icmp_lt, si_icmp_ge, si_icmp_gt, si_icmp_le, si_if_eq, si_if_ne, si_if_lt, si_if_ge, si_if_gt, si_if_le, si_ifnull, si_ifnonnull, si_goto, si_tableswitch, si_lookupswitch, si_getfield, si_putfield, si_getstatic, si_iaload, si_baload, si_laload, si_aaload, si_iastore, si_bastore, si_lastore, si_aastore, si_arraylength, si_new, si_newarray, si_anewarray, si_invokevirtual, si_invokespecial, si_invokestatic, si_ireturn, si_lreturn, si_areturn, si_return_, pI_e, pL_e, pR_e, pA_r, pA_n, pN_n, pN_r, oI_e, oL_e, oA_r, oA_n, lget_e, lrm1_0, lrm2_0, lrm1_i, lrm1_r, lrm1_n, lrm1_l, lrm2_i, lrm2_r, lrm2_n, lrm2_l, popN_0, popN_s, acat_i, acat_l, acat_r, acat_n, stw_0, stw_s, psh_s, psh_n, wgf_r, wgf_i, wgf_b, wgf_n, wgf_m, wpf_i, wpf_r, wpf_b, wnew_e, callE_e, rbk_0, rbk_1, tsw_0, tsw_s, lsw_0, lsw_s, wp_s, wq_t, wq_f, oV_e, pick_0, pick_s, oZ_e, oY_e, r_Model_refsNotZero_0, r_Model_refsNotZero_1, r_Model_refsNotZero_2, r_Model_refsNotZero_3, r_Model_refsNotZero_6, r_Model_refsNotZero_7, r_Model_refsNotZero_8, r_Model_refsNotZero_10, r_Model_refsNotZero_11, r_Model_refsNotZero_13, r_Model_refsNotZero_15, r_Model_refsNotZero_16, r_Model_refsNotZero_19, r_Model_refsNotZero_21, r_Model_refsNotZero_22, r_Model_refsNotZero_23, r_Model_refsNotZero_24, r_Model_refsNotZero_26, r_Model_refsNotZero_29, r_Model_refsNotZero_30, r_Model_refsNotZero_33, r_Model_refsNotZero_34, r_Model_refsNotZero_35, r_Model_refsNotZero_36, r_Model_refsNotZero_38, r_Model_refsNotZero_41, r_Model_refsNotZero_42, r_Model_refsNotZero_43, r_Model_refsNotZero_46, r_Model_refsNotZero_47, r_Model_refsNotZero_50, r_Model_refsNotZero_51, r_Model_refsNotZero_52, r_Model_refsNotZero_54, r_Model_refsNotZero_57, r_Model_refsNotZero_60, r_Model_refsNotZero_62, xe_Model_refsNotZero_484, xe_Model_refsNotZero_524, xe_Model_refsNotZero_548, xd_Model_refsNotZero, xrb_Model_refsNotZero, xin_Model_refsNotZero, T_Model_sortAt_e, TF_Model_sortAt, T_Model_valuesAt_e, TF_Model_valuesAt, T_Model_valueAt_e, TF_Model_valueAt, mh, mp0, mp2, mp3, mp4, mp5, mp6, mp7, mp8, mp9, mp10, mp11, mp12, mp13, mp14, mp15, mp16, mp17, mp18, mp19, mp20, mp21, mp22, mp24, mp25, mp26, mp27, mq0, mq2, mq3, mq4, mq5, mq6, mq7, mq8, mq9, mq10, mq11, mq12, mq13, mq14, mq15, mq16, mq17, mq18, mq19, mq20, mq21, mq22, mq24, mq25, mq26, mq27, Nat.reduceAdd, Nat.reduceMul, Nat.reduceEqDiff, reduceIte, Int.reduceNeg, Int.reduceLE, Int.reduceLT, Int.reduceAdd, Int.reduceSub, Int.reduceToNat, true_and, and_true, inR_e, Nat.reduceLT, Nat.reduceLeDiff, reduceCtorEq, Nat.add_zero, Nat.zero_add, or_false, false_or, or_true, true_or, not_true_eq_false, not_false_eq_true, Classical.not_not, Nat.add_eq_zero_iff, and_false, false_and, Int.reduceEq, List.mem_cons, List.not_mem_nil, forall_eq_or_imp, forall_eq, false_implies, implies_true, forall_const, aargs_0, aargs_i, aargs_r, aargs_l, aargs_n, nfT_e, eq_self, and_self, Nat.le_refl, fu_s, fu_fu, iu_iu, iu_s, fu_am, fu_a0, fu_0a, iu_l, Nat.reduceBEq, Int.reduceBEq, T_objInit_e]
    clear mp0 mp2 mp3 mp4 mp5 mp6 mp7 mp8 mp9 mp10 mp11 mp12 mp13 mp14 mp15 mp16 mp17 mp18 mp19 mp20 mp21 mp22 mp24 mp25 mp26 mp27
    refine ⟨hL, U, len, A, hB, htp, fun c => ?_⟩
    have nv := htp.1.nv b5
    rw [hJd]
    exact ⟨rfl, c, 0, by omega, rfl, rfl⟩
  · intro cp vs M1 hvs hM1 hlen hJ
    rw [hJd] at hJ
    obtain ⟨rfl, c, i, hi, rfl, rfl⟩ := hJ
    have ht := htp.1
    have nv := ht.nv b5
    have cz := cntZ_R (fun k => decide (sA U A q k = 5 ∧ ¬ vZ U A q k = 0)) i
    (obtain ⟨mh, mp0, mp2, mp3, mp4, mp5, mp6, mp7, mp8, mp9, mp10, mp11, mp12, mp13, mp14, mp15, mp16, mp17, mp18, mp19, mp20, mp21, mp22, mp24, mp25, mp26, mp27, mq0, mq2, mq3, mq4, mq5, mq6, mq7, mq8, mq9, mq10, mq11, mq12, mq13, mq14, mq15, mq16, mq17, mq18, mq19, mq20, mq21, mq22, mq24, mq25, mq26, mq27⟩ := (show LModel lay ρ _ from hL); unfold wps; simp only [Option.getD_some, List.zip_cons_cons, List.zip_nil_left, List.zip_nil_right, List.zip_nil_right, MB_fu, si_iload_n0, si_iload_n1, si_iload_n2, si_iload_n3, si_iload, si_lload_n0, si_lload_n1, si_lload_n2, si_lload_n3, si_lload, si_aload_n0, si_aload_n1, si_aload_n2, si_aload_n3, si_aload, si_istore_n0, si_istore_n1, si_istore_n2, si_istore_n3, si_istore, si_astore_n0, si_astore_n1, si_astore_n2, si_astore_n3, si_astore, si_lstore_n0, si_lstore_n1, si_lstore_n2, si_lstore_n3, si_lstore, si_iconst, si_bipush, si_sipush, si_ldc, si_ldc2_w, si_lconst0, si_lconst1, si_aconst_null, si_iinc, si_dup, si_dup2, si_iadd, si_isub, si_imul, si_idiv, si_irem, si_iand, si_ior, si_ishl, si_ishr, si_ladd, si_lmul, si_lor, si_lxor, si_lshl, si_lushr, si_lcmp, si_i2b, si_i2l, si_l2i, si_icmp_eq, si_icmp_ne, si_icmp_lt, si_icmp_ge, si_icmp_gt, si_icmp_le, si_if_eq, si_if_ne, si_if_lt, si_if_ge, si_if_gt, si_if_le, si_ifnull, si_ifnonnull, si_goto, si_tableswitch, si_lookupswitch, si_getfield, si_putfield, si_getstatic, si_iaload, si_baload, si_laload, si_aaload, si_iastore, si_bastore, si_lastore, si_aastore, si_arraylength, si_new, si_newarray, si_anewarray, si_invokevirtual, si_invokespecial, si_invokestatic, si_ireturn, si_lreturn, si_areturn, si_return_, pI_e, pL_e, pR_e, pA_r, pA_n, pN_n, pN_r, oI_e, oL_e, oA_r, oA_n, lget_e, lrm1_0, lrm2_0, lrm1_i, lrm1_r, lrm1_n, lrm1_l, lrm2_i, lrm2_r, lrm2_n, lrm2_l, popN_0, popN_s, acat_i, acat_l, acat_r, acat_n, stw_0, stw_s, psh_s, psh_n, wgf_r, wgf_i, wgf_b, wgf_n, wgf_m, wpf_i, wpf_r, wpf_b, wnew_e, callE_e, rbk_0, rbk_1, tsw_0, tsw_s, lsw_0, lsw_s, wp_s, wq_t, wq_f, oV_e, pick_0, pick_s, oZ_e, oY_e, r_Model_refsNotZero_0, r_Model_refsNotZero_1, r_Model_refsNotZero_2, r_Model_refsNotZero_3, r_Model_refsNotZero_6, r_Model_refsNotZero_7, r_Model_refsNotZero_8, r_Model_refsNotZero_10, r_Model_refsNotZero_11, r_Model_refsNotZero_13, r_Model_refsNotZero_15, r_Model_refsNotZero_16, r_Model_refsNotZero_19, r_Model_refsNotZero_21, r_Model_refsNotZero_22, r_Model_refsNotZero_23, r_Model_refsNotZero_24, r_Model_refsNotZero_26, r_Model_refsNotZero_29, r_Model_refsNotZero_30, r_Model_refsNotZero_33, r_Model_refsNotZero_34, r_Model_refsNotZero_35, r_Model_refsNotZero_36, r_Model_refsNotZero_38, r_Model_refsNotZero_41, r_Model_refsNotZero_42, r_Model_refsNotZero_43, r_Model_refsNotZero_46, r_Model_refsNotZero_47, r_Model_refsNotZero_50, r_Model_refsNotZero_51, r_Model_refsNotZero_52, r_Model_refsNotZero_54, r_Model_refsNotZero_57, r_Model_refsNotZero_60, r_Model_refsNotZero_62, xe_Model_refsNotZero_484, xe_Model_refsNotZero_524, xe_Model_refsNotZero_548, xd_Model_refsNotZero, xrb_Model_refsNotZero, xin_Model_refsNotZero, T_Model_sortAt_e, TF_Model_sortAt, T_Model_valuesAt_e, TF_Model_valuesAt, T_Model_valueAt_e, TF_Model_valueAt, mh, mp0, mp2, mp3, mp4, mp5, mp6, mp7, mp8, mp9, mp10, mp11, mp12, mp13, mp14, mp15, mp16, mp17, mp18, mp19, mp20, mp21, mp22, mp24, mp25, mp26, mp27, mq0, mq2, mq3, mq4, mq5, mq6, mq7, mq8, mq9, mq10, mq11, mq12, mq13, mq14, mq15, mq16, mq17, mq18, mq19, mq20, mq21, mq22, mq24, mq25, mq26, mq27, Nat.reduceAdd, Nat.reduceMul, Nat.reduceEqDiff, reduceIte, Int.reduceNeg, Int.reduceLE, Int.reduceLT, Int.reduceAdd, Int.reduceSub, Int.reduceToNat, true_and, and_true, inR_e, Nat.reduceLT, Nat.reduceLeDiff, reduceCtorEq, Nat.add_zero, Nat.zero_add, or_false, false_or, or_true, true_or, not_true_eq_false, not_false_eq_true, Classical.not_not, Nat.add_eq_zero_iff, and_false, false_and, Int.reduceEq, List.mem_cons, List.not_mem_nil, forall_eq_or_imp, forall_eq, false_implies, implies_true, forall_const, aargs_0, aargs_i, aargs_r, aargs_l, aargs_n, nfT_e, eq_self, and_self, Nat.le_refl, fu_s, fu_fu, iu_iu, iu_s, fu_am, fu_a0, fu_0a, iu_l, Nat.reduceBEq, Int.reduceBEq, T_objInit_e]; clear mp0 mp2 mp3 mp4 mp5 mp6 mp7 mp8 mp9 mp10 mp11 mp12 mp13 mp14 mp15 mp16 mp17 mp18 mp19 mp20 mp21 mp22 mp24 mp25 mp26 mp27)
    refine ⟨fun h => ?_, fun h => ⟨hL, U, len, A, hB, htp, by omega, fun d => ?_⟩⟩
    · have e : i = (nV U A q).toNat := by omega
      rw [e]
      exact hT c
    · refine ⟨fun a => ⟨by omega, by omega, ?_, (by rw [hμ]; simp only [gI_e, List.getD_cons_succ, List.getD_cons_zero]; omega)⟩, fun a => ⟨hL, U, len, A, hB, ⟨htp, hen⟩, by omega, fun d2 => ?_⟩⟩
      · rw [hJd]
        refine ⟨rfl, d, i + 1, by omega, ?_, rfl⟩
        rw [cntZ_f (by rw [decide_eq_true_eq]; exact fun z => a z.1), Int.add_zero]
        rfl
      · rw [cmp0 (vZ5 b5.1 a)]
        refine ⟨fun b => ⟨by omega, by omega, ?_, (by rw [hμ]; simp only [gI_e, List.getD_cons_succ, List.getD_cons_zero]; omega)⟩, fun b => ⟨by omega, by omega, ?_, (by rw [hμ]; simp only [gI_e, List.getD_cons_succ, List.getD_cons_zero]; omega)⟩⟩
        · rw [hJd]
          refine ⟨rfl, d2, i + 1, by omega, ?_, rfl⟩
          rw [cntZ_f (by rw [decide_eq_true_eq]; exact fun z => z.2 b), Int.add_zero]
          rfl
        · rw [hJd]
          refine ⟨rfl, d2, i + 1, by omega, ?_, rfl⟩
          rw [cntZ_t (by rw [decide_eq_true_eq]; exact ⟨a, b⟩)]
          rfl
def TF_Model_truthsAreRight (o : Nat) (p : Int) (q : Int) (sz sl : Nat) (lay : Nat → Nat × Int) (ρ : Nat → Int → Nat) (σ : Nat → Int → Int) (τ : Nat → Int → Int64) (k : Option AV → Mm → Prop) : Prop := LModel lay ρ o ∧ ∃ (U : Int → Int) (len : Int) (A : Int → Int), MB σ o p U len A ∧ TV U len A q ∧ (tru U A q → ∀ c : Int → Int, k (some (vI (1))) (sz, sl, lay, ρ, fu σ (o + 23) c, τ)) ∧ (¬ tru U A q → ∀ c : Int → Int, k (some (vI (0))) (sz, sl, lay, ρ, fu σ (o + 23) c, τ))
def T_Model_truthsAreRight : Tr := mkT 11 fun o as M k => pI as fun p as => pI as fun q as => as = [] ∧ TF_Model_truthsAreRight o p q M.1 M.2.1 M.2.2.1 M.2.2.2.1 M.2.2.2.2.1 M.2.2.2.2.2 k
theorem T_Model_truthsAreRight_e {o : Nat} {p : Int} {q : Int} {sz sl : Nat} {lay : Nat → Nat × Int} {ρ : Nat → Int → Nat} {σ : Nat → Int → Int} {τ : Nat → Int → Int64} {k : Option AV → Mm → Prop} : T_Model_truthsAreRight [vR o, vI p, vI q] (sz, sl, lay, ρ, σ, τ) k = (lay o = (21, 0) ∧ TF_Model_truthsAreRight o p q sz sl lay ρ σ τ k) := by simp [T_Model_truthsAreRight, mkT_e, pI_e, pR_e, pL_e]
theorem T_Model_truthsAreRight_r (as : List AV) (M : Mm) (k : Option AV → Mm → Prop) (h : T_Model_truthsAreRight as M k) : ∃ b As, as = vR b :: As ∧ M.2.2.1 b = (10 + 11, 0) := by
  obtain ⟨b, As, h1, h2, -⟩ := mkT_r h
  exact ⟨b, As, h1, h2⟩
def tb_Model_truthsAreRight : List (Nat × Option (List Nat) × Instr × List Nat) := [(0, none, .aload_n 0, []), (1, none, .iload_n 1, []), (2, none, .iload_n 2, []), (3, none, .invokevirtual 131, []), (6, none, .istore_n 3, []), (7, none, .iconst 1, []), (8, none, .istore 4, []), (10, none, .iconst 0, []), (11, none, .istore 5, []), (13, some [0, 1, 2, 3, 4, 5], .iload 5, []), (15, none, .iload_n 3, []), (16, none, .if_icmp .ge 59, [75]), (19, none, .iload 4, []), (21, none, .ifCond .eq 54, [75]), (24, none, .aload_n 0, []), (25, none, .iload_n 1, []), (26, none, .iload_n 2, []), (27, none, .iload 5, []), (29, none, .invokevirtual 121, []), (32, none, .iconst 4, []), (33, none, .if_icmp .ne 29, [62]), (36, none, .aload_n 0, []), (37, none, .iload_n 1, []), (38, none, .iload_n 2, []), (39, none, .iload 5, []), (41, none, .invokevirtual 137, []), (44, none, .lconst 0, []), (45, none, .lcmp, []), (46, none, .ifCond .eq 16, [62]), (49, none, .aload_n 0, []), (50, none, .iload_n 1, []), (51, none, .iload_n 2, []), (52, none, .iload 5, []), (54, none, .invokevirtual 137, []), (57, none, .lconst 1, []), (58, none, .lcmp, []), (59, none, .ifCond .ne 7, [66]), (62, none, .iconst 1, []), (63, none, .goto 4, [67]), (66, none, .iconst 0, []), (67, none, .istore 4, []), (69, none, .iinc 5 1, []), (72, none, .goto (-59), [13]), (75, none, .iload 4, []), (77, none, .ireturn, [])]
def P_Model_truthsAreRight : Nat → Option (List Nat) × Instr × List Nat := plk tb_Model_truthsAreRight
theorem r_Model_truthsAreRight_0 : P_Model_truthsAreRight 0 = (none, .aload_n 0, []) := by decide +kernel
theorem r_Model_truthsAreRight_1 : P_Model_truthsAreRight 1 = (none, .iload_n 1, []) := by decide +kernel
theorem r_Model_truthsAreRight_2 : P_Model_truthsAreRight 2 = (none, .iload_n 2, []) := by decide +kernel
theorem r_Model_truthsAreRight_3 : P_Model_truthsAreRight 3 = (none, .invokevirtual 131, []) := by decide +kernel
theorem r_Model_truthsAreRight_6 : P_Model_truthsAreRight 6 = (none, .istore_n 3, []) := by decide +kernel
theorem r_Model_truthsAreRight_7 : P_Model_truthsAreRight 7 = (none, .iconst 1, []) := by decide +kernel
theorem r_Model_truthsAreRight_8 : P_Model_truthsAreRight 8 = (none, .istore 4, []) := by decide +kernel
theorem r_Model_truthsAreRight_10 : P_Model_truthsAreRight 10 = (none, .iconst 0, []) := by decide +kernel
theorem r_Model_truthsAreRight_11 : P_Model_truthsAreRight 11 = (none, .istore 5, []) := by decide +kernel
theorem r_Model_truthsAreRight_13 : P_Model_truthsAreRight 13 = (some [0, 1, 2, 3, 4, 5], .iload 5, []) := by decide +kernel
theorem r_Model_truthsAreRight_15 : P_Model_truthsAreRight 15 = (none, .iload_n 3, []) := by decide +kernel
theorem r_Model_truthsAreRight_16 : P_Model_truthsAreRight 16 = (none, .if_icmp .ge 59, [75]) := by decide +kernel
theorem r_Model_truthsAreRight_19 : P_Model_truthsAreRight 19 = (none, .iload 4, []) := by decide +kernel
theorem r_Model_truthsAreRight_21 : P_Model_truthsAreRight 21 = (none, .ifCond .eq 54, [75]) := by decide +kernel
theorem r_Model_truthsAreRight_24 : P_Model_truthsAreRight 24 = (none, .aload_n 0, []) := by decide +kernel
theorem r_Model_truthsAreRight_25 : P_Model_truthsAreRight 25 = (none, .iload_n 1, []) := by decide +kernel
theorem r_Model_truthsAreRight_26 : P_Model_truthsAreRight 26 = (none, .iload_n 2, []) := by decide +kernel
theorem r_Model_truthsAreRight_27 : P_Model_truthsAreRight 27 = (none, .iload 5, []) := by decide +kernel
theorem r_Model_truthsAreRight_29 : P_Model_truthsAreRight 29 = (none, .invokevirtual 121, []) := by decide +kernel
theorem r_Model_truthsAreRight_32 : P_Model_truthsAreRight 32 = (none, .iconst 4, []) := by decide +kernel
theorem r_Model_truthsAreRight_33 : P_Model_truthsAreRight 33 = (none, .if_icmp .ne 29, [62]) := by decide +kernel
theorem r_Model_truthsAreRight_36 : P_Model_truthsAreRight 36 = (none, .aload_n 0, []) := by decide +kernel
theorem r_Model_truthsAreRight_37 : P_Model_truthsAreRight 37 = (none, .iload_n 1, []) := by decide +kernel
theorem r_Model_truthsAreRight_38 : P_Model_truthsAreRight 38 = (none, .iload_n 2, []) := by decide +kernel
theorem r_Model_truthsAreRight_39 : P_Model_truthsAreRight 39 = (none, .iload 5, []) := by decide +kernel
theorem r_Model_truthsAreRight_41 : P_Model_truthsAreRight 41 = (none, .invokevirtual 137, []) := by decide +kernel
theorem r_Model_truthsAreRight_44 : P_Model_truthsAreRight 44 = (none, .lconst 0, []) := by decide +kernel
theorem r_Model_truthsAreRight_45 : P_Model_truthsAreRight 45 = (none, .lcmp, []) := by decide +kernel
theorem r_Model_truthsAreRight_46 : P_Model_truthsAreRight 46 = (none, .ifCond .eq 16, [62]) := by decide +kernel
theorem r_Model_truthsAreRight_49 : P_Model_truthsAreRight 49 = (none, .aload_n 0, []) := by decide +kernel
theorem r_Model_truthsAreRight_50 : P_Model_truthsAreRight 50 = (none, .iload_n 1, []) := by decide +kernel
theorem r_Model_truthsAreRight_51 : P_Model_truthsAreRight 51 = (none, .iload_n 2, []) := by decide +kernel
theorem r_Model_truthsAreRight_52 : P_Model_truthsAreRight 52 = (none, .iload 5, []) := by decide +kernel
theorem r_Model_truthsAreRight_54 : P_Model_truthsAreRight 54 = (none, .invokevirtual 137, []) := by decide +kernel
theorem r_Model_truthsAreRight_57 : P_Model_truthsAreRight 57 = (none, .lconst 1, []) := by decide +kernel
theorem r_Model_truthsAreRight_58 : P_Model_truthsAreRight 58 = (none, .lcmp, []) := by decide +kernel
theorem r_Model_truthsAreRight_59 : P_Model_truthsAreRight 59 = (none, .ifCond .ne 7, [66]) := by decide +kernel
theorem r_Model_truthsAreRight_62 : P_Model_truthsAreRight 62 = (none, .iconst 1, []) := by decide +kernel
theorem r_Model_truthsAreRight_63 : P_Model_truthsAreRight 63 = (none, .goto 4, [67]) := by decide +kernel
theorem r_Model_truthsAreRight_66 : P_Model_truthsAreRight 66 = (none, .iconst 0, []) := by decide +kernel
theorem r_Model_truthsAreRight_67 : P_Model_truthsAreRight 67 = (none, .istore 4, []) := by decide +kernel
theorem r_Model_truthsAreRight_69 : P_Model_truthsAreRight 69 = (none, .iinc 5 1, []) := by decide +kernel
theorem r_Model_truthsAreRight_72 : P_Model_truthsAreRight 72 = (none, .goto (-59), [13]) := by decide +kernel
theorem r_Model_truthsAreRight_75 : P_Model_truthsAreRight 75 = (none, .iload 4, []) := by decide +kernel
theorem r_Model_truthsAreRight_77 : P_Model_truthsAreRight 77 = (none, .ireturn, []) := by decide +kernel
def E_Model_truthsAreRight : List (Nat × Ent) := [(484, (4, 3, 0, 0, T_Model_sortAt)), (524, (3, 3, 0, 0, T_Model_valuesAt)), (548, (4, 5, 0, 0, T_Model_valueAt))]
def X_Model_truthsAreRight : Cx := (llk (0, 0, 9) ftX11, llk 99 ntX11, llk none kcX11, llk none klX11, llk dEnt E_Model_truthsAreRight, 6, 1, false)
theorem xok_Model_truthsAreRight : Xok RX11 X_Model_truthsAreRight := xok_of ftX11_ok ntX11_ok kcX11_ok klX11_ok (E := E_Model_truthsAreRight) (List.forall_mem_cons.mpr ⟨co_X11_484, List.forall_mem_cons.mpr ⟨co_X11_524, List.forall_mem_cons.mpr ⟨co_X11_548, fun _ h => absurd h List.not_mem_nil⟩⟩⟩)
theorem xe_Model_truthsAreRight_484 : xE X_Model_truthsAreRight (4 * 121 + 0) = (4, 3, 0, 0, T_Model_sortAt) := rfl
theorem xe_Model_truthsAreRight_524 : xE X_Model_truthsAreRight (4 * 131 + 0) = (3, 3, 0, 0, T_Model_valuesAt) := rfl
theorem xe_Model_truthsAreRight_548 : xE X_Model_truthsAreRight (4 * 137 + 0) = (4, 5, 0, 0, T_Model_valueAt) := rfl
theorem xd_Model_truthsAreRight : xd X_Model_truthsAreRight = 6 := rfl
theorem xrb_Model_truthsAreRight : xrb X_Model_truthsAreRight = 1 := rfl
theorem xin_Model_truthsAreRight : xin X_Model_truthsAreRight = false := rfl
set_option maxHeartbeats 4000000 in
set_option maxRecDepth 100000 in
theorem S_Model_truthsAreRight : Snd yX11_truthsAreRight cX11_truthsAreRight 6 (some .boolean) T_Model_truthsAreRight 6 0 0 := by
  refine snd_of (X := X_Model_truthsAreRight) (P := P_Model_truthsAreRight) (tb := tb_Model_truthsAreRight) (own := RX11) (by decide) rfl rfl (by decide +kernel) xok_Model_truthsAreRight rfl rk1 (fun h => by first | rfl | cases h) ?_
  intro as M k has hM hT0
  obtain ⟨sz, sl, lay, ρ, σ, τ⟩ := M
  obtain ⟨o, as1, e, hlo, hT1⟩ := mkT_r hT0
  clear hT0
  subst e
  obtain ⟨p, as2, e, hT2⟩ := pI_x hT1
  clear hT1
  subst e
  obtain ⟨q, as3, e, hT3⟩ := pI_x hT2
  clear hT2
  subst e
  obtain ⟨e, hT⟩ := hT3
  subst e
  replace hlo : lay o = (21, 0) := hlo
  have r_p : -2147483648 ≤ p ∧ p ≤ 2147483647 := has (vI p) (by simp)
  have r_q : -2147483648 ≤ q ∧ q ≤ 2147483647 := has (vI q) (by simp)
  clear has
  replace hM : ∀ a i, -2147483648 ≤ σ a i ∧ σ a i ≤ 2147483647 := hM
  replace hT : TF_Model_truthsAreRight o p q sz sl lay ρ σ τ k := hT
  unfold TF_Model_truthsAreRight at hT
  obtain ⟨hL, U, len, A, hB, ⟨htp, hen⟩, h1, h0⟩ := hT
  obtain ⟨b1, b2, b3, b4, b5, b6, b7⟩ := (show MB σ o p U len A from hB)
  obtain ⟨J, hJd⟩ : ∃ J : Nat → List AV → Mm → Prop, J = (fun c vs M1 => c = 13 ∧ ∃ (c : Int → Int) (i : Nat) (r : Int), (i : Int) ≤ nV U A q ∧ ((r = 1 ∧ ∀ k : Int, 0 ≤ k ∧ k < i → sA U A q k = 4 → vZ U A q k = 0 ∨ vZ U A q k = 1) ∨ (r = 0 ∧ ¬ tru U A q)) ∧ vs = [vR o, vI p, vI q, vI (nV U A q), vI r, vI (i : Int)] ∧ M1 = (sz, sl, lay, ρ, fu σ (o + 23) c, τ)) := ⟨_, rfl⟩
  obtain ⟨μ, hμ⟩ : ∃ μ : Nat → List AV → Mm → Nat, μ = (fun _ vs _ => (1000 - gI (vs.getD 5 vN)).toNat) := ⟨_, rfl⟩
  refine ⟨Nat.le_of_ble_eq_true rfl, J, μ, 53, ?_, ?_⟩
  · obtain ⟨mh, mp0, mp2, mp3, mp4, mp5, mp6, mp7, mp8, mp9, mp10, mp11, mp12, mp13, mp14, mp15, mp16, mp17, mp18, mp19, mp20, mp21, mp22, mp24, mp25, mp26, mp27, mq0, mq2, mq3, mq4, mq5, mq6, mq7, mq8, mq9, mq10, mq11, mq12, mq13, mq14, mq15, mq16, mq17, mq18, mq19, mq20, mq21, mq22, mq24, mq25, mq26, mq27⟩ := (show LModel lay ρ _ from hL)
    unfold wps
    simp only [si_iload_n0, si_iload_n1, si_iload_n2, si_iload_n3, si_iload, si_lload_n0, si_lload_n1, si_lload_n2, si_lload_n3, si_lload, si_aload_n0, si_aload_n1, si_aload_n2, si_aload_n3, si_aload, si_istore_n0, si_istore_n1, si_istore_n2, si_istore_n3, si_istore, si_astore_n0, si_astore_n1, si_astore_n2, si_astore_n3, si_astore, si_lstore_n0, si_lstore_n1, si_lstore_n2, si_lstore_n3, si_lstore, si_iconst, si_bipush, si_sipush, si_ldc, si_ldc2_w, si_lconst0, si_lconst1, si_aconst_null, si_iinc, si_dup, si_dup2, si_iadd, si_isub, si_imul, si_idiv, si_irem, si_iand, si_ior, si_ishl, si_ishr, si_ladd, si_lmul, si_lor, si_lxor, si_lshl, si_lushr, si_lcmp, si_i2b, si_i2l, si_l2i, si_icmp_eq, si_icmp_ne, si_icmp_lt, si_icmp_ge, si_icmp_gt, si_icmp_le, si_if_eq, si_if_ne, si_if_lt, si_if_ge, si_if_gt, si_if_le, si_ifnull, si_ifnonnull, si_goto, si_tableswitch, si_lookupswitch, si_getfield, si_putfield, si_getstatic, si_iaload, si_baload, si_laload, si_aaload, si_iastore, si_bastore, si_lastore, si_aastore, si_arraylength, si_new, si_newarray, si_anewarray, si_invokevirtual, si_invokespecial, si_invokestatic, si_ireturn, si_lreturn, si_areturn, si_return_, pI_e, pL_e, pR_e, pA_r, pA_n, pN_n, pN_r, oI_e, oL_e, oA_r, oA_n, lget_e, lrm1_0, lrm2_0, lrm1_i, lrm1_r, lrm1_n, lrm1_l, lrm2_i, lrm2_r, lrm2_n, lrm2_l, popN_0, popN_s, acat_i, acat_l, acat_r, acat_n, stw_0, stw_s, psh_s, psh_n, wgf_r, wgf_i, wgf_b, wgf_n, wgf_m, wpf_i, wpf_r, wpf_b, wnew_e, callE_e, rbk_0, rbk_1, tsw_0, tsw_s, lsw_0, lsw_s, wp_s, wq_t, wq_f, oV_e, pick_0, pick_s, oZ_e, oY_e, r_Model_truthsAreRight_0, r_Model_truthsAreRight_1, r_Model_truthsAreRight_2, r_Model_truthsAreRight_3, r_Model_truthsAreRight_6, r_Model_truthsAreRight_7, r_Model_truthsAreRight_8, r_Model_truthsAreRight_10, r_Model_truthsAreRight_11, r_Model_truthsAreRight_13, r_Model_truthsAreRight_15, r_Model_truthsAreRight_16, r_Model_truthsAreRight_19, r_Model_truthsAreRight_21, r_Model_truthsAreRight_24, r_Model_truthsAreRight_25, r_Model_truthsAreRight_26, r_Model_truthsAreRight_27, r_Model_truthsAreRight_29, r_Model_truthsAreRight_32, r_Model_truthsAreRight_33, r_Model_truthsAreRight_36, r_Model_truthsAreRight_37, r_Model_truthsAreRight_38, r_Model_truthsAreRight_39, r_Model_truthsAreRight_41, r_Model_truthsAreRight_44, r_Model_truthsAreRight_45, r_Model_truthsAreRight_46, r_Model_truthsAreRight_49, r_Model_truthsAreRight_50, r_Model_truthsAreRight_51, r_Model_truthsAreRight_52, r_Model_truthsAreRight_54, r_Model_truthsAreRight_57, r_Model_truthsAreRight_58, r_Model_truthsAreRight_59, r_Model_truthsAreRight_62, r_Model_truthsAreRight_63, r_Model_truthsAreRight_66, r_Model_truthsAreRight_67, r_Model_truthsAreRight_69, r_Model_truthsAreRight_72, r_Model_truthsAreRight_75, r_Model_truthsAreRight_77, xe_Model_truthsAreRight_484, xe_Model_truthsAreRight_524, xe_Model_truthsAreRight_548, xd_Model_truthsAreRight, xrb_Model_truthsAreRight, xin_Model_truthsAreRight, T_Model_sortAt_e, TF_Model_sortAt, T_Model_valuesAt_e, TF_Model_valuesAt, T_Model_valueAt_e, TF_Model_valueAt, mh, mp0, mp2, mp3, mp4, mp5, mp6, mp7, mp8, mp9, mp10, mp11, mp12, mp13, mp14, mp15, mp16, mp17, mp18, mp19, mp20, mp21, mp22, mp24, mp25, mp26, mp27, mq0, mq2, mq3, mq4, mq5, mq6, mq7, mq8, mq9, mq10, mq11, mq12, mq13, mq14, mq15, mq16, mq17, mq18, mq19, mq20, mq21, mq22, mq24, mq25, mq26, mq27, Nat.reduceAdd, Nat.reduceMul, Nat.reduceEqDiff, reduceIte, Int.reduceNeg, Int.reduceLE, Int.reduceLT, Int.reduceAdd, Int.reduceSub, Int.reduceToNat, true_and, and_true, inR_e, Nat.reduceLT, Nat.reduceLeDiff, reduceCtorEq, Nat.add_zero, Nat.zero_add, or_false, false_or, or_true, true_or, not_true_eq_false, not_false_eq_true, Classical.not_not, Nat.add_eq_zero_iff, and_false, false_and, Int.reduceEq, List.mem_cons, List.not_mem_nil, forall_eq_or_imp, forall_eq, false_implies, implies_true, forall_const, aargs_0, aargs_i, aargs_r, aargs_l, aargs_n, nfT_e, eq_self, and_self, Nat.le_refl, fu_s, fu_fu, iu_iu, iu_s, fu_am, fu_a0, fu_0a, iu_l, Nat.reduceBEq, Int.reduceBEq, T_objInit_e]
    clear mp0 mp2 mp3 mp4 mp5 mp6 mp7 mp8 mp9 mp10 mp11 mp12 mp13 mp14 mp15 mp16 mp17 mp18 mp19 mp20 mp21 mp22 mp24 mp25 mp26 mp27
    refine ⟨hL, U, len, A, hB, htp, fun c => ?_⟩
    have nv := htp.1.nv b5
    rw [hJd]
    exact ⟨rfl, c, 0, 1, by omega, Or.inl ⟨rfl, fun k hk => by omega⟩, rfl, rfl⟩
  · intro cp vs M1 hvs hM1 hlen hJ
    rw [hJd] at hJ
    obtain ⟨rfl, c, i, r, hi, hr, rfl, rfl⟩ := hJ
    have ht := htp.1
    have nv := ht.nv b5
    (obtain ⟨mh, mp0, mp2, mp3, mp4, mp5, mp6, mp7, mp8, mp9, mp10, mp11, mp12, mp13, mp14, mp15, mp16, mp17, mp18, mp19, mp20, mp21, mp22, mp24, mp25, mp26, mp27, mq0, mq2, mq3, mq4, mq5, mq6, mq7, mq8, mq9, mq10, mq11, mq12, mq13, mq14, mq15, mq16, mq17, mq18, mq19, mq20, mq21, mq22, mq24, mq25, mq26, mq27⟩ := (show LModel lay ρ _ from hL); unfold wps; simp only [Option.getD_some, List.zip_cons_cons, List.zip_nil_left, List.zip_nil_right, List.zip_nil_right, MB_fu, si_iload_n0, si_iload_n1, si_iload_n2, si_iload_n3, si_iload, si_lload_n0, si_lload_n1, si_lload_n2, si_lload_n3, si_lload, si_aload_n0, si_aload_n1, si_aload_n2, si_aload_n3, si_aload, si_istore_n0, si_istore_n1, si_istore_n2, si_istore_n3, si_istore, si_astore_n0, si_astore_n1, si_astore_n2, si_astore_n3, si_astore, si_lstore_n0, si_lstore_n1, si_lstore_n2, si_lstore_n3, si_lstore, si_iconst, si_bipush, si_sipush, si_ldc, si_ldc2_w, si_lconst0, si_lconst1, si_aconst_null, si_iinc, si_dup, si_dup2, si_iadd, si_isub, si_imul, si_idiv, si_irem, si_iand, si_ior, si_ishl, si_ishr, si_ladd, si_lmul, si_lor, si_lxor, si_lshl, si_lushr, si_lcmp, si_i2b, si_i2l, si_l2i, si_icmp_eq, si_icmp_ne, si_icmp_lt, si_icmp_ge, si_icmp_gt, si_icmp_le, si_if_eq, si_if_ne, si_if_lt, si_if_ge, si_if_gt, si_if_le, si_ifnull, si_ifnonnull, si_goto, si_tableswitch, si_lookupswitch, si_getfield, si_putfield, si_getstatic, si_iaload, si_baload, si_laload, si_aaload, si_iastore, si_bastore, si_lastore, si_aastore, si_arraylength, si_new, si_newarray, si_anewarray, si_invokevirtual, si_invokespecial, si_invokestatic, si_ireturn, si_lreturn, si_areturn, si_return_, pI_e, pL_e, pR_e, pA_r, pA_n, pN_n, pN_r, oI_e, oL_e, oA_r, oA_n, lget_e, lrm1_0, lrm2_0, lrm1_i, lrm1_r, lrm1_n, lrm1_l, lrm2_i, lrm2_r, lrm2_n, lrm2_l, popN_0, popN_s, acat_i, acat_l, acat_r, acat_n, stw_0, stw_s, psh_s, psh_n, wgf_r, wgf_i, wgf_b, wgf_n, wgf_m, wpf_i, wpf_r, wpf_b, wnew_e, callE_e, rbk_0, rbk_1, tsw_0, tsw_s, lsw_0, lsw_s, wp_s, wq_t, wq_f, oV_e, pick_0, pick_s, oZ_e, oY_e, r_Model_truthsAreRight_0, r_Model_truthsAreRight_1, r_Model_truthsAreRight_2, r_Model_truthsAreRight_3, r_Model_truthsAreRight_6, r_Model_truthsAreRight_7, r_Model_truthsAreRight_8, r_Model_truthsAreRight_10, r_Model_truthsAreRight_11, r_Model_truthsAreRight_13, r_Model_truthsAreRight_15, r_Model_truthsAreRight_16, r_Model_truthsAreRight_19, r_Model_truthsAreRight_21, r_Model_truthsAreRight_24, r_Model_truthsAreRight_25, r_Model_truthsAreRight_26, r_Model_truthsAreRight_27, r_Model_truthsAreRight_29, r_Model_truthsAreRight_32, r_Model_truthsAreRight_33, r_Model_truthsAreRight_36, r_Model_truthsAreRight_37, r_Model_truthsAreRight_38, r_Model_truthsAreRight_39, r_Model_truthsAreRight_41, r_Model_truthsAreRight_44, r_Model_truthsAreRight_45, r_Model_truthsAreRight_46, r_Model_truthsAreRight_49, r_Model_truthsAreRight_50, r_Model_truthsAreRight_51, r_Model_truthsAreRight_52, r_Model_truthsAreRight_54, r_Model_truthsAreRight_57, r_Model_truthsAreRight_58, r_Model_truthsAreRight_59, r_Model_truthsAreRight_62, r_Model_truthsAreRight_63, r_Model_truthsAreRight_66, r_Model_truthsAreRight_67, r_Model_truthsAreRight_69, r_Model_truthsAreRight_72, r_Model_truthsAreRight_75, r_Model_truthsAreRight_77, xe_Model_truthsAreRight_484, xe_Model_truthsAreRight_524, xe_Model_truthsAreRight_548, xd_Model_truthsAreRight, xrb_Model_truthsAreRight, xin_Model_truthsAreRight, T_Model_sortAt_e, TF_Model_sortAt, T_Model_valuesAt_e, TF_Model_valuesAt, T_Model_valueAt_e, TF_Model_valueAt, mh, mp0, mp2, mp3, mp4, mp5, mp6, mp7, mp8, mp9, mp10, mp11, mp12, mp13, mp14, mp15, mp16, mp17, mp18, mp19, mp20, mp21, mp22, mp24, mp25, mp26, mp27, mq0, mq2, mq3, mq4, mq5, mq6, mq7, mq8, mq9, mq10, mq11, mq12, mq13, mq14, mq15, mq16, mq17, mq18, mq19, mq20, mq21, mq22, mq24, mq25, mq26, mq27, Nat.reduceAdd, Nat.reduceMul, Nat.reduceEqDiff, reduceIte, Int.reduceNeg, Int.reduceLE, Int.reduceLT, Int.reduceAdd, Int.reduceSub, Int.reduceToNat, true_and, and_true, inR_e, Nat.reduceLT, Nat.reduceLeDiff, reduceCtorEq, Nat.add_zero, Nat.zero_add, or_false, false_or, or_true, true_or, not_true_eq_false, not_false_eq_true, Classical.not_not, Nat.add_eq_zero_iff, and_false, false_and, Int.reduceEq, List.mem_cons, List.not_mem_nil, forall_eq_or_imp, forall_eq, false_implies, implies_true, forall_const, aargs_0, aargs_i, aargs_r, aargs_l, aargs_n, nfT_e, eq_self, and_self, Nat.le_refl, fu_s, fu_fu, iu_iu, iu_s, fu_am, fu_a0, fu_0a, iu_l, Nat.reduceBEq, Int.reduceBEq, T_objInit_e]; clear mp0 mp2 mp3 mp4 mp5 mp6 mp7 mp8 mp9 mp10 mp11 mp12 mp13 mp14 mp15 mp16 mp17 mp18 mp19 mp20 mp21 mp22 mp24 mp25 mp26 mp27)
    refine ⟨fun h => ?_, fun h => ⟨fun hr0 => ?_, fun hr0 => ⟨hL, U, len, A, hB, htp, by omega, fun d => ?_⟩⟩⟩
    · have e : (i : Int) = nV U A q := by omega
      rcases hr with ⟨rfl, hr⟩ | ⟨rfl, hr⟩
      · rw [e] at hr
        exact ⟨Or.inr rfl, h1 hr c⟩
      · exact ⟨Or.inl rfl, h0 hr c⟩
    · rcases hr with ⟨rfl, hr⟩ | ⟨rfl, hr⟩
      · omega
      · exact ⟨Or.inl rfl, h0 hr c⟩
    · rcases hr with ⟨rfl, hr⟩ | ⟨rfl, hr⟩
      · have st : (sA U A q i = 4 → vZ U A q i = 0 ∨ vZ U A q i = 1) → ∀ k, 0 ≤ k ∧ k < ((i + 1 : Nat) : Int) → sA U A q k = 4 → vZ U A q k = 0 ∨ vZ U A q k = 1 := by
          intro hz k hk
          by_cases e : k = i
          · rw [e]; exact hz
          · exact hr k (by omega)
        refine ⟨fun a => ⟨by omega, ?_, (by rw [hμ]; simp only [gI_e, List.getD_cons_succ, List.getD_cons_zero]; omega)⟩, fun a => ⟨hL, U, len, A, hB, ⟨htp, hen⟩, by omega, fun d2 => ?_⟩⟩
        · rw [hJd]
          exact ⟨rfl, d, i + 1, 1, by omega, Or.inl ⟨rfl, st (fun z => absurd z a)⟩, rfl, rfl⟩
        · have v4 := vZ4 b5.1 a
          rw [cmp0 (by omega)]
          refine ⟨fun b => ⟨by omega, ?_, (by rw [hμ]; simp only [gI_e, List.getD_cons_succ, List.getD_cons_zero]; omega)⟩, fun b => ⟨hL, U, len, A, hB, ⟨htp, hen⟩, by omega, fun d3 => ?_⟩⟩
          · rw [hJd]
            exact ⟨rfl, d2, i + 1, 1, by omega, Or.inl ⟨rfl, st (fun _ => Or.inl b)⟩, rfl, rfl⟩
          · rw [cmp1 (by omega)]
            refine ⟨fun b2 => ⟨by omega, ?_, (by rw [hμ]; simp only [gI_e, List.getD_cons_succ, List.getD_cons_zero]; omega)⟩, fun b2 => ⟨by omega, ?_, (by rw [hμ]; simp only [gI_e, List.getD_cons_succ, List.getD_cons_zero]; omega)⟩⟩
            · rw [hJd]
              exact ⟨rfl, d3, i + 1, 0, by omega, Or.inr ⟨rfl, fun z => (z i (by omega) a).elim b b2⟩, rfl, rfl⟩
            · rw [hJd]
              exact ⟨rfl, d3, i + 1, 1, by omega, Or.inl ⟨rfl, st (fun _ => Or.inr b2)⟩, rfl, rfl⟩
      · exact absurd rfl hr0
def TF_Model_isEnd (o : Nat) (p : Int) (i : Int) (sz sl : Nat) (lay : Nat → Nat × Int) (ρ : Nat → Int → Nat) (σ : Nat → Int → Int) (τ : Nat → Int → Int64) (k : Option AV → Mm → Prop) : Prop := LModel lay ρ o ∧ ∃ (U : Int → Int) (len : Int) (A : Int → Int), MB σ o p U len A ∧ (σ (o + 3) p = len) ∧ (0 ≤ i) ∧ (isE U len i → k (some (vI (1))) (sz, sl, lay, ρ, σ, τ)) ∧ (¬ isE U len i → k (some (vI (0))) (sz, sl, lay, ρ, σ, τ))
def T_Model_isEnd : Tr := mkT 11 fun o as M k => pI as fun p as => pI as fun i as => as = [] ∧ TF_Model_isEnd o p i M.1 M.2.1 M.2.2.1 M.2.2.2.1 M.2.2.2.2.1 M.2.2.2.2.2 k
theorem T_Model_isEnd_e {o : Nat} {p : Int} {i : Int} {sz sl : Nat} {lay : Nat → Nat × Int} {ρ : Nat → Int → Nat} {σ : Nat → Int → Int} {τ : Nat → Int → Int64} {k : Option AV → Mm → Prop} : T_Model_isEnd [vR o, vI p, vI i] (sz, sl, lay, ρ, σ, τ) k = (lay o = (21, 0) ∧ TF_Model_isEnd o p i sz sl lay ρ σ τ k) := by simp [T_Model_isEnd, mkT_e, pI_e, pR_e, pL_e]
theorem T_Model_isEnd_r (as : List AV) (M : Mm) (k : Option AV → Mm → Prop) (h : T_Model_isEnd as M k) : ∃ b As, as = vR b :: As ∧ M.2.2.1 b = (10 + 11, 0) := by
  obtain ⟨b, As, h1, h2, -⟩ := mkT_r h
  exact ⟨b, As, h1, h2⟩
def tb_Model_isEnd : List (Nat × Option (List Nat) × Instr × List Nat) := [(0, none, .iload_n 2, []), (1, none, .aload_n 0, []), (2, none, .getfield 16, []), (5, none, .iload_n 1, []), (6, none, .iaload, []), (7, none, .if_icmp .eq 24, [31]), (10, none, .iload_n 2, []), (11, none, .aload_n 0, []), (12, none, .getfield 16, []), (15, none, .iload_n 1, []), (16, none, .iaload, []), (17, none, .if_icmp .ge 18, [35]), (20, none, .aload_n 0, []), (21, none, .iload_n 1, []), (22, none, .iload_n 2, []), (23, none, .invokevirtual 95, []), (26, none, .bipush 10, []), (28, none, .if_icmp .ne 7, [35]), (31, none, .iconst 1, []), (32, none, .goto 4, [36]), (35, none, .iconst 0, []), (36, none, .ireturn, [])]
def P_Model_isEnd : Nat → Option (List Nat) × Instr × List Nat := plk tb_Model_isEnd
theorem r_Model_isEnd_0 : P_Model_isEnd 0 = (none, .iload_n 2, []) := by decide +kernel
theorem r_Model_isEnd_1 : P_Model_isEnd 1 = (none, .aload_n 0, []) := by decide +kernel
theorem r_Model_isEnd_2 : P_Model_isEnd 2 = (none, .getfield 16, []) := by decide +kernel
theorem r_Model_isEnd_5 : P_Model_isEnd 5 = (none, .iload_n 1, []) := by decide +kernel
theorem r_Model_isEnd_6 : P_Model_isEnd 6 = (none, .iaload, []) := by decide +kernel
theorem r_Model_isEnd_7 : P_Model_isEnd 7 = (none, .if_icmp .eq 24, [31]) := by decide +kernel
theorem r_Model_isEnd_10 : P_Model_isEnd 10 = (none, .iload_n 2, []) := by decide +kernel
theorem r_Model_isEnd_11 : P_Model_isEnd 11 = (none, .aload_n 0, []) := by decide +kernel
theorem r_Model_isEnd_12 : P_Model_isEnd 12 = (none, .getfield 16, []) := by decide +kernel
theorem r_Model_isEnd_15 : P_Model_isEnd 15 = (none, .iload_n 1, []) := by decide +kernel
theorem r_Model_isEnd_16 : P_Model_isEnd 16 = (none, .iaload, []) := by decide +kernel
theorem r_Model_isEnd_17 : P_Model_isEnd 17 = (none, .if_icmp .ge 18, [35]) := by decide +kernel
theorem r_Model_isEnd_20 : P_Model_isEnd 20 = (none, .aload_n 0, []) := by decide +kernel
theorem r_Model_isEnd_21 : P_Model_isEnd 21 = (none, .iload_n 1, []) := by decide +kernel
theorem r_Model_isEnd_22 : P_Model_isEnd 22 = (none, .iload_n 2, []) := by decide +kernel
theorem r_Model_isEnd_23 : P_Model_isEnd 23 = (none, .invokevirtual 95, []) := by decide +kernel
theorem r_Model_isEnd_26 : P_Model_isEnd 26 = (none, .bipush 10, []) := by decide +kernel
theorem r_Model_isEnd_28 : P_Model_isEnd 28 = (none, .if_icmp .ne 7, [35]) := by decide +kernel
theorem r_Model_isEnd_31 : P_Model_isEnd 31 = (none, .iconst 1, []) := by decide +kernel
theorem r_Model_isEnd_32 : P_Model_isEnd 32 = (none, .goto 4, [36]) := by decide +kernel
theorem r_Model_isEnd_35 : P_Model_isEnd 35 = (none, .iconst 0, []) := by decide +kernel
theorem r_Model_isEnd_36 : P_Model_isEnd 36 = (none, .ireturn, []) := by decide +kernel
def E_Model_isEnd : List (Nat × Ent) := [(380, (3, 0, 0, 0, T_Model_at))]
def X_Model_isEnd : Cx := (llk (0, 0, 9) ftX11, llk 99 ntX11, llk none kcX11, llk none klX11, llk dEnt E_Model_isEnd, 1, 1, false)
theorem xok_Model_isEnd : Xok RX11 X_Model_isEnd := xok_of ftX11_ok ntX11_ok kcX11_ok klX11_ok (E := E_Model_isEnd) (List.forall_mem_cons.mpr ⟨co_X11_380, fun _ h => absurd h List.not_mem_nil⟩)
theorem xf_Model_isEnd_16 : xfl X_Model_isEnd 16 = (11, 3, 1) := by decide +kernel
theorem xe_Model_isEnd_380 : xE X_Model_isEnd (4 * 95 + 0) = (3, 0, 0, 0, T_Model_at) := rfl
theorem xd_Model_isEnd : xd X_Model_isEnd = 1 := rfl
theorem xrb_Model_isEnd : xrb X_Model_isEnd = 1 := rfl
theorem xin_Model_isEnd : xin X_Model_isEnd = false := rfl
set_option maxHeartbeats 4000000 in
set_option maxRecDepth 100000 in
theorem S_Model_isEnd : Snd yX11_isEnd cX11_isEnd 3 (some .boolean) T_Model_isEnd 1 0 0 := by
  refine snd_of (X := X_Model_isEnd) (P := P_Model_isEnd) (tb := tb_Model_isEnd) (own := RX11) (by decide) rfl rfl (by decide +kernel) xok_Model_isEnd rfl rk1 (fun h => by first | rfl | cases h) ?_
  intro as M k has hM hT0
  obtain ⟨sz, sl, lay, ρ, σ, τ⟩ := M
  obtain ⟨o, as1, e, hlo, hT1⟩ := mkT_r hT0
  clear hT0
  subst e
  obtain ⟨p, as2, e, hT2⟩ := pI_x hT1
  clear hT1
  subst e
  obtain ⟨i, as3, e, hT3⟩ := pI_x hT2
  clear hT2
  subst e
  obtain ⟨e, hT⟩ := hT3
  subst e
  replace hlo : lay o = (21, 0) := hlo
  have r_p : -2147483648 ≤ p ∧ p ≤ 2147483647 := has (vI p) (by simp)
  have r_i : -2147483648 ≤ i ∧ i ≤ 2147483647 := has (vI i) (by simp)
  clear has
  replace hM : ∀ a i, -2147483648 ≤ σ a i ∧ σ a i ≤ 2147483647 := hM
  replace hT : TF_Model_isEnd o p i sz sl lay ρ σ τ k := hT
  unfold TF_Model_isEnd at hT
  obtain ⟨hL, U, len, A, hB, hl3, hi, h1, h0⟩ := hT
  obtain ⟨b1, b2, b3, b4, b5, b6, b7⟩ := (show MB σ o p U len A from hB)
  refine ⟨Nat.le_of_ble_eq_true rfl, fun _ _ _ => False, fun _ _ _ => 0, 30, ?_, fun _ _ _ _ _ _ h => h.elim⟩
  obtain ⟨mh, mp0, mp2, mp3, mp4, mp5, mp6, mp7, mp8, mp9, mp10, mp11, mp12, mp13, mp14, mp15, mp16, mp17, mp18, mp19, mp20, mp21, mp22, mp24, mp25, mp26, mp27, mq0, mq2, mq3, mq4, mq5, mq6, mq7, mq8, mq9, mq10, mq11, mq12, mq13, mq14, mq15, mq16, mq17, mq18, mq19, mq20, mq21, mq22, mq24, mq25, mq26, mq27⟩ := (show LModel lay ρ _ from hL)
  unfold wps
  simp only [si_iload_n0, si_iload_n1, si_iload_n2, si_iload_n3, si_iload, si_lload_n0, si_lload_n1, si_lload_n2, si_lload_n3, si_lload, si_aload_n0, si_aload_n1, si_aload_n2, si_aload_n3, si_aload, si_istore_n0, si_istore_n1, si_istore_n2, si_istore_n3, si_istore, si_astore_n0, si_astore_n1, si_astore_n2, si_astore_n3, si_astore, si_lstore_n0, si_lstore_n1, si_lstore_n2, si_lstore_n3, si_lstore, si_iconst, si_bipush, si_sipush, si_ldc, si_ldc2_w, si_lconst0, si_lconst1, si_aconst_null, si_iinc, si_dup, si_dup2, si_iadd, si_isub, si_imul, si_idiv, si_irem, si_iand, si_ior, si_ishl, si_ishr, si_ladd, si_lmul, si_lor, si_lxor, si_lshl, si_lushr, si_lcmp, si_i2b, si_i2l, si_l2i, si_icmp_eq, si_icmp_ne, si_icmp_lt, si_icmp_ge, si_icmp_gt, si_icmp_le, si_if_eq, si_if_ne, si_if_lt, si_if_ge, si_if_gt, si_if_le, si_ifnull, si_ifnonnull, si_goto, si_tableswitch, si_lookupswitch, si_getfield, si_putfield, si_getstatic, si_iaload, si_baload, si_laload, si_aaload, si_iastore, si_bastore, si_lastore, si_aastore, si_arraylength, si_new, si_newarray, si_anewarray, si_invokevirtual, si_invokespecial, si_invokestatic, si_ireturn, si_lreturn, si_areturn, si_return_, pI_e, pL_e, pR_e, pA_r, pA_n, pN_n, pN_r, oI_e, oL_e, oA_r, oA_n, lget_e, lrm1_0, lrm2_0, lrm1_i, lrm1_r, lrm1_n, lrm1_l, lrm2_i, lrm2_r, lrm2_n, lrm2_l, popN_0, popN_s, acat_i, acat_l, acat_r, acat_n, stw_0, stw_s, psh_s, psh_n, wgf_r, wgf_i, wgf_b, wgf_n, wgf_m, wpf_i, wpf_r, wpf_b, wnew_e, callE_e, rbk_0, rbk_1, tsw_0, tsw_s, lsw_0, lsw_s, wp_s, wq_t, wq_f, oV_e, pick_0, pick_s, oZ_e, oY_e, r_Model_isEnd_0, r_Model_isEnd_1, r_Model_isEnd_2, r_Model_isEnd_5, r_Model_isEnd_6, r_Model_isEnd_7, r_Model_isEnd_10, r_Model_isEnd_11, r_Model_isEnd_12, r_Model_isEnd_15, r_Model_isEnd_16, r_Model_isEnd_17, r_Model_isEnd_20, r_Model_isEnd_21, r_Model_isEnd_22, r_Model_isEnd_23, r_Model_isEnd_26, r_Model_isEnd_28, r_Model_isEnd_31, r_Model_isEnd_32, r_Model_isEnd_35, r_Model_isEnd_36, xf_Model_isEnd_16, xe_Model_isEnd_380, xd_Model_isEnd, xrb_Model_isEnd, xin_Model_isEnd, T_Model_at_e, TF_Model_at, mh, mp0, mp2, mp3, mp4, mp5, mp6, mp7, mp8, mp9, mp10, mp11, mp12, mp13, mp14, mp15, mp16, mp17, mp18, mp19, mp20, mp21, mp22, mp24, mp25, mp26, mp27, mq0, mq2, mq3, mq4, mq5, mq6, mq7, mq8, mq9, mq10, mq11, mq12, mq13, mq14, mq15, mq16, mq17, mq18, mq19, mq20, mq21, mq22, mq24, mq25, mq26, mq27, Nat.reduceAdd, Nat.reduceMul, Nat.reduceEqDiff, reduceIte, Int.reduceNeg, Int.reduceLE, Int.reduceLT, Int.reduceAdd, Int.reduceSub, Int.reduceToNat, true_and, and_true, inR_e, Nat.reduceLT, Nat.reduceLeDiff, reduceCtorEq, Nat.add_zero, Nat.zero_add, or_false, false_or, or_true, true_or, not_true_eq_false, not_false_eq_true, Classical.not_not, Nat.add_eq_zero_iff, and_false, false_and, Int.reduceEq, List.mem_cons, List.not_mem_nil, forall_eq_or_imp, forall_eq, false_implies, implies_true, forall_const, aargs_0, aargs_i, aargs_r, aargs_l, aargs_n, nfT_e, eq_self, and_self, Nat.le_refl, fu_s, fu_fu, iu_iu, iu_s, fu_am, fu_a0, fu_0a, iu_l, Nat.reduceBEq, Int.reduceBEq, T_objInit_e]
  clear mp0 mp2 mp3 mp4 mp5 mp6 mp7 mp8 mp9 mp10 mp11 mp12 mp13 mp14 mp15 mp16 mp17 mp18 mp19 mp20 mp21 mp22 mp24 mp25 mp26 mp27
  refine ⟨by omega, by omega, fun a => h1 (Or.inl (by omega)), fun a => ⟨by omega, by omega, fun b => h0 ?_, fun b => ⟨hL, b1, by omega, ?_⟩⟩⟩
  · intro z; unfold isE at z; omega
  · rw [b3 i (by omega)]
    refine ⟨fun c => h0 ?_, fun c => h1 (Or.inr ⟨by omega, c⟩)⟩
    intro z; unfold isE at z; omega

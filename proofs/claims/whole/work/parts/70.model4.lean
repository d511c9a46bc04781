theorem sL_app {U A : Int → Int} : ∀ (a b : List Int) (j : Int), j < fL U A b → (∀ x ∈ a, 0 ≤ U (A x + 3)) → (∀ x ∈ b, 0 ≤ U (A x + 3)) → sL U A (a ++ b) j = sL U A b j
  | [], b, j, _, _, _ => rfl
  | k :: a, b, j, h, ha, hb => by
    have hn : ∀ l : List Int, (∀ x ∈ l, 0 ≤ U (A x + 3)) → 0 ≤ fL U A l := by
      intro l
      induction l with
      | nil => intro _; exact Int.le_refl _
      | cons y l ih =>
        intro hl
        have h1 := hl y List.mem_cons_self
        have h2 := ih (fun x hx => hl x (List.mem_cons_of_mem _ hx))
        show 0 ≤ U (A y + 3) + fL U A l
        omega
    have h1 := hn a (fun x hx => ha x (List.mem_cons_of_mem _ hx))
    show (if fL U A (a ++ b) ≤ j then U (A k + 4 + (j - fL U A (a ++ b))) else sL U A (a ++ b) j) = _
    rw [if_neg (by rw [fL_app]; omega)]
    exact sL_app a b j h (fun x hx => ha x (List.mem_cons_of_mem _ hx)) hb
def TF_Model_sortOf (o : Nat) (p : Int) (x : Int) (j : Int) (sz sl : Nat) (lay : Nat → Nat × Int) (ρ : Nat → Int → Nat) (σ : Nat → Int → Int) (τ : Nat → Int → Int64) (k : Option AV → Mm → Prop) : Prop := LModel lay ρ o ∧ ∃ (U : Int → Int) (len : Int) (A : Int → Int), MB σ o p U len A ∧ kn5 A x ∧ (0 ≤ j ∧ j < fL U A (ch U A x)) ∧ (∀ σ2 : Nat → Int → Int, Fr σ σ2 (o + 23) 0 → k (some (vI (sL U A (ch U A x) j))) (sz, sl, lay, ρ, σ2, τ))
def T_Model_sortOf : Tr := mkT 11 fun o as M k => pI as fun p as => pI as fun x as => pI as fun j as => as = [] ∧ TF_Model_sortOf o p x j M.1 M.2.1 M.2.2.1 M.2.2.2.1 M.2.2.2.2.1 M.2.2.2.2.2 k
theorem T_Model_sortOf_e {o : Nat} {p : Int} {x : Int} {j : Int} {sz sl : Nat} {lay : Nat → Nat × Int} {ρ : Nat → Int → Nat} {σ : Nat → Int → Int} {τ : Nat → Int → Int64} {k : Option AV → Mm → Prop} : T_Model_sortOf [vR o, vI p, vI x, vI j] (sz, sl, lay, ρ, σ, τ) k = (lay o = (21, 0) ∧ TF_Model_sortOf o p x j sz sl lay ρ σ τ k) := by simp [T_Model_sortOf, mkT_e, pI_e, pR_e, pL_e]
theorem T_Model_sortOf_r (as : List AV) (M : Mm) (k : Option AV → Mm → Prop) (h : T_Model_sortOf as M k) : ∃ b As, as = vR b :: As ∧ M.2.2.1 b = (10 + 11, 0) := by
  obtain ⟨b, As, h1, h2, -⟩ := mkT_r h
  exact ⟨b, As, h1, h2⟩
def tb_Model_sortOf : List (Nat × Option (List Nat) × Instr × List Nat) := [(0, none, .iload_n 3, []), (1, none, .istore 4, []), (3, none, .aload_n 0, []), (4, none, .iload_n 1, []), (5, none, .iload_n 2, []), (6, none, .invokevirtual 102, []), (9, none, .iconst 1, []), (10, none, .isub, []), (11, none, .istore 5, []), (13, some [0, 1, 2, 3, 4, 5], .iload 5, []), (15, none, .ifCond .lt 61, [76]), (18, none, .aload_n 0, []), (19, none, .iload_n 1, []), (20, none, .aload_n 0, []), (21, none, .getfield 78, []), (24, none, .iload 5, []), (26, none, .iaload, []), (27, none, .invokevirtual 99, []), (30, none, .istore 6, []), (32, none, .aload_n 0, []), (33, none, .iload_n 1, []), (34, none, .iload 6, []), (36, none, .iconst 3, []), (37, none, .iadd, []), (38, none, .invokevirtual 95, []), (41, none, .istore 7, []), (43, none, .iload 4, []), (45, none, .iload 7, []), (47, none, .if_icmp .ge 16, [63]), (50, none, .aload_n 0, []), (51, none, .iload_n 1, []), (52, none, .iload 6, []), (54, none, .iconst 4, []), (55, none, .iadd, []), (56, none, .iload 4, []), (58, none, .iadd, []), (59, none, .invokevirtual 95, []), (62, none, .ireturn, []), (63, none, .iload 4, []), (65, none, .iload 7, []), (67, none, .isub, []), (68, none, .istore 4, []), (70, none, .iinc 5 (-1), []), (73, none, .goto (-60), [13]), (76, none, .iconst (-1), []), (77, none, .ireturn, [])]
def P_Model_sortOf : Nat → Option (List Nat) × Instr × List Nat := plk tb_Model_sortOf
theorem r_Model_sortOf_0 : P_Model_sortOf 0 = (none, .iload_n 3, []) := by decide +kernel
theorem r_Model_sortOf_1 : P_Model_sortOf 1 = (none, .istore 4, []) := by decide +kernel
theorem r_Model_sortOf_3 : P_Model_sortOf 3 = (none, .aload_n 0, []) := by decide +kernel
theorem r_Model_sortOf_4 : P_Model_sortOf 4 = (none, .iload_n 1, []) := by decide +kernel
theorem r_Model_sortOf_5 : P_Model_sortOf 5 = (none, .iload_n 2, []) := by decide +kernel
theorem r_Model_sortOf_6 : P_Model_sortOf 6 = (none, .invokevirtual 102, []) := by decide +kernel
theorem r_Model_sortOf_9 : P_Model_sortOf 9 = (none, .iconst 1, []) := by decide +kernel
theorem r_Model_sortOf_10 : P_Model_sortOf 10 = (none, .isub, []) := by decide +kernel
theorem r_Model_sortOf_11 : P_Model_sortOf 11 = (none, .istore 5, []) := by decide +kernel
theorem r_Model_sortOf_13 : P_Model_sortOf 13 = (some [0, 1, 2, 3, 4, 5], .iload 5, []) := by decide +kernel
theorem r_Model_sortOf_15 : P_Model_sortOf 15 = (none, .ifCond .lt 61, [76]) := by decide +kernel
theorem r_Model_sortOf_18 : P_Model_sortOf 18 = (none, .aload_n 0, []) := by decide +kernel
theorem r_Model_sortOf_19 : P_Model_sortOf 19 = (none, .iload_n 1, []) := by decide +kernel
theorem r_Model_sortOf_20 : P_Model_sortOf 20 = (none, .aload_n 0, []) := by decide +kernel
theorem r_Model_sortOf_21 : P_Model_sortOf 21 = (none, .getfield 78, []) := by decide +kernel
theorem r_Model_sortOf_24 : P_Model_sortOf 24 = (none, .iload 5, []) := by decide +kernel
theorem r_Model_sortOf_26 : P_Model_sortOf 26 = (none, .iaload, []) := by decide +kernel
theorem r_Model_sortOf_27 : P_Model_sortOf 27 = (none, .invokevirtual 99, []) := by decide +kernel
theorem r_Model_sortOf_30 : P_Model_sortOf 30 = (none, .istore 6, []) := by decide +kernel
theorem r_Model_sortOf_32 : P_Model_sortOf 32 = (none, .aload_n 0, []) := by decide +kernel
theorem r_Model_sortOf_33 : P_Model_sortOf 33 = (none, .iload_n 1, []) := by decide +kernel
theorem r_Model_sortOf_34 : P_Model_sortOf 34 = (none, .iload 6, []) := by decide +kernel
theorem r_Model_sortOf_36 : P_Model_sortOf 36 = (none, .iconst 3, []) := by decide +kernel
theorem r_Model_sortOf_37 : P_Model_sortOf 37 = (none, .iadd, []) := by decide +kernel
theorem r_Model_sortOf_38 : P_Model_sortOf 38 = (none, .invokevirtual 95, []) := by decide +kernel
theorem r_Model_sortOf_41 : P_Model_sortOf 41 = (none, .istore 7, []) := by decide +kernel
theorem r_Model_sortOf_43 : P_Model_sortOf 43 = (none, .iload 4, []) := by decide +kernel
theorem r_Model_sortOf_45 : P_Model_sortOf 45 = (none, .iload 7, []) := by decide +kernel
theorem r_Model_sortOf_47 : P_Model_sortOf 47 = (none, .if_icmp .ge 16, [63]) := by decide +kernel
theorem r_Model_sortOf_50 : P_Model_sortOf 50 = (none, .aload_n 0, []) := by decide +kernel
theorem r_Model_sortOf_51 : P_Model_sortOf 51 = (none, .iload_n 1, []) := by decide +kernel
theorem r_Model_sortOf_52 : P_Model_sortOf 52 = (none, .iload 6, []) := by decide +kernel
theorem r_Model_sortOf_54 : P_Model_sortOf 54 = (none, .iconst 4, []) := by decide +kernel
theorem r_Model_sortOf_55 : P_Model_sortOf 55 = (none, .iadd, []) := by decide +kernel
theorem r_Model_sortOf_56 : P_Model_sortOf 56 = (none, .iload 4, []) := by decide +kernel
theorem r_Model_sortOf_58 : P_Model_sortOf 58 = (none, .iadd, []) := by decide +kernel
theorem r_Model_sortOf_59 : P_Model_sortOf 59 = (none, .invokevirtual 95, []) := by decide +kernel
theorem r_Model_sortOf_62 : P_Model_sortOf 62 = (none, .ireturn, []) := by decide +kernel
theorem r_Model_sortOf_63 : P_Model_sortOf 63 = (none, .iload 4, []) := by decide +kernel
theorem r_Model_sortOf_65 : P_Model_sortOf 65 = (none, .iload 7, []) := by decide +kernel
theorem r_Model_sortOf_67 : P_Model_sortOf 67 = (none, .isub, []) := by decide +kernel
theorem r_Model_sortOf_68 : P_Model_sortOf 68 = (none, .istore 4, []) := by decide +kernel
theorem r_Model_sortOf_70 : P_Model_sortOf 70 = (none, .iinc 5 (-1), []) := by decide +kernel
theorem r_Model_sortOf_73 : P_Model_sortOf 73 = (none, .goto (-60), [13]) := by decide +kernel
theorem r_Model_sortOf_76 : P_Model_sortOf 76 = (none, .iconst (-1), []) := by decide +kernel
theorem r_Model_sortOf_77 : P_Model_sortOf 77 = (none, .ireturn, []) := by decide +kernel
def E_Model_sortOf : List (Nat × Ent) := [(408, (3, 1, 0, 0, T_Model_above)), (380, (3, 0, 0, 0, T_Model_at)), (396, (3, 0, 0, 0, T_Model_kindPlace))]
def X_Model_sortOf : Cx := (llk (0, 0, 9) ftX11, llk 99 ntX11, llk none kcX11, llk none klX11, llk dEnt E_Model_sortOf, 2, 0, false)
theorem xok_Model_sortOf : Xok RX11 X_Model_sortOf := xok_of ftX11_ok ntX11_ok kcX11_ok klX11_ok (E := E_Model_sortOf) (List.forall_mem_cons.mpr ⟨co_X11_408, List.forall_mem_cons.mpr ⟨co_X11_380, List.forall_mem_cons.mpr ⟨co_X11_396, fun _ h => absurd h List.not_mem_nil⟩⟩⟩)
theorem xf_Model_sortOf_78 : xfl X_Model_sortOf 78 = (11, 24, 1) := by decide +kernel
theorem xe_Model_sortOf_408 : xE X_Model_sortOf (4 * 102 + 0) = (3, 1, 0, 0, T_Model_above) := rfl
theorem xe_Model_sortOf_380 : xE X_Model_sortOf (4 * 95 + 0) = (3, 0, 0, 0, T_Model_at) := rfl
theorem xe_Model_sortOf_396 : xE X_Model_sortOf (4 * 99 + 0) = (3, 0, 0, 0, T_Model_kindPlace) := rfl
theorem xd_Model_sortOf : xd X_Model_sortOf = 2 := rfl
theorem xrb_Model_sortOf : xrb X_Model_sortOf = 0 := rfl
theorem xin_Model_sortOf : xin X_Model_sortOf = false := rfl
set_option maxHeartbeats 4000000 in
set_option maxRecDepth 100000 in
theorem S_Model_sortOf : Snd yX11_sortOf cX11_sortOf 8 (some .int) T_Model_sortOf 2 0 0 := by
  refine snd_of (X := X_Model_sortOf) (P := P_Model_sortOf) (tb := tb_Model_sortOf) (own := RX11) (by decide) rfl rfl (by decide +kernel) xok_Model_sortOf rfl rk0 (fun h => by first | rfl | cases h) ?_
  intro as M k has hM hT0
  obtain ⟨sz, sl, lay, ρ, σ, τ⟩ := M
  obtain ⟨o, as1, e, hlo, hT1⟩ := mkT_r hT0
  clear hT0
  subst e
  obtain ⟨p, as2, e, hT2⟩ := pI_x hT1
  clear hT1
  subst e
  obtain ⟨x, as3, e, hT3⟩ := pI_x hT2
  clear hT2
  subst e
  obtain ⟨j, as4, e, hT4⟩ := pI_x hT3
  clear hT3
  subst e
  obtain ⟨e, hT⟩ := hT4
  subst e
  replace hlo : lay o = (21, 0) := hlo
  have r_p : -2147483648 ≤ p ∧ p ≤ 2147483647 := has (vI p) (by simp)
  have r_x : -2147483648 ≤ x ∧ x ≤ 2147483647 := has (vI x) (by simp)
  have r_j : -2147483648 ≤ j ∧ j ≤ 2147483647 := has (vI j) (by simp)
  clear has
  replace hM : ∀ a i, -2147483648 ≤ σ a i ∧ σ a i ≤ 2147483647 := hM
  replace hT : TF_Model_sortOf o p x j sz sl lay ρ σ τ k := hT
  unfold TF_Model_sortOf at hT
  obtain ⟨hL, U, len, A, hB, hx, hj, hT⟩ := hT
  obtain ⟨J, hJd⟩ : ∃ J : Nat → List AV → Mm → Prop, J = (fun c vs M1 => c = 13 ∧ ∃ (pre suf : List Int) (σ1 : Nat → Int → Int), (ch U A x) = pre ++ suf ∧ Fr σ σ1 (o + 23) 0 ∧ (∀ i : Nat, i < (ch U A x).length → σ1 (o + 23) i = (ch U A x).getD i 0) ∧ fL U A suf ≤ j ∧ vs = [vR o, vI p, vI x, vI j, vI (j - fL U A suf), vI (pre.length - 1 : Int)] ∧ M1 = (sz, sl, lay, ρ, σ1, τ)) := ⟨_, rfl⟩
  obtain ⟨μ, hμ⟩ : ∃ μ : Nat → List AV → Mm → Nat, μ = (fun _ vs _ => (gI (vs.getD 5 vN) + 1).toNat) := ⟨_, rfl⟩
  refine ⟨Nat.le_of_ble_eq_true rfl, J, μ, 54, ?_, ?_⟩
  · obtain ⟨mh, mp0, mp2, mp3, mp4, mp5, mp6, mp7, mp8, mp9, mp10, mp11, mp12, mp13, mp14, mp15, mp16, mp17, mp18, mp19, mp20, mp21, mp22, mp24, mp25, mp26, mp27, mq0, mq2, mq3, mq4, mq5, mq6, mq7, mq8, mq9, mq10, mq11, mq12, mq13, mq14, mq15, mq16, mq17, mq18, mq19, mq20, mq21, mq22, mq24, mq25, mq26, mq27⟩ := (show LModel lay ρ _ from hL)
    unfold wps
    simp only [si_iload_n0, si_iload_n1, si_iload_n2, si_iload_n3, si_iload, si_lload_n0, si_lload_n1, si_lload_n2, si_lload_n3, si_lload, si_aload_n0, si_aload_n1, si_aload_n2, si_aload_n3, si_aload, si_istore_n0, si_istore_n1, si_istore_n2, si_istore_n3, si_istore, si_astore_n0, si_astore_n1, si_astore_n2, si_astore_n3, si_astore, si_lstore_n0, si_lstore_n1, si_lstore_n2, si_lstore_n3, si_lstore, si_iconst, si_bipush, si_sipush, si_ldc, si_ldc2_w, si_lconst0, si_lconst1, si_aconst_null, si_iinc, si_dup, si_dup2, si_iadd, si_isub, si_imul, si_idiv, si_irem, si_iand, si_ior, si_ishl, si_ishr, si_ladd, si_lmul, si_lor, si_lxor, si_lshl, si_lushr, si_lcmp, si_i2b, si_i2l, si_l2i, si_icmp_eq, si_icmp_ne, si_icmp_lt, si_icmp_ge, si_icmp_gt, si_icmp_le, si_if_eq, si_if_ne, si_if_lt, si_if_ge, si_if_gt, si_if_le, si_ifnull, si_ifnonnull, si_goto, si_tableswitch, si_lookupswitch, si_getfield, si_putfield, si_getstatic, si_iaload, si_baload, si_laload, si_aaload, si_iastore, si_bastore, si_lastore, si_aastore, si_arraylength, si_new, si_newarray, si_anewarray, si_invokevirtual, si_invokespecial, si_invokestatic, si_ireturn, si_lreturn, si_areturn, si_return_, pI_e, pL_e, pR_e, pA_r, pA_n, pN_n, pN_r, oI_e, oL_e, oA_r, oA_n, lget_e, lrm1_0, lrm2_0, lrm1_i, lrm1_r, lrm1_n, lrm1_l, lrm2_i, lrm2_r, lrm2_n, lrm2_l, popN_0, popN_s, acat_i, acat_l, acat_r, acat_n, stw_0, stw_s, psh_s, psh_n, wgf_r, wgf_i, wgf_b, wgf_n, wgf_m, wpf_i, wpf_r, wpf_b, wnew_e, callE_e, rbk_0, rbk_1, tsw_0, tsw_s, lsw_0, lsw_s, wp_s, wq_t, wq_f, oV_e, pick_0, pick_s, oZ_e, oY_e, r_Model_sortOf_0, r_Model_sortOf_1, r_Model_sortOf_3, r_Model_sortOf_4, r_Model_sortOf_5, r_Model_sortOf_6, r_Model_sortOf_9, r_Model_sortOf_10, r_Model_sortOf_11, r_Model_sortOf_13, r_Model_sortOf_15, r_Model_sortOf_18, r_Model_sortOf_19, r_Model_sortOf_20, r_Model_sortOf_21, r_Model_sortOf_24, r_Model_sortOf_26, r_Model_sortOf_27, r_Model_sortOf_30, r_Model_sortOf_32, r_Model_sortOf_33, r_Model_sortOf_34, r_Model_sortOf_36, r_Model_sortOf_37, r_Model_sortOf_38, r_Model_sortOf_41, r_Model_sortOf_43, r_Model_sortOf_45, r_Model_sortOf_47, r_Model_sortOf_50, r_Model_sortOf_51, r_Model_sortOf_52, r_Model_sortOf_54, r_Model_sortOf_55, r_Model_sortOf_56, r_Model_sortOf_58, r_Model_sortOf_59, r_Model_sortOf_62, r_Model_sortOf_63, r_Model_sortOf_65, r_Model_sortOf_67, r_Model_sortOf_68, r_Model_sortOf_70, r_Model_sortOf_73, r_Model_sortOf_76, r_Model_sortOf_77, xf_Model_sortOf_78, xe_Model_sortOf_408, xe_Model_sortOf_380, xe_Model_sortOf_396, xd_Model_sortOf, xrb_Model_sortOf, xin_Model_sortOf, T_Model_above_e, TF_Model_above, T_Model_at_e, TF_Model_at, T_Model_kindPlace_e, TF_Model_kindPlace, mh, mp0, mp2, mp3, mp4, mp5, mp6, mp7, mp8, mp9, mp10, mp11, mp12, mp13, mp14, mp15, mp16, mp17, mp18, mp19, mp20, mp21, mp22, mp24, mp25, mp26, mp27, mq0, mq2, mq3, mq4, mq5, mq6, mq7, mq8, mq9, mq10, mq11, mq12, mq13, mq14, mq15, mq16, mq17, mq18, mq19, mq20, mq21, mq22, mq24, mq25, mq26, mq27, Nat.reduceAdd, Nat.reduceMul, Nat.reduceEqDiff, reduceIte, Int.reduceNeg, Int.reduceLE, Int.reduceLT, Int.reduceAdd, Int.reduceSub, Int.reduceToNat, true_and, and_true, inR_e, Nat.reduceLT, Nat.reduceLeDiff, reduceCtorEq, Nat.add_zero, Nat.zero_add, or_false, false_or, or_true, true_or, not_true_eq_false, not_false_eq_true, Classical.not_not, Nat.add_eq_zero_iff, and_false, false_and, Int.reduceEq, List.mem_cons, List.not_mem_nil, forall_eq_or_imp, forall_eq, false_implies, implies_true, forall_const, aargs_0, aargs_i, aargs_r, aargs_l, aargs_n, nfT_e, eq_self, and_self, Nat.le_refl, fu_s, fu_fu, iu_iu, iu_s, fu_am, fu_a0, fu_0a, iu_l, Nat.reduceBEq, Int.reduceBEq, T_objInit_e]
    clear mp0 mp2 mp3 mp4 mp5 mp6 mp7 mp8 mp9 mp10 mp11 mp12 mp13 mp14 mp15 mp16 mp17 mp18 mp19 mp20 mp21 mp22 mp24 mp25 mp26 mp27
    have hlen := ch_len hB.2.2.2.2.1 hx
    refine ⟨hL, U, len, A, hB, hx, fun σ2 f1 f2 => ⟨by omega, ?_⟩⟩
    rw [hJd]
    refine ⟨rfl, ch U A x, [], σ2, by rw [List.append_nil], f1, f2, hj.1, ?_, rfl⟩
    show [vR o, vI p, vI x, vI j, vI j, vI ((ch U A x).length - 1)] = [vR o, vI p, vI x, vI j, vI (j - 0), vI ((ch U A x).length - 1)]
    rw [Int.sub_zero]
  · intro cp vs M1 hvs hM1 hlen hJ
    rw [hJd] at hJ
    obtain ⟨rfl, pre, suf, σ1, g2, g3, g4, g5, rfl, rfl⟩ := hJ
    have e2 : σ1 (o + 2) = σ (o + 2) := g3 _ (by omega)
    have e11 : σ1 (o + 11) = σ (o + 11) := g3 _ (by omega)
    obtain ⟨b1, b2, b3, b4, b5, b6, b7⟩ := (show MB σ o p U len A from hB)
    have hlen := ch_len b5 hx
    have hin := ch_in b5 x hx
    have hl2 : (ch U A x).length = pre.length + suf.length := by rw [g2, List.length_append]
    have hfs := fL_R b5 suf (fun z hz => hin z (by rw [g2]; exact List.mem_append_right _ hz))
    have hfa := fL_b b5 hx
    (obtain ⟨mh, mp0, mp2, mp3, mp4, mp5, mp6, mp7, mp8, mp9, mp10, mp11, mp12, mp13, mp14, mp15, mp16, mp17, mp18, mp19, mp20, mp21, mp22, mp24, mp25, mp26, mp27, mq0, mq2, mq3, mq4, mq5, mq6, mq7, mq8, mq9, mq10, mq11, mq12, mq13, mq14, mq15, mq16, mq17, mq18, mq19, mq20, mq21, mq22, mq24, mq25, mq26, mq27⟩ := (show LModel lay ρ _ from hL); unfold wps; simp only [Option.getD_some, List.zip_cons_cons, List.zip_nil_left, List.zip_nil_right, List.zip_nil_right, e2, e11, si_iload_n0, si_iload_n1, si_iload_n2, si_iload_n3, si_iload, si_lload_n0, si_lload_n1, si_lload_n2, si_lload_n3, si_lload, si_aload_n0, si_aload_n1, si_aload_n2, si_aload_n3, si_aload, si_istore_n0, si_istore_n1, si_istore_n2, si_istore_n3, si_istore, si_astore_n0, si_astore_n1, si_astore_n2, si_astore_n3, si_astore, si_lstore_n0, si_lstore_n1, si_lstore_n2, si_lstore_n3, si_lstore, si_iconst, si_bipush, si_sipush, si_ldc, si_ldc2_w, si_lconst0, si_lconst1, si_aconst_null, si_iinc, si_dup, si_dup2, si_iadd, si_isub, si_imul, si_idiv, si_irem, si_iand, si_ior, si_ishl, si_ishr, si_ladd, si_lmul, si_lor, si_lxor, si_lshl, si_lushr, si_lcmp, si_i2b, si_i2l, si_l2i, si_icmp_eq, si_icmp_ne, si_icmp_lt, si_icmp_ge, si_icmp_gt, si_icmp_le, si_if_eq, si_if_ne, si_if_lt, si_if_ge, si_if_gt, si_if_le, si_ifnull, si_ifnonnull, si_goto, si_tableswitch, si_lookupswitch, si_getfield, si_putfield, si_getstatic, si_iaload, si_baload, si_laload, si_aaload, si_iastore, si_bastore, si_lastore, si_aastore, si_arraylength, si_new, si_newarray, si_anewarray, si_invokevirtual, si_invokespecial, si_invokestatic, si_ireturn, si_lreturn, si_areturn, si_return_, pI_e, pL_e, pR_e, pA_r, pA_n, pN_n, pN_r, oI_e, oL_e, oA_r, oA_n, lget_e, lrm1_0, lrm2_0, lrm1_i, lrm1_r, lrm1_n, lrm1_l, lrm2_i, lrm2_r, lrm2_n, lrm2_l, popN_0, popN_s, acat_i, acat_l, acat_r, acat_n, stw_0, stw_s, psh_s, psh_n, wgf_r, wgf_i, wgf_b, wgf_n, wgf_m, wpf_i, wpf_r, wpf_b, wnew_e, callE_e, rbk_0, rbk_1, tsw_0, tsw_s, lsw_0, lsw_s, wp_s, wq_t, wq_f, oV_e, pick_0, pick_s, oZ_e, oY_e, r_Model_sortOf_0, r_Model_sortOf_1, r_Model_sortOf_3, r_Model_sortOf_4, r_Model_sortOf_5, r_Model_sortOf_6, r_Model_sortOf_9, r_Model_sortOf_10, r_Model_sortOf_11, r_Model_sortOf_13, r_Model_sortOf_15, r_Model_sortOf_18, r_Model_sortOf_19, r_Model_sortOf_20, r_Model_sortOf_21, r_Model_sortOf_24, r_Model_sortOf_26, r_Model_sortOf_27, r_Model_sortOf_30, r_Model_sortOf_32, r_Model_sortOf_33, r_Model_sortOf_34, r_Model_sortOf_36, r_Model_sortOf_37, r_Model_sortOf_38, r_Model_sortOf_41, r_Model_sortOf_43, r_Model_sortOf_45, r_Model_sortOf_47, r_Model_sortOf_50, r_Model_sortOf_51, r_Model_sortOf_52, r_Model_sortOf_54, r_Model_sortOf_55, r_Model_sortOf_56, r_Model_sortOf_58, r_Model_sortOf_59, r_Model_sortOf_62, r_Model_sortOf_63, r_Model_sortOf_65, r_Model_sortOf_67, r_Model_sortOf_68, r_Model_sortOf_70, r_Model_sortOf_73, r_Model_sortOf_76, r_Model_sortOf_77, xf_Model_sortOf_78, xe_Model_sortOf_408, xe_Model_sortOf_380, xe_Model_sortOf_396, xd_Model_sortOf, xrb_Model_sortOf, xin_Model_sortOf, T_Model_above_e, TF_Model_above, T_Model_at_e, TF_Model_at, T_Model_kindPlace_e, TF_Model_kindPlace, mh, mp0, mp2, mp3, mp4, mp5, mp6, mp7, mp8, mp9, mp10, mp11, mp12, mp13, mp14, mp15, mp16, mp17, mp18, mp19, mp20, mp21, mp22, mp24, mp25, mp26, mp27, mq0, mq2, mq3, mq4, mq5, mq6, mq7, mq8, mq9, mq10, mq11, mq12, mq13, mq14, mq15, mq16, mq17, mq18, mq19, mq20, mq21, mq22, mq24, mq25, mq26, mq27, Nat.reduceAdd, Nat.reduceMul, Nat.reduceEqDiff, reduceIte, Int.reduceNeg, Int.reduceLE, Int.reduceLT, Int.reduceAdd, Int.reduceSub, Int.reduceToNat, true_and, and_true, inR_e, Nat.reduceLT, Nat.reduceLeDiff, reduceCtorEq, Nat.add_zero, Nat.zero_add, or_false, false_or, or_true, true_or, not_true_eq_false, not_false_eq_true, Classical.not_not, Nat.add_eq_zero_iff, and_false, false_and, Int.reduceEq, List.mem_cons, List.not_mem_nil, forall_eq_or_imp, forall_eq, false_implies, implies_true, forall_const, aargs_0, aargs_i, aargs_r, aargs_l, aargs_n, nfT_e, eq_self, and_self, Nat.le_refl, fu_s, fu_fu, iu_iu, iu_s, fu_am, fu_a0, fu_0a, iu_l, Nat.reduceBEq, Int.reduceBEq, T_objInit_e]; clear mp0 mp2 mp3 mp4 mp5 mp6 mp7 mp8 mp9 mp10 mp11 mp12 mp13 mp14 mp15 mp16 mp17 mp18 mp19 mp20 mp21 mp22 mp24 mp25 mp26 mp27)
    rcases List.eq_nil_or_concat pre with e | ⟨pre2, y, e⟩
    · rw [e, List.nil_append] at g2
      rw [g2] at hj
      omega
    · try rw [List.concat_eq_append] at e
      have hpl : pre.length = pre2.length + 1 := by rw [e, List.length_append]; rfl
      have g6 : ch U A x = pre2 ++ (y :: suf) := by rw [g2, e, List.append_assoc]; rfl
      have hy := hin y (by rw [g6]; exact List.mem_append_right _ List.mem_cons_self)
      have ey : σ1 (o + 23) ((pre.length : Int) - 1) = y := by
        rw [show (pre.length : Int) - 1 = (pre2.length : Int) by omega, g4 pre2.length (by omega), g6]
        simp
      have h6 := b6 y hy.1 hy.2
      have h3 := b5.1 (A y + 3)
      have h12 := (b5.2 y hy.1 hy.2).2.2.1
      rw [ey, b4 y hy.1, b3 (A y + 3) (by omega)]
      refine ⟨fun h => by omega, fun h => ⟨by omega, by omega, hL, b1, fun _ => ⟨by omega, hL, b1, by omega, fun z => ⟨by omega, by omega, ?_, (by rw [hμ]; simp only [gI_e, List.getD_cons_succ, List.getD_cons_zero]; omega)⟩, fun z => ⟨by omega, by omega, hL, b1, by omega, ?_⟩⟩, fun z => absurd hy.1 z⟩⟩
      · rw [hJd]
        refine ⟨rfl, pre2, y :: suf, σ1, g6, g3, g4, ?_, ?_, rfl⟩
        · show U (A y + 3) + fL U A suf ≤ j
          omega
        · rw [show (pre.length : Int) - 1 + -1 = (pre2.length : Int) - 1 by omega]
          show [vR o, vI p, vI x, vI j, vI (j - fL U A suf - U (A y + 3)), _] = [vR o, vI p, vI x, vI j, vI (j - (U (A y + 3) + fL U A suf)), _]
          rw [show j - (U (A y + 3) + fL U A suf) = j - fL U A suf - U (A y + 3) by omega]
      · rw [b3 (A y + 4 + (j - fL U A suf)) (by omega)]
        have := hT σ1 g3
        rw [g6, sL_app pre2 (y :: suf) j (by show j < U (A y + 3) + fL U A suf; omega) (fun z _ => (b5.1 _).1) (fun z _ => (b5.1 _).1)] at this
        rw [show sL U A (y :: suf) j = (if fL U A suf ≤ j then U (A y + 4 + (j - fL U A suf)) else sL U A suf j) from rfl, if_pos g5] at this
        exact this

theorem cntP_gap {P : Int → Prop} {a : Nat} : ∀ d : Nat, (∀ x : Int, a ≤ x ∧ x < (a + d : Nat) → ¬ P x) → cntP P (a + d) = cntP P a
  | 0, _ => rfl
  | d + 1, h => by
    show cntP P (a + d + 1) = _
    rw [cntP_sf (h ((a + d : Nat) : Int) (by omega))]
    exact cntP_gap d (fun x hx => h x (by omega))
/-- how many differ so below a number; -1: in all -/
noncomputable def dfN (U : Int → Int) (st : Nat → Int → Int) (V : Int → Int) (su : Nat → Int → Int) (w z : Int) : Int := if z < 0 then cntP (dfP U st V su w) 65536 else cntP (dfP U st V su w) z.toNat
section
variable {U V : Int → Int} {len lem w y z : Int} {st su : Nat → Int → Int}
theorem inP_R (hS : SW U len st) (hS2 : SW V lem su) {n : Int} (h : inP U st V su n) : 0 < n ∧ n < 65536 := by
  rcases h with h | h
  · rcases hS.fnR n with e | e
    · omega
    · have := hS.num e.1
      rw [e.2] at this
      exact this
  · rcases hS2.fnR n with e | e
    · omega
    · have := hS2.num e.1
      rw [e.2] at this
      exact this
theorem dfN_nx (hS : SW U len st) (hS2 : SW V lem su) (hy : 0 ≤ y ∧ y < 65536) (h : Lst (inP U st V su) y z) : dfN U st V su w z = cntP (dfP U st V su w) (y.toNat + 1) := by
  unfold dfN
  rcases h with ⟨h1, h2⟩ | ⟨h1, h2, h3⟩
  · rw [if_pos (by omega), show 65536 = (y.toNat + 1) + (65536 - (y.toNat + 1)) by omega]
    refine cntP_gap _ (fun x hx hd => ?_)
    have := h2 x hd.1
    omega
  · have r := inP_R hS hS2 h1
    rw [if_neg (by omega), show z.toNat = (y.toNat + 1) + (z.toNat - (y.toNat + 1)) by omega]
    refine cntP_gap _ (fun x hx hd => ?_)
    have := h3 x hd.1 (by omega)
    omega
end
theorem co_X11_872 : CallOK RX11 (.invokevirtual 218) (4, 3, 0, 0, T_Model_nextNumber) := call_V S_Model_nextNumber (by decide) (ci := 11) rfl (by decide +kernel) (by decide +kernel) (by decide +kernel) (by decide +kernel) (by decide +kernel) (by decide +kernel) T_Model_nextNumber_r
theorem co_X11_884 : CallOK RX11 (.invokevirtual 221) (4, 6, 0, 0, T_Model_change) := call_V S_Model_change (by decide) (ci := 11) rfl (by decide +kernel) (by decide +kernel) (by decide +kernel) (by decide +kernel) (by decide +kernel) (by decide +kernel) T_Model_change_r
def TF_Model_changed (o : Nat) (p : Int) (q : Int) (w : Int) (i : Int) (sz sl : Nat) (lay : Nat → Nat × Int) (ρ : Nat → Int → Nat) (σ : Nat → Int → Int) (τ : Nat → Int → Int64) (k : Option AV → Mm → Prop) : Prop := LModel lay ρ o ∧ ∃ (U : Int → Int) (len : Int) (st : Nat → Int → Int) (V : Int → Int) (lem : Int) (su : Nat → Int → Int), (SW U len st ∧ MR σ o p U len st) ∧ (SW V lem su ∧ MR σ o q V lem su) ∧ ∀ σ2 : Nat → Int → Int, QF σ σ2 o → (i < 0 → k (some (vI (cntP (dfP U st V su w) 65536))) (sz, sl, lay, ρ, σ2, τ)) ∧ (0 ≤ i → (∀ x, 0 ≤ x ∧ x < 65536 → dfP U st V su w x → cntP (dfP U st V su w) x.toNat = i → k (some (vI (x))) (sz, sl, lay, ρ, σ2, τ)) ∧ (cntP (dfP U st V su w) 65536 ≤ i → k (some (vI (-1))) (sz, sl, lay, ρ, σ2, τ)))
def T_Model_changed : Tr := mkT 11 fun o as M k => pI as fun p as => pI as fun q as => pI as fun w as => pI as fun i as => as = [] ∧ TF_Model_changed o p q w i M.1 M.2.1 M.2.2.1 M.2.2.2.1 M.2.2.2.2.1 M.2.2.2.2.2 k
theorem T_Model_changed_e {o : Nat} {p : Int} {q : Int} {w : Int} {i : Int} {sz sl : Nat} {lay : Nat → Nat × Int} {ρ : Nat → Int → Nat} {σ : Nat → Int → Int} {τ : Nat → Int → Int64} {k : Option AV → Mm → Prop} : T_Model_changed [vR o, vI p, vI q, vI w, vI i] (sz, sl, lay, ρ, σ, τ) k = (lay o = (21, 0) ∧ TF_Model_changed o p q w i sz sl lay ρ σ τ k) := by simp [T_Model_changed, mkT_e, pI_e, pR_e, pL_e]
theorem T_Model_changed_r (as : List AV) (M : Mm) (k : Option AV → Mm → Prop) (h : T_Model_changed as M k) : ∃ b As, as = vR b :: As ∧ M.2.2.1 b = (10 + 11, 0) := by
  obtain ⟨b, As, h1, h2, -⟩ := mkT_r h
  exact ⟨b, As, h1, h2⟩
def tb_Model_changed : List (Nat × Option (List Nat) × Instr × List Nat) := [(0, none, .iconst 0, []), (1, none, .istore 5, []), (3, none, .aload_n 0, []), (4, none, .iload_n 1, []), (5, none, .iload_n 2, []), (6, none, .iconst 0, []), (7, none, .invokevirtual 218, []), (10, none, .istore 6, []), (12, some [0, 1, 2, 3, 4, 5, 6], .iload 6, []), (14, none, .ifCond .lt 41, [55]), (17, none, .aload_n 0, []), (18, none, .iload_n 1, []), (19, none, .iload_n 2, []), (20, none, .iload 6, []), (22, none, .invokevirtual 221, []), (25, none, .iload_n 3, []), (26, none, .if_icmp .ne 16, [42]), (29, none, .iload 5, []), (31, none, .iload 4, []), (33, none, .if_icmp .ne 6, [39]), (36, none, .iload 6, []), (38, none, .ireturn, []), (39, none, .iinc 5 1, []), (42, none, .aload_n 0, []), (43, none, .iload_n 1, []), (44, none, .iload_n 2, []), (45, none, .iload 6, []), (47, none, .invokevirtual 218, []), (50, none, .istore 6, []), (52, none, .goto (-40), [12]), (55, none, .iload 4, []), (57, none, .ifCond .ge 8, [65]), (60, none, .iload 5, []), (62, none, .goto 4, [66]), (65, none, .iconst (-1), []), (66, none, .ireturn, [])]
def P_Model_changed : Nat → Option (List Nat) × Instr × List Nat := plk tb_Model_changed
theorem r_Model_changed_0 : P_Model_changed 0 = (none, .iconst 0, []) := by decide +kernel
theorem r_Model_changed_1 : P_Model_changed 1 = (none, .istore 5, []) := by decide +kernel
theorem r_Model_changed_3 : P_Model_changed 3 = (none, .aload_n 0, []) := by decide +kernel
theorem r_Model_changed_4 : P_Model_changed 4 = (none, .iload_n 1, []) := by decide +kernel
theorem r_Model_changed_5 : P_Model_changed 5 = (none, .iload_n 2, []) := by decide +kernel
theorem r_Model_changed_6 : P_Model_changed 6 = (none, .iconst 0, []) := by decide +kernel
theorem r_Model_changed_7 : P_Model_changed 7 = (none, .invokevirtual 218, []) := by decide +kernel
theorem r_Model_changed_10 : P_Model_changed 10 = (none, .istore 6, []) := by decide +kernel
theorem r_Model_changed_12 : P_Model_changed 12 = (some [0, 1, 2, 3, 4, 5, 6], .iload 6, []) := by decide +kernel
theorem r_Model_changed_14 : P_Model_changed 14 = (none, .ifCond .lt 41, [55]) := by decide +kernel
theorem r_Model_changed_17 : P_Model_changed 17 = (none, .aload_n 0, []) := by decide +kernel
theorem r_Model_changed_18 : P_Model_changed 18 = (none, .iload_n 1, []) := by decide +kernel
theorem r_Model_changed_19 : P_Model_changed 19 = (none, .iload_n 2, []) := by decide +kernel
theorem r_Model_changed_20 : P_Model_changed 20 = (none, .iload 6, []) := by decide +kernel
theorem r_Model_changed_22 : P_Model_changed 22 = (none, .invokevirtual 221, []) := by decide +kernel
theorem r_Model_changed_25 : P_Model_changed 25 = (none, .iload_n 3, []) := by decide +kernel
theorem r_Model_changed_26 : P_Model_changed 26 = (none, .if_icmp .ne 16, [42]) := by decide +kernel
theorem r_Model_changed_29 : P_Model_changed 29 = (none, .iload 5, []) := by decide +kernel
theorem r_Model_changed_31 : P_Model_changed 31 = (none, .iload 4, []) := by decide +kernel
theorem r_Model_changed_33 : P_Model_changed 33 = (none, .if_icmp .ne 6, [39]) := by decide +kernel
theorem r_Model_changed_36 : P_Model_changed 36 = (none, .iload 6, []) := by decide +kernel
theorem r_Model_changed_38 : P_Model_changed 38 = (none, .ireturn, []) := by decide +kernel
theorem r_Model_changed_39 : P_Model_changed 39 = (none, .iinc 5 1, []) := by decide +kernel
theorem r_Model_changed_42 : P_Model_changed 42 = (none, .aload_n 0, []) := by decide +kernel
theorem r_Model_changed_43 : P_Model_changed 43 = (none, .iload_n 1, []) := by decide +kernel
theorem r_Model_changed_44 : P_Model_changed 44 = (none, .iload_n 2, []) := by decide +kernel
theorem r_Model_changed_45 : P_Model_changed 45 = (none, .iload 6, []) := by decide +kernel
theorem r_Model_changed_47 : P_Model_changed 47 = (none, .invokevirtual 218, []) := by decide +kernel
theorem r_Model_changed_50 : P_Model_changed 50 = (none, .istore 6, []) := by decide +kernel
theorem r_Model_changed_52 : P_Model_changed 52 = (none, .goto (-40), [12]) := by decide +kernel
theorem r_Model_changed_55 : P_Model_changed 55 = (none, .iload 4, []) := by decide +kernel
theorem r_Model_changed_57 : P_Model_changed 57 = (none, .ifCond .ge 8, [65]) := by decide +kernel
theorem r_Model_changed_60 : P_Model_changed 60 = (none, .iload 5, []) := by decide +kernel
theorem r_Model_changed_62 : P_Model_changed 62 = (none, .goto 4, [66]) := by decide +kernel
theorem r_Model_changed_65 : P_Model_changed 65 = (none, .iconst (-1), []) := by decide +kernel
theorem r_Model_changed_66 : P_Model_changed 66 = (none, .ireturn, []) := by decide +kernel
def E_Model_changed : List (Nat × Ent) := [(872, (4, 3, 0, 0, T_Model_nextNumber)), (884, (4, 6, 0, 0, T_Model_change))]
def X_Model_changed : Cx := (llk (0, 0, 9) ftX11, llk 99 ntX11, llk none kcX11, llk none klX11, llk dEnt E_Model_changed, 7, 0, false)
theorem xok_Model_changed : Xok RX11 X_Model_changed := xok_of ftX11_ok ntX11_ok kcX11_ok klX11_ok (E := E_Model_changed) (List.forall_mem_cons.mpr ⟨co_X11_872, List.forall_mem_cons.mpr ⟨co_X11_884, fun _ h => absurd h List.not_mem_nil⟩⟩)
theorem xe_Model_changed_872 : xE X_Model_changed (4 * 218 + 0) = (4, 3, 0, 0, T_Model_nextNumber) := rfl
theorem xe_Model_changed_884 : xE X_Model_changed (4 * 221 + 0) = (4, 6, 0, 0, T_Model_change) := rfl
theorem xd_Model_changed : xd X_Model_changed = 7 := rfl
theorem xrb_Model_changed : xrb X_Model_changed = 0 := rfl
theorem xin_Model_changed : xin X_Model_changed = false := rfl
set_option maxHeartbeats 4000000 in
set_option maxRecDepth 100000 in
theorem S_Model_changed : Snd yX11_changed cX11_changed 7 (some .int) T_Model_changed 7 0 0 := by
  refine snd_of (X := X_Model_changed) (P := P_Model_changed) (tb := tb_Model_changed) (own := RX11) (by decide) rfl rfl (by decide +kernel) xok_Model_changed rfl rk0 (fun h => by first | rfl | cases h) ?_
  intro as M k has hM hT0
  obtain ⟨sz, sl, lay, ρ, σ, τ⟩ := M
  obtain ⟨o, as1, e, hlo, hT1⟩ := mkT_r hT0
  clear hT0
  subst e
  obtain ⟨p, as2, e, hT2⟩ := pI_x hT1
  clear hT1
  subst e
  obtain ⟨q, as3, e, hT3⟩ := pI_x hT2
  clear hT2
  subst e
  obtain ⟨w, as4, e, hT4⟩ := pI_x hT3
  clear hT3
  subst e
  obtain ⟨i, as5, e, hT5⟩ := pI_x hT4
  clear hT4
  subst e
  obtain ⟨e, hT⟩ := hT5
  subst e
  replace hlo : lay o = (21, 0) := hlo
  have r_p : -2147483648 ≤ p ∧ p ≤ 2147483647 := has (vI p) (by simp)
  have r_q : -2147483648 ≤ q ∧ q ≤ 2147483647 := has (vI q) (by simp)
  have r_w : -2147483648 ≤ w ∧ w ≤ 2147483647 := has (vI w) (by simp)
  have r_i : -2147483648 ≤ i ∧ i ≤ 2147483647 := has (vI i) (by simp)
  clear has
  replace hM : ∀ a i, -2147483648 ≤ σ a i ∧ σ a i ≤ 2147483647 := hM
  replace hT : TF_Model_changed o p q w i sz sl lay ρ σ τ k := hT
  unfold TF_Model_changed at hT
  obtain ⟨hL, U, len, st, V, lem, su, ⟨hS, hR⟩, ⟨hS2, hR2⟩, hT⟩ := hT
  obtain ⟨hB, hl3, ⟨m4, m5, m6⟩, ⟨m7, m8, m9⟩, m12, ⟨m14, m13⟩, m15, ⟨m17, m16⟩, m26⟩ := (show MR σ o p U len st from hR)
  obtain ⟨b1, b2, b3, b4, b5, b6, b7⟩ := (show MB σ o p U len (st 1) from hB)
  obtain ⟨nB, nl3, ⟨n4, n5, n6⟩, ⟨n7, n8, n9⟩, n12, ⟨n14, n13⟩, n15, ⟨n17, n16⟩, n26⟩ := (show MR σ o q V lem su from hR2)
  obtain ⟨c1, c2, c3, c4, c5, c6, c7⟩ := (show MB σ o q V lem (su 1) from nB)
  have w9 := hS.2.2.2.2.2.2.2.2.2.1
  have x9 := hS2.2.2.2.2.2.2.2.2.2.1
  obtain ⟨J, hJd⟩ : ∃ J : Nat → List AV → Mm → Prop, J = (fun c vs M1 => c = 12 ∧ ∃ (c : Int → Int) (z : Int), (z = -1 ∨ inP U st V su z) ∧ (0 ≤ i → dfN U st V su w z ≤ i) ∧ vs = [vR o, vI p, vI q, vI w, vI i, vI (dfN U st V su w z), vI z] ∧ M1 = (sz, sl, lay, ρ, fu σ (o + 23) c, τ)) := ⟨_, rfl⟩
  obtain ⟨μ, hμ⟩ : ∃ μ : Nat → List AV → Mm → Nat, μ = (fun _ vs _ => if gI (vs.getD 6 vN) < 0 then 0 else (70000 - gI (vs.getD 6 vN)).toNat) := ⟨_, rfl⟩
  refine ⟨Nat.le_of_ble_eq_true rfl, J, μ, 44, ?_, ?_⟩
  · obtain ⟨mh, mp0, mp2, mp3, mp4, mp5, mp6, mp7, mp8, mp9, mp10, mp11, mp12, mp13, mp14, mp15, mp16, mp17, mp18, mp19, mp20, mp21, mp22, mp24, mp25, mp26, mp27, mq0, mq2, mq3, mq4, mq5, mq6, mq7, mq8, mq9, mq10, mq11, mq12, mq13, mq14, mq15, mq16, mq17, mq18, mq19, mq20, mq21, mq22, mq24, mq25, mq26, mq27⟩ := (show LModel lay ρ _ from hL)
    unfold wps
    simp only [si_iload_n0, si_iload_n1, si_iload_n2, si_iload_n3, si_iload, si_lload_n0, si_lload_n1, si_lload_n2, si_lload_n3, si_lload, si_aload_n0, si_aload_n1, si_aload_n2, si_aload_n3, si_aload, si_istore_n0, si_istore_n1, si_istore_n2, si_istore_n3, si_istore, si_astore_n0, si_astore_n1, si_astore_n2, si_astore_n3, si_astore, si_lstore_n0, si_lstore_n1, si_lstore_n2, si_lstore_n3, si_lstore, si_iconst, si_bipush, si_sipush, si_ldc, si_ldc2_w, si_lconst0, si_lconst1, si_aconst_null, si_iinc, si_dup, si_dup2, si_iadd, si_isub, si_imul, si_idiv, si_irem, si_iand, si_ior, si_ishl, si_ishr, si_ladd, si_lmul, si_lor, si_lxor, si_lshl, si_lushr, si_lcmp, si_i2b, si_i2l, si_l2i, si_icmp_eq, si_icmp_ne, si_icmp_lt, si_icmp_ge, si_icmp_gt, si_icmp_le, si_if_eq, si_if_ne, si_if_lt, si_if_ge, si_if_gt, si_if_le, si_ifnull, si_ifnonnull, si_goto, si_tableswitch, si_lookupswitch, si_getfield, si_putfield, si_getstatic, si_iaload, si_baload, si_laload, si_aaload, si_iastore, si_bastore, si_lastore, si_aastore, si_arraylength, si_new, si_newarray, si_anewarray, si_invokevirtual, si_invokespecial, si_invokestatic, si_ireturn, si_lreturn, si_areturn, si_return_, pI_e, pL_e, pR_e, pA_r, pA_n, pN_n, pN_r, oI_e, oL_e, oA_r, oA_n, lget_e, lrm1_0, lrm2_0, lrm1_i, lrm1_r, lrm1_n, lrm1_l, lrm2_i, lrm2_r, lrm2_n, lrm2_l, popN_0, popN_s, acat_i, acat_l, acat_r, acat_n, stw_0, stw_s, psh_s, psh_n, wgf_r, wgf_i, wgf_b, wgf_n, wgf_m, wpf_i, wpf_r, wpf_b, wnew_e, callE_e, rbk_0, rbk_1, tsw_0, tsw_s, lsw_0, lsw_s, wp_s, wq_t, wq_f, oV_e, pick_0, pick_s, oZ_e, oY_e, r_Model_changed_0, r_Model_changed_1, r_Model_changed_3, r_Model_changed_4, r_Model_changed_5, r_Model_changed_6, r_Model_changed_7, r_Model_changed_10, r_Model_changed_12, r_Model_changed_14, r_Model_changed_17, r_Model_changed_18, r_Model_changed_19, r_Model_changed_20, r_Model_changed_22, r_Model_changed_25, r_Model_changed_26, r_Model_changed_29, r_Model_changed_31, r_Model_changed_33, r_Model_changed_36, r_Model_changed_38, r_Model_changed_39, r_Model_changed_42, r_Model_changed_43, r_Model_changed_44, r_Model_changed_45, r_Model_changed_47, r_Model_changed_50, r_Model_changed_52, r_Model_changed_55, r_Model_changed_57, r_Model_changed_60, r_Model_changed_62, r_Model_changed_65, r_Model_changed_66, xe_Model_changed_872, xe_Model_changed_884, xd_Model_changed, xrb_Model_changed, xin_Model_changed, T_Model_nextNumber_e, TF_Model_nextNumber, T_Model_change_e, TF_Model_change, MB_fu, MR_fu, mh, mp0, mp2, mp3, mp4, mp5, mp6, mp7, mp8, mp9, mp10, mp11, mp12, mp13, mp14, mp15, mp16, mp17, mp18, mp19, mp20, mp21, mp22, mp24, mp25, mp26, mp27, mq0, mq2, mq3, mq4, mq5, mq6, mq7, mq8, mq9, mq10, mq11, mq12, mq13, mq14, mq15, mq16, mq17, mq18, mq19, mq20, mq21, mq22, mq24, mq25, mq26, mq27, Nat.reduceAdd, Nat.reduceMul, Nat.reduceEqDiff, reduceIte, Int.reduceNeg, Int.reduceLE, Int.reduceLT, Int.reduceAdd, Int.reduceSub, Int.reduceToNat, true_and, and_true, inR_e, Nat.reduceLT, Nat.reduceLeDiff, reduceCtorEq, Nat.add_zero, Nat.zero_add, or_false, false_or, or_true, true_or, not_true_eq_false, not_false_eq_true, Classical.not_not, Nat.add_eq_zero_iff, and_false, false_and, Int.reduceEq, List.mem_cons, List.not_mem_nil, forall_eq_or_imp, forall_eq, false_implies, implies_true, forall_const, aargs_0, aargs_i, aargs_r, aargs_l, aargs_n, nfT_e, eq_self, and_self, Nat.le_refl, fu_s, fu_fu, iu_iu, iu_s, fu_am, fu_a0, fu_0a, iu_l, Nat.reduceBEq, Int.reduceBEq, T_objInit_e]
    clear mp0 mp2 mp3 mp4 mp5 mp6 mp7 mp8 mp9 mp10 mp11 mp12 mp13 mp14 mp15 mp16 mp17 mp18 mp19 mp20 mp21 mp22 mp24 mp25 mp26 mp27
    refine ⟨hL, U, len, st, V, lem, su, ⟨hS, hR⟩, ⟨hS2, hR2⟩, fun z hz => ?_⟩
    rw [hJd]
    have e := dfN_nx (w := w) hS hS2 (show 0 ≤ (0 : Int) ∧ (0 : Int) < 65536 by omega) hz
    have e0 : dfN U st V su w z = 0 := by
      rw [e]
      show cntP (dfP U st V su w) (0 + 1) = 0
      rw [cntP_sf]
      · rfl
      · intro h
        have := inP_R hS hS2 h.1
        omega
    refine ⟨rfl, σ (o + 23), z, ?_, by omega, by rw [e0], by rw [fu_self]⟩
    rcases hz with q | q
    · exact Or.inl q.1
    · exact Or.inr q.1
  · intro cp vs M1 hvs hM1 hlen hJ
    rw [hJd] at hJ
    obtain ⟨rfl, c, z, hz, hn, rfl, rfl⟩ := hJ
    have cR := cntP_R (P := dfP U st V su w) (N := 65536)
    have cR2 := cntP_R (P := dfP U st V su w) (N := z.toNat)
    (obtain ⟨mh, mp0, mp2, mp3, mp4, mp5, mp6, mp7, mp8, mp9, mp10, mp11, mp12, mp13, mp14, mp15, mp16, mp17, mp18, mp19, mp20, mp21, mp22, mp24, mp25, mp26, mp27, mq0, mq2, mq3, mq4, mq5, mq6, mq7, mq8, mq9, mq10, mq11, mq12, mq13, mq14, mq15, mq16, mq17, mq18, mq19, mq20, mq21, mq22, mq24, mq25, mq26, mq27⟩ := (show LModel lay ρ _ from hL); unfold wps; simp only [Option.getD_some, List.zip_cons_cons, List.zip_nil_left, List.zip_nil_right, List.zip_nil_right, MB_fu, MR_fu, si_iload_n0, si_iload_n1, si_iload_n2, si_iload_n3, si_iload, si_lload_n0, si_lload_n1, si_lload_n2, si_lload_n3, si_lload, si_aload_n0, si_aload_n1, si_aload_n2, si_aload_n3, si_aload, si_istore_n0, si_istore_n1, si_istore_n2, si_istore_n3, si_istore, si_astore_n0, si_astore_n1, si_astore_n2, si_astore_n3, si_astore, si_lstore_n0, si_lstore_n1, si_lstore_n2, si_lstore_n3, si_lstore, si_iconst, si_bipush, si_sipush, si_ldc, si_ldc2_w, si_lconst0, si_lconst1, si_aconst_null, si_iinc, si_dup, si_dup2, si_iadd, si_isub, si_imul, si_idiv, si_irem, si_iand, si_ior, si_ishl, si_ishr, si_ladd, si_lmul, si_lor, si_lxor, si_lshl, si_lushr, si_lcmp, si_i2b, si_i2l, si_l2i, si_icmp_eq, si_icmp_ne, si_icmp_lt, si_icmp_ge, si_icmp_gt, si_icmp_le, si_if_eq, si_if_ne, si_if_lt, si_if_ge, si_if_gt, si_if_le, si_ifnull, si_ifnonnull, si_goto, si_tableswitch, si_lookupswitch, si_getfield, si_putfield, si_getstatic, si_iaload, si_baload, si_laload, si_aaload, si_iastore, si_bastore, si_lastore, si_aastore, si_arraylength, si_new, si_newarray, si_anewarray, si_invokevirtual, si_invokespecial, si_invokestatic, si_ireturn, si_lreturn, si_areturn, si_return_, pI_e, pL_e, pR_e, pA_r, pA_n, pN_n, pN_r, oI_e, oL_e, oA_r, oA_n, lget_e, lrm1_0, lrm2_0, lrm1_i, lrm1_r, lrm1_n, lrm1_l, lrm2_i, lrm2_r, lrm2_n, lrm2_l, popN_0, popN_s, acat_i, acat_l, acat_r, acat_n, stw_0, stw_s, psh_s, psh_n, wgf_r, wgf_i, wgf_b, wgf_n, wgf_m, wpf_i, wpf_r, wpf_b, wnew_e, callE_e, rbk_0, rbk_1, tsw_0, tsw_s, lsw_0, lsw_s, wp_s, wq_t, wq_f, oV_e, pick_0, pick_s, oZ_e, oY_e, r_Model_changed_0, r_Model_changed_1, r_Model_changed_3, r_Model_changed_4, r_Model_changed_5, r_Model_changed_6, r_Model_changed_7, r_Model_changed_10, r_Model_changed_12, r_Model_changed_14, r_Model_changed_17, r_Model_changed_18, r_Model_changed_19, r_Model_changed_20, r_Model_changed_22, r_Model_changed_25, r_Model_changed_26, r_Model_changed_29, r_Model_changed_31, r_Model_changed_33, r_Model_changed_36, r_Model_changed_38, r_Model_changed_39, r_Model_changed_42, r_Model_changed_43, r_Model_changed_44, r_Model_changed_45, r_Model_changed_47, r_Model_changed_50, r_Model_changed_52, r_Model_changed_55, r_Model_changed_57, r_Model_changed_60, r_Model_changed_62, r_Model_changed_65, r_Model_changed_66, xe_Model_changed_872, xe_Model_changed_884, xd_Model_changed, xrb_Model_changed, xin_Model_changed, T_Model_nextNumber_e, TF_Model_nextNumber, T_Model_change_e, TF_Model_change, MB_fu, MR_fu, mh, mp0, mp2, mp3, mp4, mp5, mp6, mp7, mp8, mp9, mp10, mp11, mp12, mp13, mp14, mp15, mp16, mp17, mp18, mp19, mp20, mp21, mp22, mp24, mp25, mp26, mp27, mq0, mq2, mq3, mq4, mq5, mq6, mq7, mq8, mq9, mq10, mq11, mq12, mq13, mq14, mq15, mq16, mq17, mq18, mq19, mq20, mq21, mq22, mq24, mq25, mq26, mq27, Nat.reduceAdd, Nat.reduceMul, Nat.reduceEqDiff, reduceIte, Int.reduceNeg, Int.reduceLE, Int.reduceLT, Int.reduceAdd, Int.reduceSub, Int.reduceToNat, true_and, and_true, inR_e, Nat.reduceLT, Nat.reduceLeDiff, reduceCtorEq, Nat.add_zero, Nat.zero_add, or_false, false_or, or_true, true_or, not_true_eq_false, not_false_eq_true, Classical.not_not, Nat.add_eq_zero_iff, and_false, false_and, Int.reduceEq, List.mem_cons, List.not_mem_nil, forall_eq_or_imp, forall_eq, false_implies, implies_true, forall_const, aargs_0, aargs_i, aargs_r, aargs_l, aargs_n, nfT_e, eq_self, and_self, Nat.le_refl, fu_s, fu_fu, iu_iu, iu_s, fu_am, fu_a0, fu_0a, iu_l, Nat.reduceBEq, Int.reduceBEq, T_objInit_e]; clear mp0 mp2 mp3 mp4 mp5 mp6 mp7 mp8 mp9 mp10 mp11 mp12 mp13 mp14 mp15 mp16 mp17 mp18 mp19 mp20 mp21 mp22 mp24 mp25 mp26 mp27)
    have MUX : ∀ z2 n2 M2, 0 < z ∧ z < 65536 → Lst (inP U st V su) z z2 → μ 12 [vR o, vI p, vI q, vI w, vI i, vI n2, vI z2] M2 < μ 12 [vR o, vI p, vI q, vI w, vI i, vI (dfN U st V su w z), vI z] (sz, sl, lay, ρ, fu σ (o + 23) c, τ) := by
      intro z2 n2 M2 hr h
      rw [hμ]
      simp only [gI_e, List.getD_cons_succ, List.getD_cons_zero]
      rw [if_neg (show ¬ z < 0 by omega)]
      rcases h with h | h
      · rw [if_pos (by omega)]; omega
      · rw [if_neg (by omega)]; omega
    refine ⟨fun a => ?_, fun a => ?_⟩
    · have ez : dfN U st V su w z = cntP (dfP U st V su w) 65536 := by
        unfold dfN
        rw [if_pos a]
      rw [ez]
      refine ⟨fun b => ((hT _ QF.ch).2 b).2 (by rw [← ez]; exact hn b), fun b => (hT _ QF.ch).1 (by omega)⟩
    · have hin : inP U st V su z := by
        rcases hz with q | q
        · omega
        · exact q
      have zr := inP_R hS hS2 hin
      have ez : dfN U st V su w z = cntP (dfP U st V su w) z.toNat := by
        unfold dfN
        rw [if_neg a]
      have nxt : ∀ (d : Int → Int) (n2 z2 : Int), Lst (inP U st V su) z z2 → n2 = cntP (dfP U st V su w) (z.toNat + 1) → (0 ≤ i → n2 ≤ i) → J 12 [vR o, vI p, vI q, vI w, vI i, vI n2, vI z2] (sz, sl, lay, ρ, fu σ (o + 23) d, τ) := by
        intro d n2 z2 h e h3
        have e2 := dfN_nx (w := w) hS hS2 (show 0 ≤ z ∧ z < 65536 by omega) h
        rw [hJd]
        refine ⟨rfl, d, z2, ?_, by rw [e2, ← e]; exact h3, by rw [e2, ← e], rfl⟩
        rcases h with q | q
        · exact Or.inl q.1
        · exact Or.inr q.1
      have zt : ((z.toNat : Nat) : Int) = z := by omega
      refine ⟨hL, U, len, st, V, lem, su, ⟨hS, hR⟩, ⟨hS2, hR2⟩, hin, fun d => ⟨fun b => ⟨hL, U, len, st, V, lem, su, ⟨hS, hR⟩, ⟨hS2, hR2⟩, by omega, fun z2 h2 => ⟨nxt d _ z2 h2 ?_ hn, MUX _ _ _ zr h2⟩⟩, fun b => ⟨fun g => ⟨by rw [ez]; omega, hL, U, len, st, V, lem, su, ⟨hS, hR⟩, ⟨hS2, hR2⟩, by omega, fun z2 h2 => ⟨nxt d _ z2 h2 ?_ (fun q => by have := hn q; omega), MUX _ _ _ zr h2⟩⟩, fun g => ?_⟩⟩⟩
      · rw [ez, cntP_sf (by rw [zt]; exact fun q => b q.2)]
      · rw [ez, cntP_st (P := dfP U st V su w) (by rw [zt]; exact ⟨hin, b⟩)]
      · exact ((hT _ QF.ch).2 (by omega)).1 z (by omega) ⟨hin, b⟩ (by rw [← ez]; exact g)
theorem co_X11_896 : CallOK RX11 (.invokevirtual 224) (5, 7, 0, 0, T_Model_changed) := call_V S_Model_changed (by decide) (ci := 11) rfl (by decide +kernel) (by decide +kernel) (by decide +kernel) (by decide +kernel) (by decide +kernel) (by decide +kernel) T_Model_changed_r
def TF_Model_differ (o : Nat) (p : Int) (q : Int) (w : Int) (sz sl : Nat) (lay : Nat → Nat × Int) (ρ : Nat → Int → Nat) (σ : Nat → Int → Int) (τ : Nat → Int → Int64) (k : Option AV → Mm → Prop) : Prop := LModel lay ρ o ∧ ∃ (U : Int → Int) (len : Int) (st : Nat → Int → Int) (V : Int → Int) (lem : Int) (su : Nat → Int → Int), MdP σ o p U len st ∧ MdP σ o q V lem su ∧ (((0 ≤ p ∧ p < 3) ∧ (0 ≤ q ∧ q < 3) ∧ (0 ≤ w ∧ w < 5)) → ∀ σ2 : Nat → Int → Int, QF σ σ2 o → k (some (vI (cntP (dfP U st V su w) 65536))) (sz, sl, lay, ρ, σ2, τ)) ∧ (¬ ((0 ≤ p ∧ p < 3) ∧ (0 ≤ q ∧ q < 3) ∧ (0 ≤ w ∧ w < 5)) → k (some (vI (-1))) (sz, sl, lay, ρ, σ, τ))
def T_Model_differ : Tr := mkT 11 fun o as M k => pI as fun p as => pI as fun q as => pI as fun w as => as = [] ∧ TF_Model_differ o p q w M.1 M.2.1 M.2.2.1 M.2.2.2.1 M.2.2.2.2.1 M.2.2.2.2.2 k
theorem T_Model_differ_e {o : Nat} {p : Int} {q : Int} {w : Int} {sz sl : Nat} {lay : Nat → Nat × Int} {ρ : Nat → Int → Nat} {σ : Nat → Int → Int} {τ : Nat → Int → Int64} {k : Option AV → Mm → Prop} : T_Model_differ [vR o, vI p, vI q, vI w] (sz, sl, lay, ρ, σ, τ) k = (lay o = (21, 0) ∧ TF_Model_differ o p q w sz sl lay ρ σ τ k) := by simp [T_Model_differ, mkT_e, pI_e, pR_e, pL_e]
theorem T_Model_differ_r (as : List AV) (M : Mm) (k : Option AV → Mm → Prop) (h : T_Model_differ as M k) : ∃ b As, as = vR b :: As ∧ M.2.2.1 b = (10 + 11, 0) := by
  obtain ⟨b, As, h1, h2, -⟩ := mkT_r h
  exact ⟨b, As, h1, h2⟩
def tb_Model_differ : List (Nat × Option (List Nat) × Instr × List Nat) := [(0, none, .iload_n 1, []), (1, none, .invokestatic 161, []), (4, none, .ifCond .eq 30, [34]), (7, none, .iload_n 2, []), (8, none, .invokestatic 161, []), (11, none, .ifCond .eq 23, [34]), (14, none, .iload_n 3, []), (15, none, .ifCond .lt 19, [34]), (18, none, .iload_n 3, []), (19, none, .iconst 4, []), (20, none, .if_icmp .gt 14, [34]), (23, none, .aload_n 0, []), (24, none, .iload_n 1, []), (25, none, .iload_n 2, []), (26, none, .iload_n 3, []), (27, none, .iconst (-1), []), (28, none, .invokevirtual 224, []), (31, none, .goto 4, [35]), (34, none, .iconst (-1), []), (35, none, .ireturn, [])]
def P_Model_differ : Nat → Option (List Nat) × Instr × List Nat := plk tb_Model_differ
theorem r_Model_differ_0 : P_Model_differ 0 = (none, .iload_n 1, []) := by decide +kernel
theorem r_Model_differ_1 : P_Model_differ 1 = (none, .invokestatic 161, []) := by decide +kernel
theorem r_Model_differ_4 : P_Model_differ 4 = (none, .ifCond .eq 30, [34]) := by decide +kernel
theorem r_Model_differ_7 : P_Model_differ 7 = (none, .iload_n 2, []) := by decide +kernel
theorem r_Model_differ_8 : P_Model_differ 8 = (none, .invokestatic 161, []) := by decide +kernel
theorem r_Model_differ_11 : P_Model_differ 11 = (none, .ifCond .eq 23, [34]) := by decide +kernel
theorem r_Model_differ_14 : P_Model_differ 14 = (none, .iload_n 3, []) := by decide +kernel
theorem r_Model_differ_15 : P_Model_differ 15 = (none, .ifCond .lt 19, [34]) := by decide +kernel
theorem r_Model_differ_18 : P_Model_differ 18 = (none, .iload_n 3, []) := by decide +kernel
theorem r_Model_differ_19 : P_Model_differ 19 = (none, .iconst 4, []) := by decide +kernel
theorem r_Model_differ_20 : P_Model_differ 20 = (none, .if_icmp .gt 14, [34]) := by decide +kernel
theorem r_Model_differ_23 : P_Model_differ 23 = (none, .aload_n 0, []) := by decide +kernel
theorem r_Model_differ_24 : P_Model_differ 24 = (none, .iload_n 1, []) := by decide +kernel
theorem r_Model_differ_25 : P_Model_differ 25 = (none, .iload_n 2, []) := by decide +kernel
theorem r_Model_differ_26 : P_Model_differ 26 = (none, .iload_n 3, []) := by decide +kernel
theorem r_Model_differ_27 : P_Model_differ 27 = (none, .iconst (-1), []) := by decide +kernel
theorem r_Model_differ_28 : P_Model_differ 28 = (none, .invokevirtual 224, []) := by decide +kernel
theorem r_Model_differ_31 : P_Model_differ 31 = (none, .goto 4, [35]) := by decide +kernel
theorem r_Model_differ_34 : P_Model_differ 34 = (none, .iconst (-1), []) := by decide +kernel
theorem r_Model_differ_35 : P_Model_differ 35 = (none, .ireturn, []) := by decide +kernel
def E_Model_differ : List (Nat × Ent) := [(646, (1, 0, 0, 0, T_Model_isPicture)), (896, (5, 7, 0, 0, T_Model_changed))]
def X_Model_differ : Cx := (llk (0, 0, 9) ftX11, llk 99 ntX11, llk none kcX11, llk none klX11, llk dEnt E_Model_differ, 8, 0, false)
theorem xok_Model_differ : Xok RX11 X_Model_differ := xok_of ftX11_ok ntX11_ok kcX11_ok klX11_ok (E := E_Model_differ) (List.forall_mem_cons.mpr ⟨co_X11_646, List.forall_mem_cons.mpr ⟨co_X11_896, fun _ h => absurd h List.not_mem_nil⟩⟩)
theorem xe_Model_differ_646 : xE X_Model_differ (4 * 161 + 2) = (1, 0, 0, 0, T_Model_isPicture) := rfl
theorem xe_Model_differ_896 : xE X_Model_differ (4 * 224 + 0) = (5, 7, 0, 0, T_Model_changed) := rfl
theorem xd_Model_differ : xd X_Model_differ = 8 := rfl
theorem xrb_Model_differ : xrb X_Model_differ = 0 := rfl
theorem xin_Model_differ : xin X_Model_differ = false := rfl
set_option maxHeartbeats 4000000 in
set_option maxRecDepth 100000 in
theorem S_Model_differ : Snd yX11_differ cX11_differ 4 (some .int) T_Model_differ 8 0 0 := by
  refine snd_of (X := X_Model_differ) (P := P_Model_differ) (tb := tb_Model_differ) (own := RX11) (by decide) rfl rfl (by decide +kernel) xok_Model_differ rfl rk0 (fun h => by first | rfl | cases h) ?_
  intro as M k has hM hT0
  obtain ⟨sz, sl, lay, ρ, σ, τ⟩ := M
  obtain ⟨o, as1, e, hlo, hT1⟩ := mkT_r hT0
  clear hT0
  subst e
  obtain ⟨p, as2, e, hT2⟩ := pI_x hT1
  clear hT1
  subst e
  obtain ⟨q, as3, e, hT3⟩ := pI_x hT2
  clear hT2
  subst e
  obtain ⟨w, as4, e, hT4⟩ := pI_x hT3
  clear hT3
  subst e
  obtain ⟨e, hT⟩ := hT4
  subst e
  replace hlo : lay o = (21, 0) := hlo
  have r_p : -2147483648 ≤ p ∧ p ≤ 2147483647 := has (vI p) (by simp)
  have r_q : -2147483648 ≤ q ∧ q ≤ 2147483647 := has (vI q) (by simp)
  have r_w : -2147483648 ≤ w ∧ w ≤ 2147483647 := has (vI w) (by simp)
  clear has
  replace hM : ∀ a i, -2147483648 ≤ σ a i ∧ σ a i ≤ 2147483647 := hM
  replace hT : TF_Model_differ o p q w sz sl lay ρ σ τ k := hT
  unfold TF_Model_differ at hT
  obtain ⟨hL, U, len, st, V, lem, su, hM1, hM2, h1, h0⟩ := hT
  refine ⟨Nat.le_of_ble_eq_true rfl, fun _ _ _ => False, fun _ _ _ => 0, 28, ?_, fun _ _ _ _ _ _ h => h.elim⟩
  obtain ⟨mh, mp0, mp2, mp3, mp4, mp5, mp6, mp7, mp8, mp9, mp10, mp11, mp12, mp13, mp14, mp15, mp16, mp17, mp18, mp19, mp20, mp21, mp22, mp24, mp25, mp26, mp27, mq0, mq2, mq3, mq4, mq5, mq6, mq7, mq8, mq9, mq10, mq11, mq12, mq13, mq14, mq15, mq16, mq17, mq18, mq19, mq20, mq21, mq22, mq24, mq25, mq26, mq27⟩ := (show LModel lay ρ _ from hL)
  unfold wps
  simp only [si_iload_n0, si_iload_n1, si_iload_n2, si_iload_n3, si_iload, si_lload_n0, si_lload_n1, si_lload_n2, si_lload_n3, si_lload, si_aload_n0, si_aload_n1, si_aload_n2, si_aload_n3, si_aload, si_istore_n0, si_istore_n1, si_istore_n2, si_istore_n3, si_istore, si_astore_n0, si_astore_n1, si_astore_n2, si_astore_n3, si_astore, si_lstore_n0, si_lstore_n1, si_lstore_n2, si_lstore_n3, si_lstore, si_iconst, si_bipush, si_sipush, si_ldc, si_ldc2_w, si_lconst0, si_lconst1, si_aconst_null, si_iinc, si_dup, si_dup2, si_iadd, si_isub, si_imul, si_idiv, si_irem, si_iand, si_ior, si_ishl, si_ishr, si_ladd, si_lmul, si_lor, si_lxor, si_lshl, si_lushr, si_lcmp, si_i2b, si_i2l, si_l2i, si_icmp_eq, si_icmp_ne, si_icmp_lt, si_icmp_ge, si_icmp_gt, si_icmp_le, si_if_eq, si_if_ne, si_if_lt, si_if_ge, si_if_gt, si_if_le, si_ifnull, si_ifnonnull, si_goto, si_tableswitch, si_lookupswitch, si_getfield, si_putfield, si_getstatic, si_iaload, si_baload, si_laload, si_aaload, si_iastore, si_bastore, si_lastore, si_aastore, si_arraylength, si_new, si_newarray, si_anewarray, si_invokevirtual, si_invokespecial, si_invokestatic, si_ireturn, si_lreturn, si_areturn, si_return_, pI_e, pL_e, pR_e, pA_r, pA_n, pN_n, pN_r, oI_e, oL_e, oA_r, oA_n, lget_e, lrm1_0, lrm2_0, lrm1_i, lrm1_r, lrm1_n, lrm1_l, lrm2_i, lrm2_r, lrm2_n, lrm2_l, popN_0, popN_s, acat_i, acat_l, acat_r, acat_n, stw_0, stw_s, psh_s, psh_n, wgf_r, wgf_i, wgf_b, wgf_n, wgf_m, wpf_i, wpf_r, wpf_b, wnew_e, callE_e, rbk_0, rbk_1, tsw_0, tsw_s, lsw_0, lsw_s, wp_s, wq_t, wq_f, oV_e, pick_0, pick_s, oZ_e, oY_e, r_Model_differ_0, r_Model_differ_1, r_Model_differ_4, r_Model_differ_7, r_Model_differ_8, r_Model_differ_11, r_Model_differ_14, r_Model_differ_15, r_Model_differ_18, r_Model_differ_19, r_Model_differ_20, r_Model_differ_23, r_Model_differ_24, r_Model_differ_25, r_Model_differ_26, r_Model_differ_27, r_Model_differ_28, r_Model_differ_31, r_Model_differ_34, r_Model_differ_35, xe_Model_differ_646, xe_Model_differ_896, xd_Model_differ, xrb_Model_differ, xin_Model_differ, T_Model_isPicture_e, TF_Model_isPicture, T_Model_changed_e, TF_Model_changed, mh, mp0, mp2, mp3, mp4, mp5, mp6, mp7, mp8, mp9, mp10, mp11, mp12, mp13, mp14, mp15, mp16, mp17, mp18, mp19, mp20, mp21, mp22, mp24, mp25, mp26, mp27, mq0, mq2, mq3, mq4, mq5, mq6, mq7, mq8, mq9, mq10, mq11, mq12, mq13, mq14, mq15, mq16, mq17, mq18, mq19, mq20, mq21, mq22, mq24, mq25, mq26, mq27, Nat.reduceAdd, Nat.reduceMul, Nat.reduceEqDiff, reduceIte, Int.reduceNeg, Int.reduceLE, Int.reduceLT, Int.reduceAdd, Int.reduceSub, Int.reduceToNat, true_and, and_true, inR_e, Nat.reduceLT, Nat.reduceLeDiff, reduceCtorEq, Nat.add_zero, Nat.zero_add, or_false, false_or, or_true, true_or, not_true_eq_false, not_false_eq_true, Classical.not_not, Nat.add_eq_zero_iff, and_false, false_and, Int.reduceEq, List.mem_cons, List.not_mem_nil, forall_eq_or_imp, forall_eq, false_implies, implies_true, forall_const, aargs_0, aargs_i, aargs_r, aargs_l, aargs_n, nfT_e, eq_self, and_self, Nat.le_refl, fu_s, fu_fu, iu_iu, iu_s, fu_am, fu_a0, fu_0a, iu_l, Nat.reduceBEq, Int.reduceBEq, T_objInit_e]
  clear mp0 mp2 mp3 mp4 mp5 mp6 mp7 mp8 mp9 mp10 mp11 mp12 mp13 mp14 mp15 mp16 mp17 mp18 mp19 mp20 mp21 mp22 mp24 mp25 mp26 mp27
  refine ⟨fun hp => ⟨fun hq => ⟨fun a => h0 (fun z => by omega), fun a => ⟨fun b => h0 (fun z => by omega), fun b => ?_⟩⟩, fun hq => h0 (fun z => hq z.2.1)⟩, fun hp => h0 (fun z => hp z.1)⟩
  exact ⟨hL, U, len, st, V, lem, su, hM1 hp, hM2 hq, fun σ2 f => h1 ⟨hp, hq, by omega⟩ σ2 f⟩
def TF_Model_differs (o : Nat) (p : Int) (q : Int) (w : Int) (y : Int) (sz sl : Nat) (lay : Nat → Nat × Int) (ρ : Nat → Int → Nat) (σ : Nat → Int → Int) (τ : Nat → Int → Int64) (k : Option AV → Mm → Prop) : Prop := LModel lay ρ o ∧ ∃ (U : Int → Int) (len : Int) (st : Nat → Int → Int) (V : Int → Int) (lem : Int) (su : Nat → Int → Int), MdP σ o p U len st ∧ MdP σ o q V lem su ∧ (((0 ≤ p ∧ p < 3) ∧ (0 ≤ q ∧ q < 3) ∧ (0 ≤ w ∧ w < 5) ∧ 0 ≤ y) → ∀ σ2 : Nat → Int → Int, QF σ σ2 o → (∀ x, 0 ≤ x ∧ x < 65536 → dfP U st V su w x → cntP (dfP U st V su w) x.toNat = y → k (some (vI (x))) (sz, sl, lay, ρ, σ2, τ)) ∧ (cntP (dfP U st V su w) 65536 ≤ y → k (some (vI (-1))) (sz, sl, lay, ρ, σ2, τ))) ∧ (¬ ((0 ≤ p ∧ p < 3) ∧ (0 ≤ q ∧ q < 3) ∧ (0 ≤ w ∧ w < 5) ∧ 0 ≤ y) → k (some (vI (-1))) (sz, sl, lay, ρ, σ, τ))
def T_Model_differs : Tr := mkT 11 fun o as M k => pI as fun p as => pI as fun q as => pI as fun w as => pI as fun y as => as = [] ∧ TF_Model_differs o p q w y M.1 M.2.1 M.2.2.1 M.2.2.2.1 M.2.2.2.2.1 M.2.2.2.2.2 k
theorem T_Model_differs_e {o : Nat} {p : Int} {q : Int} {w : Int} {y : Int} {sz sl : Nat} {lay : Nat → Nat × Int} {ρ : Nat → Int → Nat} {σ : Nat → Int → Int} {τ : Nat → Int → Int64} {k : Option AV → Mm → Prop} : T_Model_differs [vR o, vI p, vI q, vI w, vI y] (sz, sl, lay, ρ, σ, τ) k = (lay o = (21, 0) ∧ TF_Model_differs o p q w y sz sl lay ρ σ τ k) := by simp [T_Model_differs, mkT_e, pI_e, pR_e, pL_e]
theorem T_Model_differs_r (as : List AV) (M : Mm) (k : Option AV → Mm → Prop) (h : T_Model_differs as M k) : ∃ b As, as = vR b :: As ∧ M.2.2.1 b = (10 + 11, 0) := by
  obtain ⟨b, As, h1, h2, -⟩ := mkT_r h
  exact ⟨b, As, h1, h2⟩
def tb_Model_differs : List (Nat × Option (List Nat) × Instr × List Nat) := [(0, none, .iload_n 1, []), (1, none, .invokestatic 161, []), (4, none, .ifCond .eq 36, [40]), (7, none, .iload_n 2, []), (8, none, .invokestatic 161, []), (11, none, .ifCond .eq 29, [40]), (14, none, .iload_n 3, []), (15, none, .ifCond .lt 25, [40]), (18, none, .iload_n 3, []), (19, none, .iconst 4, []), (20, none, .if_icmp .gt 20, [40]), (23, none, .iload 4, []), (25, none, .ifCond .lt 15, [40]), (28, none, .aload_n 0, []), (29, none, .iload_n 1, []), (30, none, .iload_n 2, []), (31, none, .iload_n 3, []), (32, none, .iload 4, []), (34, none, .invokevirtual 224, []), (37, none, .goto 4, [41]), (40, none, .iconst (-1), []), (41, none, .ireturn, [])]
def P_Model_differs : Nat → Option (List Nat) × Instr × List Nat := plk tb_Model_differs
theorem r_Model_differs_0 : P_Model_differs 0 = (none, .iload_n 1, []) := by decide +kernel
theorem r_Model_differs_1 : P_Model_differs 1 = (none, .invokestatic 161, []) := by decide +kernel
theorem r_Model_differs_4 : P_Model_differs 4 = (none, .ifCond .eq 36, [40]) := by decide +kernel
theorem r_Model_differs_7 : P_Model_differs 7 = (none, .iload_n 2, []) := by decide +kernel
theorem r_Model_differs_8 : P_Model_differs 8 = (none, .invokestatic 161, []) := by decide +kernel
theorem r_Model_differs_11 : P_Model_differs 11 = (none, .ifCond .eq 29, [40]) := by decide +kernel
theorem r_Model_differs_14 : P_Model_differs 14 = (none, .iload_n 3, []) := by decide +kernel
theorem r_Model_differs_15 : P_Model_differs 15 = (none, .ifCond .lt 25, [40]) := by decide +kernel
theorem r_Model_differs_18 : P_Model_differs 18 = (none, .iload_n 3, []) := by decide +kernel
theorem r_Model_differs_19 : P_Model_differs 19 = (none, .iconst 4, []) := by decide +kernel
theorem r_Model_differs_20 : P_Model_differs 20 = (none, .if_icmp .gt 20, [40]) := by decide +kernel
theorem r_Model_differs_23 : P_Model_differs 23 = (none, .iload 4, []) := by decide +kernel
theorem r_Model_differs_25 : P_Model_differs 25 = (none, .ifCond .lt 15, [40]) := by decide +kernel
theorem r_Model_differs_28 : P_Model_differs 28 = (none, .aload_n 0, []) := by decide +kernel
theorem r_Model_differs_29 : P_Model_differs 29 = (none, .iload_n 1, []) := by decide +kernel
theorem r_Model_differs_30 : P_Model_differs 30 = (none, .iload_n 2, []) := by decide +kernel
theorem r_Model_differs_31 : P_Model_differs 31 = (none, .iload_n 3, []) := by decide +kernel
theorem r_Model_differs_32 : P_Model_differs 32 = (none, .iload 4, []) := by decide +kernel
theorem r_Model_differs_34 : P_Model_differs 34 = (none, .invokevirtual 224, []) := by decide +kernel
theorem r_Model_differs_37 : P_Model_differs 37 = (none, .goto 4, [41]) := by decide +kernel
theorem r_Model_differs_40 : P_Model_differs 40 = (none, .iconst (-1), []) := by decide +kernel
theorem r_Model_differs_41 : P_Model_differs 41 = (none, .ireturn, []) := by decide +kernel
def E_Model_differs : List (Nat × Ent) := [(646, (1, 0, 0, 0, T_Model_isPicture)), (896, (5, 7, 0, 0, T_Model_changed))]
def X_Model_differs : Cx := (llk (0, 0, 9) ftX11, llk 99 ntX11, llk none kcX11, llk none klX11, llk dEnt E_Model_differs, 8, 0, false)
theorem xok_Model_differs : Xok RX11 X_Model_differs := xok_of ftX11_ok ntX11_ok kcX11_ok klX11_ok (E := E_Model_differs) (List.forall_mem_cons.mpr ⟨co_X11_646, List.forall_mem_cons.mpr ⟨co_X11_896, fun _ h => absurd h List.not_mem_nil⟩⟩)
theorem xe_Model_differs_646 : xE X_Model_differs (4 * 161 + 2) = (1, 0, 0, 0, T_Model_isPicture) := rfl
theorem xe_Model_differs_896 : xE X_Model_differs (4 * 224 + 0) = (5, 7, 0, 0, T_Model_changed) := rfl
theorem xd_Model_differs : xd X_Model_differs = 8 := rfl
theorem xrb_Model_differs : xrb X_Model_differs = 0 := rfl
theorem xin_Model_differs : xin X_Model_differs = false := rfl
set_option maxHeartbeats 4000000 in
set_option maxRecDepth 100000 in
theorem S_Model_differs : Snd yX11_differs cX11_differs 5 (some .int) T_Model_differs 8 0 0 := by
  refine snd_of (X := X_Model_differs) (P := P_Model_differs) (tb := tb_Model_differs) (own := RX11) (by decide) rfl rfl (by decide +kernel) xok_Model_differs rfl rk0 (fun h => by first | rfl | cases h) ?_
  intro as M k has hM hT0
  obtain ⟨sz, sl, lay, ρ, σ, τ⟩ := M
  obtain ⟨o, as1, e, hlo, hT1⟩ := mkT_r hT0
  clear hT0
  subst e
  obtain ⟨p, as2, e, hT2⟩ := pI_x hT1
  clear hT1
  subst e
  obtain ⟨q, as3, e, hT3⟩ := pI_x hT2
  clear hT2
  subst e
  obtain ⟨w, as4, e, hT4⟩ := pI_x hT3
  clear hT3
  subst e
  obtain ⟨y, as5, e, hT5⟩ := pI_x hT4
  clear hT4
  subst e
  obtain ⟨e, hT⟩ := hT5
  subst e
  replace hlo : lay o = (21, 0) := hlo
  have r_p : -2147483648 ≤ p ∧ p ≤ 2147483647 := has (vI p) (by simp)
  have r_q : -2147483648 ≤ q ∧ q ≤ 2147483647 := has (vI q) (by simp)
  have r_w : -2147483648 ≤ w ∧ w ≤ 2147483647 := has (vI w) (by simp)
  have r_y : -2147483648 ≤ y ∧ y ≤ 2147483647 := has (vI y) (by simp)
  clear has
  replace hM : ∀ a i, -2147483648 ≤ σ a i ∧ σ a i ≤ 2147483647 := hM
  replace hT : TF_Model_differs o p q w y sz sl lay ρ σ τ k := hT
  unfold TF_Model_differs at hT
  obtain ⟨hL, U, len, st, V, lem, su, hM1, hM2, h1, h0⟩ := hT
  refine ⟨Nat.le_of_ble_eq_true rfl, fun _ _ _ => False, fun _ _ _ => 0, 30, ?_, fun _ _ _ _ _ _ h => h.elim⟩
  obtain ⟨mh, mp0, mp2, mp3, mp4, mp5, mp6, mp7, mp8, mp9, mp10, mp11, mp12, mp13, mp14, mp15, mp16, mp17, mp18, mp19, mp20, mp21, mp22, mp24, mp25, mp26, mp27, mq0, mq2, mq3, mq4, mq5, mq6, mq7, mq8, mq9, mq10, mq11, mq12, mq13, mq14, mq15, mq16, mq17, mq18, mq19, mq20, mq21, mq22, mq24, mq25, mq26, mq27⟩ := (show LModel lay ρ _ from hL)
  unfold wps
  simp only [si_iload_n0, si_iload_n1, si_iload_n2, si_iload_n3, si_iload, si_lload_n0, si_lload_n1, si_lload_n2, si_lload_n3, si_lload, si_aload_n0, si_aload_n1, si_aload_n2, si_aload_n3, si_aload, si_istore_n0, si_istore_n1, si_istore_n2, si_istore_n3, si_istore, si_astore_n0, si_astore_n1, si_astore_n2, si_astore_n3, si_astore, si_lstore_n0, si_lstore_n1, si_lstore_n2, si_lstore_n3, si_lstore, si_iconst, si_bipush, si_sipush, si_ldc, si_ldc2_w, si_lconst0, si_lconst1, si_aconst_null, si_iinc, si_dup, si_dup2, si_iadd, si_isub, si_imul, si_idiv, si_irem, si_iand, si_ior, si_ishl, si_ishr, si_ladd, si_lmul, si_lor, si_lxor, si_lshl, si_lushr, si_lcmp, si_i2b, si_i2l, si_l2i, si_icmp_eq, si_icmp_ne, si_icmp_lt, si_icmp_ge, si_icmp_gt, si_icmp_le, si_if_eq, si_if_ne, si_if_lt, si_if_ge, si_if_gt, si_if_le, si_ifnull, si_ifnonnull, si_goto, si_tableswitch, si_lookupswitch, si_getfield, si_putfield, si_getstatic, si_iaload, si_baload, si_laload, si_aaload, si_iastore, si_bastore, si_lastore, si_aastore, si_arraylength, si_new, si_newarray, si_anewarray, si_invokevirtual, si_invokespecial, si_invokestatic, si_ireturn, si_lreturn, si_areturn, si_return_, pI_e, pL_e, pR_e, pA_r, pA_n, pN_n, pN_r, oI_e, oL_e, oA_r, oA_n, lget_e, lrm1_0, lrm2_0, lrm1_i, lrm1_r, lrm1_n, lrm1_l, lrm2_i, lrm2_r, lrm2_n, lrm2_l, popN_0, popN_s, acat_i, acat_l, acat_r, acat_n, stw_0, stw_s, psh_s, psh_n, wgf_r, wgf_i, wgf_b, wgf_n, wgf_m, wpf_i, wpf_r, wpf_b, wnew_e, callE_e, rbk_0, rbk_1, tsw_0, tsw_s, lsw_0, lsw_s, wp_s, wq_t, wq_f, oV_e, pick_0, pick_s, oZ_e, oY_e, r_Model_differs_0, r_Model_differs_1, r_Model_differs_4, r_Model_differs_7, r_Model_differs_8, r_Model_differs_11, r_Model_differs_14, r_Model_differs_15, r_Model_differs_18, r_Model_differs_19, r_Model_differs_20, r_Model_differs_23, r_Model_differs_25, r_Model_differs_28, r_Model_differs_29, r_Model_differs_30, r_Model_differs_31, r_Model_differs_32, r_Model_differs_34, r_Model_differs_37, r_Model_differs_40, r_Model_differs_41, xe_Model_differs_646, xe_Model_differs_896, xd_Model_differs, xrb_Model_differs, xin_Model_differs, T_Model_isPicture_e, TF_Model_isPicture, T_Model_changed_e, TF_Model_changed, mh, mp0, mp2, mp3, mp4, mp5, mp6, mp7, mp8, mp9, mp10, mp11, mp12, mp13, mp14, mp15, mp16, mp17, mp18, mp19, mp20, mp21, mp22, mp24, mp25, mp26, mp27, mq0, mq2, mq3, mq4, mq5, mq6, mq7, mq8, mq9, mq10, mq11, mq12, mq13, mq14, mq15, mq16, mq17, mq18, mq19, mq20, mq21, mq22, mq24, mq25, mq26, mq27, Nat.reduceAdd, Nat.reduceMul, Nat.reduceEqDiff, reduceIte, Int.reduceNeg, Int.reduceLE, Int.reduceLT, Int.reduceAdd, Int.reduceSub, Int.reduceToNat, true_and, and_true, inR_e, Nat.reduceLT, Nat.reduceLeDiff, reduceCtorEq, Nat.add_zero, Nat.zero_add, or_false, false_or, or_true, true_or, not_true_eq_false, not_false_eq_true, Classical.not_not, Nat.add_eq_zero_iff, and_false, false_and, Int.reduceEq, List.mem_cons, List.not_mem_nil, forall_eq_or_imp, forall_eq, false_implies, implies_true, forall_const, aargs_0, aargs_i, aargs_r, aargs_l, aargs_n, nfT_e, eq_self, and_self, Nat.le_refl, fu_s, fu_fu, iu_iu, iu_s, fu_am, fu_a0, fu_0a, iu_l, Nat.reduceBEq, Int.reduceBEq, T_objInit_e]
  clear mp0 mp2 mp3 mp4 mp5 mp6 mp7 mp8 mp9 mp10 mp11 mp12 mp13 mp14 mp15 mp16 mp17 mp18 mp19 mp20 mp21 mp22 mp24 mp25 mp26 mp27
  refine ⟨fun hp => ⟨fun hq => ⟨fun a => h0 (fun z => by omega), fun a => ⟨fun b => h0 (fun z => by omega), fun b => ⟨fun c => h0 (fun z => by omega), fun c => ?_⟩⟩⟩, fun hq => h0 (fun z => hq z.2.1)⟩, fun hp => h0 (fun z => hp z.1)⟩
  exact ⟨hL, U, len, st, V, lem, su, hM1 hp, hM2 hq, fun σ2 f => ⟨fun z => absurd z c, fun _ => h1 ⟨hp, hq, by omega, by omega⟩ σ2 f⟩⟩

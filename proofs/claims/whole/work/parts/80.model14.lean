section
variable {σ σ2 : Nat → Int → Int} {m : Nat} {p : Int} {U : Int → Int} {len : Int} {st : Nat → Int → Int}
theorem SW.fn0 (h : SW U len st) {x : Int} (hx : ¬ (0 ≤ x ∧ x < 65536)) : fn U st x = -1 := by
  rcases h.fnR x with e | e
  · exact e
  · have := h.num e.1
    rw [e.2] at this
    omega
theorem edg_R (h : SW U len st) {s u v : Int} (e : edg U st s u v) : 0 ≤ v ∧ v < st 0 7 := by
  have hn := h.2.2.2.2.2.2.2.2.2.1.1
  rcases e with ⟨_, h0, r, _, e⟩ | ⟨_, h0, _, k, _, e⟩
  · rcases h.fnR (st 3 r) with z | z
    · omega
    · omega
  · have := tgt_R (U := U) hn u k
    omega
end
/-- nothing has changed but one row of marks, the pile and the chain -/
def LF (σ σ2 : Nat → Int → Int) (o a : Nat) : Prop := ∀ x, ¬ x = a → ¬ x = o + 20 → ¬ x = o + 23 → σ2 x = σ x
theorem LF.rf {σ : Nat → Int → Int} {o a : Nat} : LF σ σ o a := fun _ _ _ _ => rfl
theorem LF.fu {σ σ2 : Nat → Int → Int} {o a b : Nat} {f : Int → Int} (h : LF σ σ2 o a) (hb : b = a ∨ b = o + 20 ∨ b = o + 23) : LF σ (fu σ2 b f) o a := fun x h1 h2 h3 => (fu_n (by rcases hb with e | e | e <;> (rw [e]; assumption))).trans (h x h1 h2 h3)
theorem LF.mr {σ σ2 : Nat → Int → Int} {o a : Nat} {p : Int} {U : Int → Int} {len : Int} {st : Nat → Int → Int} (h : LF σ σ2 o a) (ha : a = o + 18 ∨ a = o + 19) (g : MR σ o p U len st) : MR σ2 o p U len st := g.cg (fun j _ _ => h _ (by omega) (by omega) (by omega)) (h _ (by omega) (by omega) (by omega))
/-- the marks and the pile while the living are looked for -/
def LvI (E : Int → Int → Prop) (y N : Int) (f g : Int → Int) (n : Int) : Prop := (∀ x, 0 ≤ x ∧ x < N → f x = 0 ∨ f x = 1) ∧ (∀ x, 0 ≤ x ∧ x < N → f x = 1 → RA E y x) ∧ 0 ≤ n ∧ (∀ j, 0 ≤ j ∧ j < n → (0 ≤ g j ∧ g j < N) ∧ f (g j) = 1) ∧ (∀ i j, 0 ≤ i ∧ i < j ∧ j < n → ¬ g i = g j)
section
variable {E : Int → Int → Prop} {y N : Int} {f g : Int → Int} {n v : Int}
theorem LvI.nle (h : LvI E y N f g n) (hN : 0 ≤ N) : n ≤ N := by
  obtain ⟨h1, h2, h3, h4, h5⟩ := h
  have := pig N.toNat n.toNat g (fun p hp => by have := (h4 p (by omega)).1; omega) (fun p q hp => h5 p q (by omega))
  omega
theorem LvI.push (h : LvI E y N f g n) (hv : 0 ≤ v ∧ v < N) (h0 : f v = 0) (hr : RA E y v) : LvI E y N (iu f v 1) (iu g n v) (n + 1) ∧ n < N ∧ cntP (fun x => f x = 0) N.toNat = cntP (fun x => iu f v 1 x = 0) N.toNat + 1 := by
  obtain ⟨h1, h2, h3, h4, h5⟩ := h
  have nw : LvI E y N (iu f v 1) (iu g n v) (n + 1) := by
    refine ⟨fun x hx => ?_, fun x hx hf => ?_, by omega, fun j hj => ?_, fun i j hij => ?_⟩
    · by_cases e : x = v
      · rw [e, iu_s]; exact Or.inr rfl
      · rw [iu_n e]; exact h1 x hx
    · by_cases e : x = v
      · rw [e]; exact hr
      · rw [iu_n e] at hf; exact h2 x hx hf
    · by_cases e : j = n
      · rw [e, iu_s, iu_s]; exact ⟨hv, rfl⟩
      · rw [iu_n e]
        have := h4 j (by omega)
        by_cases e2 : g j = v
        · rw [e2, iu_s]; exact ⟨hv, rfl⟩
        · rw [iu_n e2]; exact this
    · have hi := h4 i (by omega)
      rw [iu_n (show ¬ i = n by omega)]
      by_cases e : j = n
      · rw [e, iu_s]
        intro z
        rw [z, h0] at hi
        omega
      · rw [iu_n e]; exact h5 i j (by omega)
  refine ⟨nw, ?_, ?_⟩
  · have := nw.nle (by omega)
    omega
  · refine cntP_in (v := v) (by omega) (fun x _ => ?_) (fun z => by rw [iu_s] at z; omega)
    by_cases e : x = v
    · rw [e]; exact ⟨fun _ => Or.inr rfl, fun _ => h0⟩
    · rw [iu_n e]; exact ⟨Or.inl, fun z => z.elim id (fun z => absurd z e)⟩
theorem LvI.pop (h : LvI E y N f g n) (hn : 0 < n) : LvI E y N f g (n - 1) := by
  obtain ⟨h1, h2, h3, h4, h5⟩ := h
  exact ⟨h1, h2, by omega, fun j hj => h4 j (by omega), fun i j hij => h5 i j (by omega)⟩
end
def TF_Model_target (o : Nat) (p : Int) (i : Int) (j : Int) (sz sl : Nat) (lay : Nat → Nat × Int) (ρ : Nat → Int → Nat) (σ : Nat → Int → Int) (τ : Nat → Int → Int64) (k : Option AV → Mm → Prop) : Prop := LModel lay ρ o ∧ ∃ (U : Int → Int) (len : Int) (st : Nat → Int → Int), SW U len st ∧ MR σ o p U len st ∧ (0 ≤ i ∧ i < st 0 7) ∧ (0 ≤ j ∧ j < nV U (st 1) (st 2 i)) ∧ ∀ c : Int → Int, k (some (vI (tgt U st i j))) (sz, sl, lay, ρ, fu σ (o + 23) c, τ)
def T_Model_target : Tr := mkT 11 fun o as M k => pI as fun p as => pI as fun i as => pI as fun j as => as = [] ∧ TF_Model_target o p i j M.1 M.2.1 M.2.2.1 M.2.2.2.1 M.2.2.2.2.1 M.2.2.2.2.2 k
theorem T_Model_target_e {o : Nat} {p : Int} {i : Int} {j : Int} {sz sl : Nat} {lay : Nat → Nat × Int} {ρ : Nat → Int → Nat} {σ : Nat → Int → Int} {τ : Nat → Int → Int64} {k : Option AV → Mm → Prop} : T_Model_target [vR o, vI p, vI i, vI j] (sz, sl, lay, ρ, σ, τ) k = (lay o = (21, 0) ∧ TF_Model_target o p i j sz sl lay ρ σ τ k) := by simp [T_Model_target, mkT_e, pI_e, pR_e, pL_e]
theorem T_Model_target_r (as : List AV) (M : Mm) (k : Option AV → Mm → Prop) (h : T_Model_target as M k) : ∃ b As, as = vR b :: As ∧ M.2.2.1 b = (10 + 11, 0) := by
  obtain ⟨b, As, h1, h2, -⟩ := mkT_r h
  exact ⟨b, As, h1, h2⟩
def tb_Model_target : List (Nat × Option (List Nat) × Instr × List Nat) := [(0, none, .aload_n 0, []), (1, none, .getfield 47, []), (4, none, .sipush 600, []), (7, none, .iload_n 1, []), (8, none, .imul, []), (9, none, .iload_n 2, []), (10, none, .iadd, []), (11, none, .iaload, []), (12, none, .istore 4, []), (14, none, .aload_n 0, []), (15, none, .iload_n 1, []), (16, none, .iload 4, []), (18, none, .iload_n 3, []), (19, none, .invokevirtual 121, []), (22, none, .iconst 5, []), (23, none, .if_icmp .eq 5, [28]), (26, none, .iconst (-1), []), (27, none, .ireturn, []), (28, none, .aload_n 0, []), (29, none, .iload_n 1, []), (30, none, .iload 4, []), (32, none, .iload_n 3, []), (33, none, .invokevirtual 137, []), (36, none, .l2i, []), (37, none, .istore 5, []), (39, none, .iload 5, []), (41, none, .ifCond .ne 7, [48]), (44, none, .iconst (-1), []), (45, none, .goto 10, [55]), (48, none, .aload_n 0, []), (49, none, .iload_n 1, []), (50, none, .iload 5, []), (52, none, .invokevirtual 152, []), (55, none, .ireturn, [])]
def P_Model_target : Nat → Option (List Nat) × Instr × List Nat := plk tb_Model_target
theorem r_Model_target_0 : P_Model_target 0 = (none, .aload_n 0, []) := by decide +kernel
theorem r_Model_target_1 : P_Model_target 1 = (none, .getfield 47, []) := by decide +kernel
theorem r_Model_target_4 : P_Model_target 4 = (none, .sipush 600, []) := by decide +kernel
theorem r_Model_target_7 : P_Model_target 7 = (none, .iload_n 1, []) := by decide +kernel
theorem r_Model_target_8 : P_Model_target 8 = (none, .imul, []) := by decide +kernel
theorem r_Model_target_9 : P_Model_target 9 = (none, .iload_n 2, []) := by decide +kernel
theorem r_Model_target_10 : P_Model_target 10 = (none, .iadd, []) := by decide +kernel
theorem r_Model_target_11 : P_Model_target 11 = (none, .iaload, []) := by decide +kernel
theorem r_Model_target_12 : P_Model_target 12 = (none, .istore 4, []) := by decide +kernel
theorem r_Model_target_14 : P_Model_target 14 = (none, .aload_n 0, []) := by decide +kernel
theorem r_Model_target_15 : P_Model_target 15 = (none, .iload_n 1, []) := by decide +kernel
theorem r_Model_target_16 : P_Model_target 16 = (none, .iload 4, []) := by decide +kernel
theorem r_Model_target_18 : P_Model_target 18 = (none, .iload_n 3, []) := by decide +kernel
theorem r_Model_target_19 : P_Model_target 19 = (none, .invokevirtual 121, []) := by decide +kernel
theorem r_Model_target_22 : P_Model_target 22 = (none, .iconst 5, []) := by decide +kernel
theorem r_Model_target_23 : P_Model_target 23 = (none, .if_icmp .eq 5, [28]) := by decide +kernel
theorem r_Model_target_26 : P_Model_target 26 = (none, .iconst (-1), []) := by decide +kernel
theorem r_Model_target_27 : P_Model_target 27 = (none, .ireturn, []) := by decide +kernel
theorem r_Model_target_28 : P_Model_target 28 = (none, .aload_n 0, []) := by decide +kernel
theorem r_Model_target_29 : P_Model_target 29 = (none, .iload_n 1, []) := by decide +kernel
theorem r_Model_target_30 : P_Model_target 30 = (none, .iload 4, []) := by decide +kernel
theorem r_Model_target_32 : P_Model_target 32 = (none, .iload_n 3, []) := by decide +kernel
theorem r_Model_target_33 : P_Model_target 33 = (none, .invokevirtual 137, []) := by decide +kernel
theorem r_Model_target_36 : P_Model_target 36 = (none, .l2i, []) := by decide +kernel
theorem r_Model_target_37 : P_Model_target 37 = (none, .istore 5, []) := by decide +kernel
theorem r_Model_target_39 : P_Model_target 39 = (none, .iload 5, []) := by decide +kernel
theorem r_Model_target_41 : P_Model_target 41 = (none, .ifCond .ne 7, [48]) := by decide +kernel
theorem r_Model_target_44 : P_Model_target 44 = (none, .iconst (-1), []) := by decide +kernel
theorem r_Model_target_45 : P_Model_target 45 = (none, .goto 10, [55]) := by decide +kernel
theorem r_Model_target_48 : P_Model_target 48 = (none, .aload_n 0, []) := by decide +kernel
theorem r_Model_target_49 : P_Model_target 49 = (none, .iload_n 1, []) := by decide +kernel
theorem r_Model_target_50 : P_Model_target 50 = (none, .iload 5, []) := by decide +kernel
theorem r_Model_target_52 : P_Model_target 52 = (none, .invokevirtual 152, []) := by decide +kernel
theorem r_Model_target_55 : P_Model_target 55 = (none, .ireturn, []) := by decide +kernel
def E_Model_target : List (Nat × Ent) := [(484, (4, 3, 0, 0, T_Model_sortAt)), (548, (4, 5, 0, 0, T_Model_valueAt)), (608, (3, 0, 0, 0, T_Model_find))]
def X_Model_target : Cx := (llk (0, 0, 9) ftX11, llk 99 ntX11, llk none kcX11, llk none klX11, llk dEnt E_Model_target, 6, 0, false)
theorem xok_Model_target : Xok RX11 X_Model_target := xok_of ftX11_ok ntX11_ok kcX11_ok klX11_ok (E := E_Model_target) (List.forall_mem_cons.mpr ⟨co_X11_484, List.forall_mem_cons.mpr ⟨co_X11_548, List.forall_mem_cons.mpr ⟨co_X11_608, fun _ h => absurd h List.not_mem_nil⟩⟩⟩)
theorem xf_Model_target_47 : xfl X_Model_target 47 = (11, 13, 1) := by decide +kernel
theorem xe_Model_target_484 : xE X_Model_target (4 * 121 + 0) = (4, 3, 0, 0, T_Model_sortAt) := rfl
theorem xe_Model_target_548 : xE X_Model_target (4 * 137 + 0) = (4, 5, 0, 0, T_Model_valueAt) := rfl
theorem xe_Model_target_608 : xE X_Model_target (4 * 152 + 0) = (3, 0, 0, 0, T_Model_find) := rfl
theorem xd_Model_target : xd X_Model_target = 6 := rfl
theorem xrb_Model_target : xrb X_Model_target = 0 := rfl
theorem xin_Model_target : xin X_Model_target = false := rfl
set_option maxHeartbeats 4000000 in
set_option maxRecDepth 100000 in
theorem S_Model_target : Snd yX11_target cX11_target 6 (some .int) T_Model_target 6 0 0 := by
  refine snd_of (X := X_Model_target) (P := P_Model_target) (tb := tb_Model_target) (own := RX11) (by decide) rfl rfl (by decide +kernel) xok_Model_target rfl rk0 (fun h => by first | rfl | cases h) ?_
  intro as M k has hM hT0
  obtain ⟨sz, sl, lay, ρ, σ, τ⟩ := M
  obtain ⟨o, as1, e, hlo, hT1⟩ := mkT_r hT0
  clear hT0
  subst e
  obtain ⟨p, as2, e, hT2⟩ := pI_x hT1
  clear hT1
  subst e
  obtain ⟨i, as3, e, hT3⟩ := pI_x hT2
  clear hT2
  subst e
  obtain ⟨j, as4, e, hT4⟩ := pI_x hT3
  clear hT3
  subst e
  obtain ⟨e, hT⟩ := hT4
  subst e
  replace hlo : lay o = (21, 0) := hlo
  have r_p : -2147483648 ≤ p ∧ p ≤ 2147483647 := has (vI p) (by simp)
  have r_i : -2147483648 ≤ i ∧ i ≤ 2147483647 := has (vI i) (by simp)
  have r_j : -2147483648 ≤ j ∧ j ≤ 2147483647 := has (vI j) (by simp)
  clear has
  replace hM : ∀ a i, -2147483648 ≤ σ a i ∧ σ a i ≤ 2147483647 := hM
  replace hT : TF_Model_target o p i j sz sl lay ρ σ τ k := hT
  unfold TF_Model_target at hT
  obtain ⟨hL, U, len, st, hS, hR, hi, hj, hT⟩ := hT
  obtain ⟨hB, hl3, ⟨m4, m5, m6⟩, ⟨m7, m8, m9⟩, m12, ⟨m14, m13⟩, m15, ⟨m17, m16⟩, m26⟩ := (show MR σ o p U len st from hR)
  obtain ⟨b1, b2, b3, b4, b5, b6, b7⟩ := (show MB σ o p U len (st 1) from hB)
  obtain ⟨w0, w1, w2, w3, w4, w5, w6, w7, w8, w9, w10, w11, w12, w13, w14⟩ := (show SW U len st from hS)
  refine ⟨Nat.le_of_ble_eq_true rfl, fun _ _ _ => False, fun _ _ _ => 0, 42, ?_, fun _ _ _ _ _ _ h => h.elim⟩
  have tv := hS.tv hi
  have mq := m13 i hi
  have key : ∀ c : Int → Int, ∀ z, z = tgt U st i j → k (some (vI z)) (sz, sl, lay, ρ, fu σ (o + 23) c, τ) := fun c z e => by rw [e]; exact hT c
  (obtain ⟨mh, mp0, mp2, mp3, mp4, mp5, mp6, mp7, mp8, mp9, mp10, mp11, mp12, mp13, mp14, mp15, mp16, mp17, mp18, mp19, mp20, mp21, mp22, mp24, mp25, mp26, mp27, mq0, mq2, mq3, mq4, mq5, mq6, mq7, mq8, mq9, mq10, mq11, mq12, mq13, mq14, mq15, mq16, mq17, mq18, mq19, mq20, mq21, mq22, mq24, mq25, mq26, mq27⟩ := (show LModel lay ρ _ from hL); unfold wps; simp only [mq, si_iload_n0, si_iload_n1, si_iload_n2, si_iload_n3, si_iload, si_lload_n0, si_lload_n1, si_lload_n2, si_lload_n3, si_lload, si_aload_n0, si_aload_n1, si_aload_n2, si_aload_n3, si_aload, si_istore_n0, si_istore_n1, si_istore_n2, si_istore_n3, si_istore, si_astore_n0, si_astore_n1, si_astore_n2, si_astore_n3, si_astore, si_lstore_n0, si_lstore_n1, si_lstore_n2, si_lstore_n3, si_lstore, si_iconst, si_bipush, si_sipush, si_ldc, si_ldc2_w, si_lconst0, si_lconst1, si_aconst_null, si_iinc, si_dup, si_dup2, si_iadd, si_isub, si_imul, si_idiv, si_irem, si_iand, si_ior, si_ishl, si_ishr, si_ladd, si_lmul, si_lor, si_lxor, si_lshl, si_lushr, si_lcmp, si_i2b, si_i2l, si_l2i, si_icmp_eq, si_icmp_ne, si_icmp_lt, si_icmp_ge, si_icmp_gt, si_icmp_le, si_if_eq, si_if_ne, si_if_lt, si_if_ge, si_if_gt, si_if_le, si_ifnull, si_ifnonnull, si_goto, si_tableswitch, si_lookupswitch, si_getfield, si_putfield, si_getstatic, si_iaload, si_baload, si_laload, si_aaload, si_iastore, si_bastore, si_lastore, si_aastore, si_arraylength, si_new, si_newarray, si_anewarray, si_invokevirtual, si_invokespecial, si_invokestatic, si_ireturn, si_lreturn, si_areturn, si_return_, pI_e, pL_e, pR_e, pA_r, pA_n, pN_n, pN_r, oI_e, oL_e, oA_r, oA_n, lget_e, lrm1_0, lrm2_0, lrm1_i, lrm1_r, lrm1_n, lrm1_l, lrm2_i, lrm2_r, lrm2_n, lrm2_l, popN_0, popN_s, acat_i, acat_l, acat_r, acat_n, stw_0, stw_s, psh_s, psh_n, wgf_r, wgf_i, wgf_b, wgf_n, wgf_m, wpf_i, wpf_r, wpf_b, wnew_e, callE_e, rbk_0, rbk_1, tsw_0, tsw_s, lsw_0, lsw_s, wp_s, wq_t, wq_f, oV_e, pick_0, pick_s, oZ_e, oY_e, r_Model_target_0, r_Model_target_1, r_Model_target_4, r_Model_target_7, r_Model_target_8, r_Model_target_9, r_Model_target_10, r_Model_target_11, r_Model_target_12, r_Model_target_14, r_Model_target_15, r_Model_target_16, r_Model_target_18, r_Model_target_19, r_Model_target_22, r_Model_target_23, r_Model_target_26, r_Model_target_27, r_Model_target_28, r_Model_target_29, r_Model_target_30, r_Model_target_32, r_Model_target_33, r_Model_target_36, r_Model_target_37, r_Model_target_39, r_Model_target_41, r_Model_target_44, r_Model_target_45, r_Model_target_48, r_Model_target_49, r_Model_target_50, r_Model_target_52, r_Model_target_55, xf_Model_target_47, xe_Model_target_484, xe_Model_target_548, xe_Model_target_608, xd_Model_target, xrb_Model_target, xin_Model_target, T_Model_sortAt_e, TF_Model_sortAt, T_Model_valueAt_e, TF_Model_valueAt, T_Model_find_e, TF_Model_find, MB_fu, mh, mp0, mp2, mp3, mp4, mp5, mp6, mp7, mp8, mp9, mp10, mp11, mp12, mp13, mp14, mp15, mp16, mp17, mp18, mp19, mp20, mp21, mp22, mp24, mp25, mp26, mp27, mq0, mq2, mq3, mq4, mq5, mq6, mq7, mq8, mq9, mq10, mq11, mq12, mq13, mq14, mq15, mq16, mq17, mq18, mq19, mq20, mq21, mq22, mq24, mq25, mq26, mq27, Nat.reduceAdd, Nat.reduceMul, Nat.reduceEqDiff, reduceIte, Int.reduceNeg, Int.reduceLE, Int.reduceLT, Int.reduceAdd, Int.reduceSub, Int.reduceToNat, true_and, and_true, inR_e, Nat.reduceLT, Nat.reduceLeDiff, reduceCtorEq, Nat.add_zero, Nat.zero_add, or_false, false_or, or_true, true_or, not_true_eq_false, not_false_eq_true, Classical.not_not, Nat.add_eq_zero_iff, and_false, false_and, Int.reduceEq, List.mem_cons, List.not_mem_nil, forall_eq_or_imp, forall_eq, false_implies, implies_true, forall_const, aargs_0, aargs_i, aargs_r, aargs_l, aargs_n, nfT_e, eq_self, and_self, Nat.le_refl, fu_s, fu_fu, iu_iu, iu_s, fu_am, fu_a0, fu_0a, iu_l, Nat.reduceBEq, Int.reduceBEq, T_objInit_e]; clear mp0 mp2 mp3 mp4 mp5 mp6 mp7 mp8 mp9 mp10 mp11 mp12 mp13 mp14 mp15 mp16 mp17 mp18 mp19 mp20 mp21 mp22 mp24 mp25 mp26 mp27)
  refine ⟨by omega, by omega, by omega, by omega, hL, U, len, st 1, hB, tv.1, hj, fun c => ⟨fun a => ⟨hL, U, len, st 1, hB, tv, hj, fun d => ?_⟩, fun a => key c _ ?_⟩⟩
  · have v5 := vZ5 b5.1 a
    rw [l2iZ_o (by unfold inR; omega)]
    have fR := m26 (vZ U (st 1) (st 2 i) j) v5
    have fR2 := hS.fnR (vZ U (st 1) (st 2 i) j)
    refine ⟨fun b => ⟨hL, b1, fun _ => by omega, fun _ => key d _ ?_, fun z => absurd v5 z⟩, fun b => key d _ ?_⟩
    · rw [fR]
      unfold tgt
      rw [if_pos ⟨a, b⟩]
      omega
    · unfold tgt
      rw [if_neg (fun z => z.2 b)]
  · unfold tgt
    rw [if_neg (fun z => a z.1)]

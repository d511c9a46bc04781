/-- refs lead to things -/
def ThG (σ : Nat → Int → Int) (t : Nat) : Prop := (∀ i, 0 ≤ i → i ≤ σ t 12 → 0 ≤ σ (t + 9) i ∧ σ (t + 9) i ≤ 4000) ∧ (∀ u, 0 ≤ u ∧ u < σ t 12 → 0 ≤ σ (t + 9) (u + 1) - σ (t + 9) u) ∧ (∀ u k, 0 ≤ u ∧ u < σ t 12 → 0 ≤ k ∧ k < σ (t + 9) (u + 1) - σ (t + 9) u → -1 ≤ σ (t + 12) (σ (t + 9) u + k) ∧ σ (t + 12) (σ (t + 9) u + k) < σ t 12)
def gE (σ : Nat → Int → Int) (t : Nat) (s u v : Int) : Prop := (0 ≤ u ∧ u < σ t 12) ∧ 0 ≤ v ∧ (¬ s = 0 ∨ ¬ σ (t + 2) u = 2) ∧ ∃ k, (0 ≤ k ∧ k < σ (t + 9) (u + 1) - σ (t + 9) u) ∧ σ (t + 12) (σ (t + 9) u + k) = v
def gR (σ : Nat → Int → Int) (r : Nat) (v : Int) : Prop := 0 ≤ v ∧ ∃ i, (0 ≤ i ∧ i < σ r 2) ∧ σ (r + 2) i = v
/-- the ways' edges: -1 leads to what roots lead to -/
def gX (σ : Nat → Int → Int) (t : Nat) (s u v : Int) : Prop := (u = -1 ∧ gR σ (t + 13) v) ∨ gE σ t s u v
theorem Fr.lo {σ σ2 : Nat → Int → Int} {o m : Nat} (h : Fr σ σ2 o m) {t : Nat} (ht : t < o) : σ2 t = σ t := h t (by omega)
theorem ThB.fr {σ σ2 : Nat → Int → Int} {o m t : Nat} (h : ThB σ t) (hf : Fr σ σ2 o m) (ht : t + 13 ≤ o) : ThB σ2 t := h.cong (by rw [hf.lo (by omega)]) (hf.lo (by omega)) (fun i _ => by rw [hf.lo (by omega)])
theorem spE_1 {σ : Nat → Int → Int} {o : Nat} {i x q D : Int} : spE σ o i x q D (o + 1) = insA (σ (o + 1)) i (σ o 3) x := by
  unfold spE
  rw [fu_am (by decide), fu_am (by decide), fu_0a (by decide), fu_s]
theorem spE_2 {σ : Nat → Int → Int} {o : Nat} {i x q D : Int} : spE σ o i x q D (o + 2) = iu (σ (o + 2)) x D := by
  unfold spE
  rw [fu_s]
theorem spE_3 {σ : Nat → Int → Int} {o : Nat} {i x q D : Int} : spE σ o i x q D (o + 3) = iu (σ (o + 3)) x q := by
  unfold spE
  rw [fu_am (by decide), fu_s]
theorem spE_0 {σ : Nat → Int → Int} {o : Nat} {i x q D : Int} : spE σ o i x q D o = iu (σ o) 3 (σ o 3 + 1) := by
  unfold spE
  rw [fu_a0 (by decide), fu_a0 (by decide), fu_s]
theorem spE_fr {σ σ2 : Nat → Int → Int} {o : Nat} {i x q D : Int} (h : Fr σ σ2 o 3) : Fr σ (spE σ2 o i x q D) o 3 := (((h.fu (by omega)).fu (by omega)).fu (by omega)).fu (by omega)
theorem ThB.inj2 {σ : Nat → Int → Int} {t : Nat} (h : ThB σ t) (u v : Int) (hu : 0 ≤ u ∧ u < σ t 12) (hv : 0 ≤ v ∧ v < σ t 12) (e : σ (t + 1) u = σ (t + 1) v) : u = v := h.inj hu hv e
abbrev SpM (σ σ2 : Nat → Int → Int) (t o : Nat) (E : Int → Int → Prop) (bp : Int → Int) (a f : Int) (H : Int → Prop) : Prop := SpI (σ t 12) (σ (t + 1)) E (σ2 (o + 1)) (σ2 (o + 2)) (σ2 (o + 3)) bp (σ2 o 3) a f H
/-- one entry -/
theorem SpM.enter {σ σ2 : Nat → Int → Int} {t o : Nat} {E : Int → Int → Prop} {bp : Int → Int} {a f : Int} {H : Int → Prop} (h : SpM σ σ2 t o E bp a f H) {x i D q : Int} (hB : ThB σ t) (hn : 0 ≤ x ∧ x < σ t 12) (h6 : σ t 12 ≤ 600) (hx : σ2 (o + 2) x = 0) (hE : E (ln1 (σ2 (o + 1)) a) x) (haf : a < f) (hi : f ≤ i ∧ i ≤ σ2 o 3) (hl : i = f ∨ σ (t + 1) (σ2 (o + 1) (i - 1)) ≤ σ (t + 1) x) (hr : ∀ p, i ≤ p ∧ p < σ2 o 3 → σ (t + 1) x < σ (t + 1) (σ2 (o + 1) p)) (hD : D = dv (σ2 (o + 2)) (ln1 (σ2 (o + 1)) a) + 1) (hq : q = ln1 (σ2 (o + 1)) a) : SpM σ (spE σ2 o i x q D) t o E (insA bp i (σ2 o 3) a) a f (fun y => H y ∨ y = x) := by
  unfold SpM
  rw [spE_1, spE_2, spE_3, spE_0, iu_s]
  exact h.new hn h6 hx hE haf hi hl hr hB.inj2 hD hq
theorem co_X5_140 : CallOK RX5 (.invokevirtual 35) (5, 2, 0, 0, T_Spread_enter) := call_V S_Spread_enter (by decide) (ci := 5) rfl (by decide +kernel) (by decide +kernel) (by decide +kernel) (by decide +kernel) (by decide +kernel) (by decide +kernel) T_Spread_enter_r
theorem co_X5_196 : CallOK RX5 (.invokevirtual 49) (2, 1, 0, 0, T_Things_refCount) := call_V S_Things_refCount (by decide) (ci := 7) rfl (by decide +kernel) (by decide +kernel) (by decide +kernel) (by decide +kernel) (by decide +kernel) (by decide +kernel) T_Things_refCount_r
theorem co_X5_208 : CallOK RX5 (.invokevirtual 52) (3, 2, 0, 0, T_Things_targetOf) := call_V S_Things_targetOf (by decide) (ci := 7) rfl (by decide +kernel) (by decide +kernel) (by decide +kernel) (by decide +kernel) (by decide +kernel) (by decide +kernel) T_Things_targetOf_r
def TF_Spread_leave (o : Nat) (t : Nat) (x : Int) (sz sl : Nat) (lay : Nat → Nat × Int) (ρ : Nat → Int → Nat) (σ : Nat → Int → Int) (τ : Nat → Int → Int64) (k : Option AV → Mm → Prop) : Prop := LSpread lay ρ o ∧ (t + 13 ≤ o) ∧ LThings lay ρ t ∧ (0 ≤ σ t 12 ∧ σ t 12 ≤ 600) ∧ ThB σ t ∧ ThG σ t ∧ ∃ (E : Int → Int → Prop) (bp : Int → Int) (a : Int), (0 ≤ a ∧ a < σ o 3) ∧ σ (o + 1) a = x ∧ (∀ y, 0 ≤ y → (∃ k, (0 ≤ k ∧ k < σ (t + 9) (x + 1) - σ (t + 9) x) ∧ σ (t + 12) (σ (t + 9) x + k) = y) → E x y) ∧ SpM σ σ t o E bp a (σ o 3) (fun _ => False) ∧ (∀ (σ2 : Nat → Int → Int) (bp2 : Int → Int), Fr σ σ2 o 3 → SpM σ σ2 t o E bp2 a (σ o 3) (fun y => 0 ≤ y ∧ ∃ k : Int, (0 ≤ k ∧ k < σ (t + 9) (x + 1) - σ (t + 9) x) ∧ σ (t + 12) (σ (t + 9) x + k) = y) → σ2 (o + 1) a = x → k none (sz, sl, lay, ρ, σ2, τ))
def T_Spread_leave : Tr := mkT 5 fun o as M k => pR as fun t as => pI as fun x as => as = [] ∧ TF_Spread_leave o t x M.1 M.2.1 M.2.2.1 M.2.2.2.1 M.2.2.2.2.1 M.2.2.2.2.2 k
theorem T_Spread_leave_e {o : Nat} {t : Nat} {x : Int} {sz sl : Nat} {lay : Nat → Nat × Int} {ρ : Nat → Int → Nat} {σ : Nat → Int → Int} {τ : Nat → Int → Int64} {k : Option AV → Mm → Prop} : T_Spread_leave [vR o, vR t, vI x] (sz, sl, lay, ρ, σ, τ) k = (lay o = (15, 0) ∧ TF_Spread_leave o t x sz sl lay ρ σ τ k) := by simp [T_Spread_leave, mkT_e, pI_e, pR_e, pL_e]
theorem T_Spread_leave_r (as : List AV) (M : Mm) (k : Option AV → Mm → Prop) (h : T_Spread_leave as M k) : ∃ b As, as = vR b :: As ∧ M.2.2.1 b = (10 + 5, 0) := by
  obtain ⟨b, As, h1, h2, -⟩ := mkT_r h
  exact ⟨b, As, h1, h2⟩
def tb_Spread_leave : List (Nat × Option (List Nat) × Instr × List Nat) := [(0, none, .aload_n 1, []), (1, none, .iload_n 2, []), (2, none, .invokevirtual 49, []), (5, none, .istore_n 3, []), (6, none, .aload_n 0, []), (7, none, .getfield 21, []), (10, none, .istore 4, []), (12, none, .iconst 0, []), (13, none, .istore 5, []), (15, some [0, 1, 2, 3, 4, 5], .iload 5, []), (17, none, .iload_n 3, []), (18, none, .if_icmp .ge 24, [42]), (21, none, .aload_n 0, []), (22, none, .aload_n 1, []), (23, none, .aload_n 1, []), (24, none, .iload_n 2, []), (25, none, .iload 5, []), (27, none, .invokevirtual 52, []), (30, none, .iload_n 2, []), (31, none, .iload 4, []), (33, none, .invokevirtual 35, []), (36, none, .iinc 5 1, []), (39, none, .goto (-24), [15]), (42, none, .return_, [])]
def P_Spread_leave : Nat → Option (List Nat) × Instr × List Nat := plk tb_Spread_leave
theorem r_Spread_leave_0 : P_Spread_leave 0 = (none, .aload_n 1, []) := by decide +kernel
theorem r_Spread_leave_1 : P_Spread_leave 1 = (none, .iload_n 2, []) := by decide +kernel
theorem r_Spread_leave_2 : P_Spread_leave 2 = (none, .invokevirtual 49, []) := by decide +kernel
theorem r_Spread_leave_5 : P_Spread_leave 5 = (none, .istore_n 3, []) := by decide +kernel
theorem r_Spread_leave_6 : P_Spread_leave 6 = (none, .aload_n 0, []) := by decide +kernel
theorem r_Spread_leave_7 : P_Spread_leave 7 = (none, .getfield 21, []) := by decide +kernel
theorem r_Spread_leave_10 : P_Spread_leave 10 = (none, .istore 4, []) := by decide +kernel
theorem r_Spread_leave_12 : P_Spread_leave 12 = (none, .iconst 0, []) := by decide +kernel
theorem r_Spread_leave_13 : P_Spread_leave 13 = (none, .istore 5, []) := by decide +kernel
theorem r_Spread_leave_15 : P_Spread_leave 15 = (some [0, 1, 2, 3, 4, 5], .iload 5, []) := by decide +kernel
theorem r_Spread_leave_17 : P_Spread_leave 17 = (none, .iload_n 3, []) := by decide +kernel
theorem r_Spread_leave_18 : P_Spread_leave 18 = (none, .if_icmp .ge 24, [42]) := by decide +kernel
theorem r_Spread_leave_21 : P_Spread_leave 21 = (none, .aload_n 0, []) := by decide +kernel
theorem r_Spread_leave_22 : P_Spread_leave 22 = (none, .aload_n 1, []) := by decide +kernel
theorem r_Spread_leave_23 : P_Spread_leave 23 = (none, .aload_n 1, []) := by decide +kernel
theorem r_Spread_leave_24 : P_Spread_leave 24 = (none, .iload_n 2, []) := by decide +kernel
theorem r_Spread_leave_25 : P_Spread_leave 25 = (none, .iload 5, []) := by decide +kernel
theorem r_Spread_leave_27 : P_Spread_leave 27 = (none, .invokevirtual 52, []) := by decide +kernel
theorem r_Spread_leave_30 : P_Spread_leave 30 = (none, .iload_n 2, []) := by decide +kernel
theorem r_Spread_leave_31 : P_Spread_leave 31 = (none, .iload 4, []) := by decide +kernel
theorem r_Spread_leave_33 : P_Spread_leave 33 = (none, .invokevirtual 35, []) := by decide +kernel
theorem r_Spread_leave_36 : P_Spread_leave 36 = (none, .iinc 5 1, []) := by decide +kernel
theorem r_Spread_leave_39 : P_Spread_leave 39 = (none, .goto (-24), [15]) := by decide +kernel
theorem r_Spread_leave_42 : P_Spread_leave 42 = (none, .return_, []) := by decide +kernel
def E_Spread_leave : List (Nat × Ent) := [(140, (5, 2, 0, 0, T_Spread_enter)), (196, (2, 1, 0, 0, T_Things_refCount)), (208, (3, 2, 0, 0, T_Things_targetOf))]
def X_Spread_leave : Cx := (llk (0, 0, 9) ftX5, llk 99 ntX5, llk none kcX5, llk none klX5, llk dEnt E_Spread_leave, 3, 3, false)
theorem xok_Spread_leave : Xok RX5 X_Spread_leave := xok_of ftX5_ok ntX5_ok kcX5_ok klX5_ok (E := E_Spread_leave) (List.forall_mem_cons.mpr ⟨co_X5_140, List.forall_mem_cons.mpr ⟨co_X5_196, List.forall_mem_cons.mpr ⟨co_X5_208, fun _ h => absurd h List.not_mem_nil⟩⟩⟩)
theorem xf_Spread_leave_21 : xfl X_Spread_leave 21 = (5, 3, 0) := by decide +kernel
theorem xe_Spread_leave_140 : xE X_Spread_leave (4 * 35 + 0) = (5, 2, 0, 0, T_Spread_enter) := rfl
theorem xe_Spread_leave_196 : xE X_Spread_leave (4 * 49 + 0) = (2, 1, 0, 0, T_Things_refCount) := rfl
theorem xe_Spread_leave_208 : xE X_Spread_leave (4 * 52 + 0) = (3, 2, 0, 0, T_Things_targetOf) := rfl
theorem xd_Spread_leave : xd X_Spread_leave = 3 := rfl
theorem xrb_Spread_leave : xrb X_Spread_leave = 3 := rfl
theorem xin_Spread_leave : xin X_Spread_leave = false := rfl
set_option maxHeartbeats 4000000 in
set_option maxRecDepth 100000 in
theorem S_Spread_leave : Snd yX5_leave cX5_leave 6 none T_Spread_leave 3 0 0 := by
  refine snd_of (X := X_Spread_leave) (P := P_Spread_leave) (tb := tb_Spread_leave) (own := RX5) (by decide) rfl rfl (by decide +kernel) xok_Spread_leave rfl rk3 (fun h => by first | rfl | cases h) ?_
  intro as M k has hM hT0
  obtain ⟨sz, sl, lay, ρ, σ, τ⟩ := M
  obtain ⟨o, as1, e, hlo, hT1⟩ := mkT_r hT0
  clear hT0
  subst e
  obtain ⟨t, as2, e, hT2⟩ := pR_x hT1
  clear hT1
  subst e
  obtain ⟨x, as3, e, hT3⟩ := pI_x hT2
  clear hT2
  subst e
  obtain ⟨e, hT⟩ := hT3
  subst e
  replace hlo : lay o = (15, 0) := hlo
  have r_x : -2147483648 ≤ x ∧ x ≤ 2147483647 := has (vI x) (by simp)
  clear has
  replace hM : ∀ a i, -2147483648 ≤ σ a i ∧ σ a i ≤ 2147483647 := hM
  replace hT : TF_Spread_leave o t x sz sl lay ρ σ τ k := hT
  unfold TF_Spread_leave at hT
  obtain ⟨hS, hto, hL, hn, hB, hG, E, bp, a, ha, hax, hE, hI, hT⟩ := hT
  have hx : 0 ≤ x ∧ x < σ t 12 := by rw [← hax]; exact (hI.hp a ha).1
  obtain ⟨sh, sp0, sp1, sp2, sq0, sq1, sq2⟩ := (show LSpread lay ρ _ from hS)
  obtain ⟨lh, lp0, lp1, lp2, lp3, lp4, lp5, lp6, lp7, lp8, lp9, lp10, lp11, lq0, lq1, lq2, lq3, lq4, lq5, lq6, lq7, lq8, lq9, lq10, lq11⟩ := (show LThings lay ρ _ from hL)
  obtain ⟨J, hJd⟩ : ∃ J : Nat → List AV → Mm → Prop, J = (fun c vs M1 => c = 15 ∧ ∃ (n : Nat) (σ1 : Nat → Int → Int) (bp1 : Int → Int), n ≤ σ (t + 9) (x + 1) - σ (t + 9) x ∧ Fr σ σ1 o 3 ∧ SpM σ σ1 t o E bp1 a (σ o 3) (fun y => 0 ≤ y ∧ ∃ k : Int, (0 ≤ k ∧ k < n) ∧ σ (t + 12) (σ (t + 9) x + k) = y) ∧ σ1 (o + 1) a = x ∧ vs = [vR o, vR t, vI x, vI (σ (t + 9) (x + 1) - σ (t + 9) x), vI (σ o 3), vI n] ∧ M1 = (sz, sl, lay, ρ, σ1, τ)) := ⟨_, rfl⟩
  obtain ⟨μ, hμ⟩ : ∃ μ : Nat → List AV → Mm → Nat, μ = (fun _ vs _ => (σ (t + 9) (x + 1) - σ (t + 9) x - gI (vs.getD 5 vN)).toNat) := ⟨_, rfl⟩
  refine ⟨Nat.le_of_ble_eq_true rfl, J, μ, 32, ?_, ?_⟩
  · unfold wps
    simp only [si_iload_n0, si_iload_n1, si_iload_n2, si_iload_n3, si_iload, si_lload_n0, si_lload_n1, si_lload_n2, si_lload_n3, si_lload, si_aload_n0, si_aload_n1, si_aload_n2, si_aload_n3, si_aload, si_istore_n0, si_istore_n1, si_istore_n2, si_istore_n3, si_istore, si_astore_n0, si_astore_n1, si_astore_n2, si_astore_n3, si_astore, si_lstore_n0, si_lstore_n1, si_lstore_n2, si_lstore_n3, si_lstore, si_iconst, si_bipush, si_sipush, si_ldc, si_ldc2_w, si_lconst0, si_lconst1, si_aconst_null, si_iinc, si_dup, si_dup2, si_iadd, si_isub, si_imul, si_idiv, si_irem, si_iand, si_ior, si_ishl, si_ishr, si_ladd, si_lmul, si_lor, si_lxor, si_lshl, si_lushr, si_lcmp, si_i2b, si_i2l, si_l2i, si_icmp_eq, si_icmp_ne, si_icmp_lt, si_icmp_ge, si_icmp_gt, si_icmp_le, si_if_eq, si_if_ne, si_if_lt, si_if_ge, si_if_gt, si_if_le, si_ifnull, si_ifnonnull, si_goto, si_tableswitch, si_lookupswitch, si_getfield, si_putfield, si_getstatic, si_iaload, si_baload, si_laload, si_aaload, si_iastore, si_bastore, si_lastore, si_aastore, si_arraylength, si_new, si_newarray, si_anewarray, si_invokevirtual, si_invokespecial, si_invokestatic, si_ireturn, si_lreturn, si_areturn, si_return_, pI_e, pL_e, pR_e, pA_r, pA_n, pN_n, pN_r, oI_e, oL_e, oA_r, oA_n, lget_e, lrm1_0, lrm2_0, lrm1_i, lrm1_r, lrm1_n, lrm1_l, lrm2_i, lrm2_r, lrm2_n, lrm2_l, popN_0, popN_s, acat_i, acat_l, acat_r, acat_n, stw_0, stw_s, psh_s, psh_n, wgf_r, wgf_i, wgf_b, wgf_n, wgf_m, wpf_i, wpf_r, wpf_b, wnew_e, callE_e, rbk_0, rbk_1, tsw_0, tsw_s, lsw_0, lsw_s, wp_s, wq_t, wq_f, oV_e, pick_0, pick_s, oZ_e, oY_e, r_Spread_leave_0, r_Spread_leave_1, r_Spread_leave_2, r_Spread_leave_5, r_Spread_leave_6, r_Spread_leave_7, r_Spread_leave_10, r_Spread_leave_12, r_Spread_leave_13, r_Spread_leave_15, r_Spread_leave_17, r_Spread_leave_18, r_Spread_leave_21, r_Spread_leave_22, r_Spread_leave_23, r_Spread_leave_24, r_Spread_leave_25, r_Spread_leave_27, r_Spread_leave_30, r_Spread_leave_31, r_Spread_leave_33, r_Spread_leave_36, r_Spread_leave_39, r_Spread_leave_42, xf_Spread_leave_21, xe_Spread_leave_140, xe_Spread_leave_196, xe_Spread_leave_208, xd_Spread_leave, xrb_Spread_leave, xin_Spread_leave, T_Spread_enter_e, TF_Spread_enter, T_Things_refCount_e, TF_Things_refCount, T_Things_targetOf_e, TF_Things_targetOf, sh, sp0, sp1, sp2, sq0, sq1, sq2, lh, lp0, lp1, lp2, lp3, lp4, lp5, lp6, lp7, lp8, lp9, lp10, lp11, lq0, lq1, lq2, lq3, lq4, lq5, lq6, lq7, lq8, lq9, lq10, lq11, fu_f1, fu_f2, fu_f3, fu_f4, hto, Nat.reduceAdd, Nat.reduceMul, Nat.reduceEqDiff, reduceIte, Int.reduceNeg, Int.reduceLE, Int.reduceLT, Int.reduceAdd, Int.reduceSub, Int.reduceToNat, true_and, and_true, inR_e, Nat.reduceLT, Nat.reduceLeDiff, reduceCtorEq, Nat.add_zero, Nat.zero_add, or_false, false_or, or_true, true_or, not_true_eq_false, not_false_eq_true, Classical.not_not, Nat.add_eq_zero_iff, and_false, false_and, Int.reduceEq, List.mem_cons, List.not_mem_nil, forall_eq_or_imp, forall_eq, false_implies, implies_true, forall_const, aargs_0, aargs_i, aargs_r, aargs_l, aargs_n, nfT_e, eq_self, and_self, Nat.le_refl, fu_s, fu_fu, iu_iu, iu_s, fu_am, fu_a0, fu_0a, iu_l, Nat.reduceBEq, Int.reduceBEq, T_objInit_e]
    refine ⟨hL, hn, hG.1, fun _ => ?_, fun z => absurd hx z⟩
    rw [hJd]
    exact ⟨rfl, 0, σ, bp, (by have := hG.2.1 x hx; omega), Fr.rfl', hI.mono (fun y hy => by obtain ⟨-, k, hk, -⟩ := hy; omega), hax, rfl, rfl⟩
  · intro cp vs M1 hvs hM1 hlen hJ
    rw [hJd] at hJ
    obtain ⟨rfl, n, σ1, bp1, g1, g2, g3, g4, rfl, rfl⟩ := hJ
    have e0 : σ1 t = σ t := g2.lo (by omega)
    have e1 : σ1 (t + 1) = σ (t + 1) := g2.lo (by omega)
    have e9 : σ1 (t + 9) = σ (t + 9) := g2.lo (by omega)
    have e12 : σ1 (t + 12) = σ (t + 12) := g2.lo (by omega)
    have hcn := g3.cn hn.1
    have ha2 := g3.ha
    unfold wps
    simp only [Option.getD_some, List.zip_cons_cons, List.zip_nil_left, List.zip_nil_right, List.zip_nil_right, e0, e1, e9, e12, si_iload_n0, si_iload_n1, si_iload_n2, si_iload_n3, si_iload, si_lload_n0, si_lload_n1, si_lload_n2, si_lload_n3, si_lload, si_aload_n0, si_aload_n1, si_aload_n2, si_aload_n3, si_aload, si_istore_n0, si_istore_n1, si_istore_n2, si_istore_n3, si_istore, si_astore_n0, si_astore_n1, si_astore_n2, si_astore_n3, si_astore, si_lstore_n0, si_lstore_n1, si_lstore_n2, si_lstore_n3, si_lstore, si_iconst, si_bipush, si_sipush, si_ldc, si_ldc2_w, si_lconst0, si_lconst1, si_aconst_null, si_iinc, si_dup, si_dup2, si_iadd, si_isub, si_imul, si_idiv, si_irem, si_iand, si_ior, si_ishl, si_ishr, si_ladd, si_lmul, si_lor, si_lxor, si_lshl, si_lushr, si_lcmp, si_i2b, si_i2l, si_l2i, si_icmp_eq, si_icmp_ne, si_icmp_lt, si_icmp_ge, si_icmp_gt, si_icmp_le, si_if_eq, si_if_ne, si_if_lt, si_if_ge, si_if_gt, si_if_le, si_ifnull, si_ifnonnull, si_goto, si_tableswitch, si_lookupswitch, si_getfield, si_putfield, si_getstatic, si_iaload, si_baload, si_laload, si_aaload, si_iastore, si_bastore, si_lastore, si_aastore, si_arraylength, si_new, si_newarray, si_anewarray, si_invokevirtual, si_invokespecial, si_invokestatic, si_ireturn, si_lreturn, si_areturn, si_return_, pI_e, pL_e, pR_e, pA_r, pA_n, pN_n, pN_r, oI_e, oL_e, oA_r, oA_n, lget_e, lrm1_0, lrm2_0, lrm1_i, lrm1_r, lrm1_n, lrm1_l, lrm2_i, lrm2_r, lrm2_n, lrm2_l, popN_0, popN_s, acat_i, acat_l, acat_r, acat_n, stw_0, stw_s, psh_s, psh_n, wgf_r, wgf_i, wgf_b, wgf_n, wgf_m, wpf_i, wpf_r, wpf_b, wnew_e, callE_e, rbk_0, rbk_1, tsw_0, tsw_s, lsw_0, lsw_s, wp_s, wq_t, wq_f, oV_e, pick_0, pick_s, oZ_e, oY_e, r_Spread_leave_0, r_Spread_leave_1, r_Spread_leave_2, r_Spread_leave_5, r_Spread_leave_6, r_Spread_leave_7, r_Spread_leave_10, r_Spread_leave_12, r_Spread_leave_13, r_Spread_leave_15, r_Spread_leave_17, r_Spread_leave_18, r_Spread_leave_21, r_Spread_leave_22, r_Spread_leave_23, r_Spread_leave_24, r_Spread_leave_25, r_Spread_leave_27, r_Spread_leave_30, r_Spread_leave_31, r_Spread_leave_33, r_Spread_leave_36, r_Spread_leave_39, r_Spread_leave_42, xf_Spread_leave_21, xe_Spread_leave_140, xe_Spread_leave_196, xe_Spread_leave_208, xd_Spread_leave, xrb_Spread_leave, xin_Spread_leave, T_Spread_enter_e, TF_Spread_enter, T_Things_refCount_e, TF_Things_refCount, T_Things_targetOf_e, TF_Things_targetOf, sh, sp0, sp1, sp2, sq0, sq1, sq2, lh, lp0, lp1, lp2, lp3, lp4, lp5, lp6, lp7, lp8, lp9, lp10, lp11, lq0, lq1, lq2, lq3, lq4, lq5, lq6, lq7, lq8, lq9, lq10, lq11, fu_f1, fu_f2, fu_f3, fu_f4, hto, Nat.reduceAdd, Nat.reduceMul, Nat.reduceEqDiff, reduceIte, Int.reduceNeg, Int.reduceLE, Int.reduceLT, Int.reduceAdd, Int.reduceSub, Int.reduceToNat, true_and, and_true, inR_e, Nat.reduceLT, Nat.reduceLeDiff, reduceCtorEq, Nat.add_zero, Nat.zero_add, or_false, false_or, or_true, true_or, not_true_eq_false, not_false_eq_true, Classical.not_not, Nat.add_eq_zero_iff, and_false, false_and, Int.reduceEq, List.mem_cons, List.not_mem_nil, forall_eq_or_imp, forall_eq, false_implies, implies_true, forall_const, aargs_0, aargs_i, aargs_r, aargs_l, aargs_n, nfT_e, eq_self, and_self, Nat.le_refl, fu_s, fu_fu, iu_iu, iu_s, fu_am, fu_a0, fu_0a, iu_l, Nat.reduceBEq, Int.reduceBEq, T_objInit_e]
    refine ⟨fun h => ?_, fun h => ?_⟩
    · refine hT σ1 bp1 g2 (g3.mono (fun y hy => ?_)) g4
      obtain ⟨h1, k, h2, h3⟩ := hy
      exact ⟨h1, k, by omega, h3⟩
    · have htg := hG.2.2 x n hx (by omega)
      have q1 := hG.1 x hx.1 (by omega)
      have q2 := hG.1 (x + 1) (by omega) (by omega)
      refine ⟨hL, hn, hG.1, fun _ => ?_, fun z => absurd z (by omega)⟩
      have hEt : 0 ≤ σ (t + 12) (σ (t + 9) x + n) → E x (σ (t + 12) (σ (t + 9) x + n)) := fun z => hE _ z ⟨n, by omega, rfl⟩
      have hlx : ln1 (σ1 (o + 1)) a = x := by rw [ln1_p ha.1]; exact g4
      have hdx := g3.dp (p := a) (by omega)
      rw [g4] at hdx
      refine ⟨hS, hL, hn, by omega, fun p hp => (g3.hp p hp).1, htg, by omega, fun _ => by omega, fun z1 z2 => by have := g3.room ⟨z1, htg.2⟩ z2; omega, fun z => ?_, fun z1 z2 i D hi hl hr hq hD => ?_⟩
      · refine ⟨by omega, ?_, (by rw [hμ]; simp only [gI_e, List.getD_cons_succ, List.getD_cons_zero]; omega)⟩
        rw [hJd]
        refine ⟨rfl, n + 1, σ1, bp1, by omega, g2, ?_, g4, rfl, rfl⟩
        rcases z with z | z
        · refine g3.mono (fun y hy => ?_)
          obtain ⟨h1, k, h2, h3⟩ := hy
          have : k = n ∨ k < n := by omega
          rcases this with e | e
          · subst e; omega
          · exact ⟨h1, k, by omega, h3⟩
        · by_cases zz : σ (t + 12) (σ (t + 9) x + n) = -1
          · refine g3.mono (fun y hy => ?_)
            obtain ⟨h1, k, h2, h3⟩ := hy
            have : k = n ∨ k < n := by omega
            rcases this with e | e
            · subst e; omega
            · exact ⟨h1, k, by omega, h3⟩
          · refine (g3.old (x := σ (t + 12) (σ (t + 9) x + n)) (by omega) z).mono (fun y hy => ?_)
            obtain ⟨h1, k, h2, h3⟩ := hy
            have : k = n ∨ k < n := by omega
            rcases this with e | e
            · subst e; exact Or.inr h3.symm
            · exact Or.inl ⟨h1, k, by omega, h3⟩
      · refine ⟨by omega, ?_, (by rw [hμ]; simp only [gI_e, List.getD_cons_succ, List.getD_cons_zero]; omega)⟩
        rw [hJd]
        have hx0 : ¬ x = -1 := by omega
        refine ⟨rfl, n + 1, spE σ1 o i (σ (t + 12) (σ (t + 9) x + n)) x D, insA bp1 i (σ1 o 3) a, by omega, spE_fr g2, ?_, ?_, rfl, rfl⟩
        · refine (g3.enter hB ⟨z1, htg.2⟩ hn.2 z2 (by rw [hlx]; exact hEt z1) (by omega) hi hl hr (by rw [hlx, dv_p (by omega)]; exact hD hx0) hlx.symm).mono (fun y hy => ?_)
          obtain ⟨h1, k, h2, h3⟩ := hy
          have : k = n ∨ k < n := by omega
          rcases this with e | e
          · subst e; exact Or.inr h3.symm
          · exact Or.inl ⟨h1, k, by omega, h3⟩
        · rw [spE_1, insA_lo (by omega)]; exact g4

def itB (bef : Int → Int) : Nat → Int → Int
  | 0, x => x
  | k + 1, x => bef (itB bef k x)
theorem Fr.hi {σ σ2 : Nat → Int → Int} {o m : Nat} (h : Fr σ σ2 o m) {t : Nat} (ht : o + m < t) : σ2 t = σ t := h t (by omega)
theorem SpI.itb {n : Int} {num : Int → Int} {E : Int → Int → Prop} {line dist bef bp : Int → Int} {c : Int} (h : SpF n num E line dist bef bp c) {x : Int} (hx : Lv line c x) : ∀ k : Nat, k < dist x → Lv line c (itB bef k x) ∧ dist (itB bef k x) = dist x - k
  | 0, _ => ⟨hx, by show dist x = _; omega⟩
  | k + 1, hk => by
    obtain ⟨⟨p, hp, e⟩, h2⟩ := h.itb hx k (by omega)
    obtain ⟨-, g2, -, g4, g5, -⟩ := h.hp p hp
    rw [e] at g4 g5
    show Lv line c (bef (itB bef k x)) ∧ dist (bef (itB bef k x)) = _
    rw [g4]
    have hb : 0 ≤ bp p := by
      by_cases g : bp p = -1
      · rw [g, ln1_m, dv_m] at g5; omega
      · omega
    have hl := (h.hp (bp p) (by omega)).1
    rw [ln1_p hb] at g5 ⊢
    rw [dv_p hl.1] at g5
    exact ⟨⟨bp p, by omega, rfl⟩, by omega⟩
def TF_Trail_numberAt (o : Nat) (i : Int) (sz sl : Nat) (lay : Nat → Nat × Int) (ρ : Nat → Int → Nat) (σ : Nat → Int → Int) (τ : Nat → Int → Int64) (k : Option AV → Mm → Prop) : Prop := LTrail lay ρ o ∧ (0 ≤ σ o 1 ∧ σ o 1 ≤ 600) ∧ (0 ≤ i ∧ i < σ o 1 → k (some (vI (σ (o + 1) i))) (sz, sl, lay, ρ, σ, τ)) ∧ (¬ (0 ≤ i ∧ i < σ o 1) → k (some (vI (-1))) (sz, sl, lay, ρ, σ, τ))
def T_Trail_numberAt : Tr := mkT 8 fun o as M k => pI as fun i as => as = [] ∧ TF_Trail_numberAt o i M.1 M.2.1 M.2.2.1 M.2.2.2.1 M.2.2.2.2.1 M.2.2.2.2.2 k
theorem T_Trail_numberAt_e {o : Nat} {i : Int} {sz sl : Nat} {lay : Nat → Nat × Int} {ρ : Nat → Int → Nat} {σ : Nat → Int → Int} {τ : Nat → Int → Int64} {k : Option AV → Mm → Prop} : T_Trail_numberAt [vR o, vI i] (sz, sl, lay, ρ, σ, τ) k = (lay o = (18, 0) ∧ TF_Trail_numberAt o i sz sl lay ρ σ τ k) := by simp [T_Trail_numberAt, mkT_e, pI_e, pR_e, pL_e]
theorem T_Trail_numberAt_r (as : List AV) (M : Mm) (k : Option AV → Mm → Prop) (h : T_Trail_numberAt as M k) : ∃ b As, as = vR b :: As ∧ M.2.2.1 b = (10 + 8, 0) := by
  obtain ⟨b, As, h1, h2, -⟩ := mkT_r h
  exact ⟨b, As, h1, h2⟩
def tb_Trail_numberAt : List (Nat × Option (List Nat) × Instr × List Nat) := [(0, none, .iload_n 1, []), (1, none, .ifCond .lt 11, [12]), (4, none, .iload_n 1, []), (5, none, .aload_n 0, []), (6, none, .getfield 15, []), (9, none, .if_icmp .lt 7, [16]), (12, none, .iconst (-1), []), (13, none, .goto 9, [22]), (16, none, .aload_n 0, []), (17, none, .getfield 9, []), (20, none, .iload_n 1, []), (21, none, .iaload, []), (22, none, .ireturn, [])]
def P_Trail_numberAt : Nat → Option (List Nat) × Instr × List Nat := plk tb_Trail_numberAt
theorem r_Trail_numberAt_0 : P_Trail_numberAt 0 = (none, .iload_n 1, []) := by decide +kernel
theorem r_Trail_numberAt_1 : P_Trail_numberAt 1 = (none, .ifCond .lt 11, [12]) := by decide +kernel
theorem r_Trail_numberAt_4 : P_Trail_numberAt 4 = (none, .iload_n 1, []) := by decide +kernel
theorem r_Trail_numberAt_5 : P_Trail_numberAt 5 = (none, .aload_n 0, []) := by decide +kernel
theorem r_Trail_numberAt_6 : P_Trail_numberAt 6 = (none, .getfield 15, []) := by decide +kernel
theorem r_Trail_numberAt_9 : P_Trail_numberAt 9 = (none, .if_icmp .lt 7, [16]) := by decide +kernel
theorem r_Trail_numberAt_12 : P_Trail_numberAt 12 = (none, .iconst (-1), []) := by decide +kernel
theorem r_Trail_numberAt_13 : P_Trail_numberAt 13 = (none, .goto 9, [22]) := by decide +kernel
theorem r_Trail_numberAt_16 : P_Trail_numberAt 16 = (none, .aload_n 0, []) := by decide +kernel
theorem r_Trail_numberAt_17 : P_Trail_numberAt 17 = (none, .getfield 9, []) := by decide +kernel
theorem r_Trail_numberAt_20 : P_Trail_numberAt 20 = (none, .iload_n 1, []) := by decide +kernel
theorem r_Trail_numberAt_21 : P_Trail_numberAt 21 = (none, .iaload, []) := by decide +kernel
theorem r_Trail_numberAt_22 : P_Trail_numberAt 22 = (none, .ireturn, []) := by decide +kernel
def E_Trail_numberAt : List (Nat × Ent) := []
def X_Trail_numberAt : Cx := (llk (0, 0, 9) ftX8, llk 99 ntX8, llk none kcX8, llk none klX8, llk dEnt E_Trail_numberAt, 0, 0, false)
theorem xok_Trail_numberAt : Xok RX8 X_Trail_numberAt := xok_of ftX8_ok ntX8_ok kcX8_ok klX8_ok (E := E_Trail_numberAt) (fun _ h => absurd h List.not_mem_nil)
theorem xf_Trail_numberAt_9 : xfl X_Trail_numberAt 9 = (8, 0, 1) := by decide +kernel
theorem xf_Trail_numberAt_15 : xfl X_Trail_numberAt 15 = (8, 1, 0) := by decide +kernel
theorem xd_Trail_numberAt : xd X_Trail_numberAt = 0 := rfl
theorem xrb_Trail_numberAt : xrb X_Trail_numberAt = 0 := rfl
theorem xin_Trail_numberAt : xin X_Trail_numberAt = false := rfl
set_option maxHeartbeats 4000000 in
set_option maxRecDepth 100000 in
theorem S_Trail_numberAt : Snd yX8_numberAt cX8_numberAt 2 (some .int) T_Trail_numberAt 0 0 0 := by
  refine snd_of (X := X_Trail_numberAt) (P := P_Trail_numberAt) (tb := tb_Trail_numberAt) (own := RX8) (by decide) rfl rfl (by decide +kernel) xok_Trail_numberAt rfl rk0 (fun h => by first | rfl | cases h) ?_
  intro as M k has hM hT0
  obtain ⟨sz, sl, lay, ρ, σ, τ⟩ := M
  obtain ⟨o, as1, e, hlo, hT1⟩ := mkT_r hT0
  clear hT0
  subst e
  obtain ⟨i, as2, e, hT2⟩ := pI_x hT1
  clear hT1
  subst e
  obtain ⟨e, hT⟩ := hT2
  subst e
  replace hlo : lay o = (18, 0) := hlo
  have r_i : -2147483648 ≤ i ∧ i ≤ 2147483647 := has (vI i) (by simp)
  clear has
  replace hM : ∀ a i, -2147483648 ≤ σ a i ∧ σ a i ≤ 2147483647 := hM
  replace hT : TF_Trail_numberAt o i sz sl lay ρ σ τ k := hT
  unfold TF_Trail_numberAt at hT
  obtain ⟨hT8, hc, h1, h0⟩ := hT
  refine ⟨Nat.le_of_ble_eq_true rfl, fun _ _ _ => False, fun _ _ _ => 0, 21, ?_, fun _ _ _ _ _ _ h => h.elim⟩
  obtain ⟨rh, rp0, rq0⟩ := (show LTrail lay ρ _ from hT8)
  unfold wps
  simp only [si_iload_n0, si_iload_n1, si_iload_n2, si_iload_n3, si_iload, si_lload_n0, si_lload_n1, si_lload_n2, si_lload_n3, si_lload, si_aload_n0, si_aload_n1, si_aload_n2, si_aload_n3, si_aload, si_istore_n0, si_istore_n1, si_istore_n2, si_istore_n3, si_istore, si_astore_n0, si_astore_n1, si_astore_n2, si_astore_n3, si_astore, si_lstore_n0, si_lstore_n1, si_lstore_n2, si_lstore_n3, si_lstore, si_iconst, si_bipush, si_sipush, si_ldc, si_ldc2_w, si_lconst0, si_lconst1, si_aconst_null, si_iinc, si_dup, si_dup2, si_iadd, si_isub, si_imul, si_idiv, si_irem, si_iand, si_ior, si_ishl, si_ishr, si_ladd, si_lmul, si_lor, si_lxor, si_lshl, si_lushr, si_lcmp, si_i2b, si_i2l, si_l2i, si_icmp_eq, si_icmp_ne, si_icmp_lt, si_icmp_ge, si_icmp_gt, si_icmp_le, si_if_eq, si_if_ne, si_if_lt, si_if_ge, si_if_gt, si_if_le, si_ifnull, si_ifnonnull, si_goto, si_tableswitch, si_lookupswitch, si_getfield, si_putfield, si_getstatic, si_iaload, si_baload, si_laload, si_aaload, si_iastore, si_bastore, si_lastore, si_aastore, si_arraylength, si_new, si_newarray, si_anewarray, si_invokevirtual, si_invokespecial, si_invokestatic, si_ireturn, si_lreturn, si_areturn, si_return_, pI_e, pL_e, pR_e, pA_r, pA_n, pN_n, pN_r, oI_e, oL_e, oA_r, oA_n, lget_e, lrm1_0, lrm2_0, lrm1_i, lrm1_r, lrm1_n, lrm1_l, lrm2_i, lrm2_r, lrm2_n, lrm2_l, popN_0, popN_s, acat_i, acat_l, acat_r, acat_n, stw_0, stw_s, psh_s, psh_n, wgf_r, wgf_i, wgf_b, wgf_n, wgf_m, wpf_i, wpf_r, wpf_b, wnew_e, callE_e, rbk_0, rbk_1, tsw_0, tsw_s, lsw_0, lsw_s, wp_s, wq_t, wq_f, oV_e, pick_0, pick_s, oZ_e, oY_e, r_Trail_numberAt_0, r_Trail_numberAt_1, r_Trail_numberAt_4, r_Trail_numberAt_5, r_Trail_numberAt_6, r_Trail_numberAt_9, r_Trail_numberAt_12, r_Trail_numberAt_13, r_Trail_numberAt_16, r_Trail_numberAt_17, r_Trail_numberAt_20, r_Trail_numberAt_21, r_Trail_numberAt_22, xf_Trail_numberAt_9, xf_Trail_numberAt_15, xd_Trail_numberAt, xrb_Trail_numberAt, xin_Trail_numberAt, rh, rp0, rq0, Nat.reduceAdd, Nat.reduceMul, Nat.reduceEqDiff, reduceIte, Int.reduceNeg, Int.reduceLE, Int.reduceLT, Int.reduceAdd, Int.reduceSub, Int.reduceToNat, true_and, and_true, inR_e, Nat.reduceLT, Nat.reduceLeDiff, reduceCtorEq, Nat.add_zero, Nat.zero_add, or_false, false_or, or_true, true_or, not_true_eq_false, not_false_eq_true, Classical.not_not, Nat.add_eq_zero_iff, and_false, false_and, Int.reduceEq, List.mem_cons, List.not_mem_nil, forall_eq_or_imp, forall_eq, false_implies, implies_true, forall_const, aargs_0, aargs_i, aargs_r, aargs_l, aargs_n, nfT_e, eq_self, and_self, Nat.le_refl, fu_s, fu_fu, iu_iu, iu_s, fu_am, fu_a0, fu_0a, iu_l, Nat.reduceBEq, Int.reduceBEq, T_objInit_e]
  clear rp0
  repeat' (first | assumption | intro _ | apply And.intro)
  all_goals first | omega | assumption | (exact h1 (by omega)) | (exact h0 (by omega)) | (exact h1 ⟨by omega, by omega⟩) | (exact h0 ⟨by omega, by omega⟩) | (exact h1 ⟨by omega, by omega, by omega⟩) | (exact h0 ⟨by omega, by omega, by omega⟩)
theorem co_X8_76 : CallOK RX8 (.invokevirtual 19) (2, 1, 0, 0, T_Spread_distanceOf) := call_V S_Spread_distanceOf (by decide) (ci := 5) rfl (by decide +kernel) (by decide +kernel) (by decide +kernel) (by decide +kernel) (by decide +kernel) (by decide +kernel) T_Spread_distanceOf_r
theorem co_X8_100 : CallOK RX8 (.invokevirtual 25) (2, 1, 0, 0, T_Things_numberOf) := call_V S_Things_numberOf (by decide) (ci := 7) rfl (by decide +kernel) (by decide +kernel) (by decide +kernel) (by decide +kernel) (by decide +kernel) (by decide +kernel) T_Things_numberOf_r
theorem co_X8_120 : CallOK RX8 (.invokevirtual 30) (2, 1, 0, 0, T_Spread_beforeOf) := call_V S_Spread_beforeOf (by decide) (ci := 5) rfl (by decide +kernel) (by decide +kernel) (by decide +kernel) (by decide +kernel) (by decide +kernel) (by decide +kernel) T_Spread_beforeOf_r
def TF_Trail_follow (o : Nat) (t : Nat) (w : Nat) (x : Int) (sz sl : Nat) (lay : Nat → Nat × Int) (ρ : Nat → Int → Nat) (σ : Nat → Int → Int) (τ : Nat → Int → Int64) (k : Option AV → Mm → Prop) : Prop := LTrail lay ρ o ∧ LSpread lay ρ w ∧ LThings lay ρ t ∧ (0 ≤ σ t 12 ∧ σ t 12 ≤ 600) ∧ (o + 2 ≤ t) ∧ (o + 2 ≤ w) ∧ (0 ≤ x ∧ x < σ t 12) ∧ ∃ (num : Int → Int) (E : Int → Int → Prop) (bp : Int → Int), SpF (σ t 12) num E (σ (w + 1)) (σ (w + 2)) (σ (w + 3)) bp (σ w 3) ∧ (σ (w + 2) x = 0 → k (some (vI (0))) (sz, sl, lay, ρ, σ, τ)) ∧ (0 < σ (w + 2) x → ∀ σ2 : Nat → Int → Int, Fr σ σ2 o 1 → σ2 o 1 = σ (w + 2) x → (∀ j : Int, 0 ≤ j ∧ j < σ (w + 2) x → σ2 (o + 1) j = σ (t + 1) (itB (σ (w + 3)) (σ (w + 2) x - 1 - j).toNat x)) → k (some (vI (σ (w + 2) x))) (sz, sl, lay, ρ, σ2, τ))
def T_Trail_follow : Tr := mkT 8 fun o as M k => pR as fun t as => pR as fun w as => pI as fun x as => as = [] ∧ TF_Trail_follow o t w x M.1 M.2.1 M.2.2.1 M.2.2.2.1 M.2.2.2.2.1 M.2.2.2.2.2 k
theorem T_Trail_follow_e {o : Nat} {t : Nat} {w : Nat} {x : Int} {sz sl : Nat} {lay : Nat → Nat × Int} {ρ : Nat → Int → Nat} {σ : Nat → Int → Int} {τ : Nat → Int → Int64} {k : Option AV → Mm → Prop} : T_Trail_follow [vR o, vR t, vR w, vI x] (sz, sl, lay, ρ, σ, τ) k = (lay o = (18, 0) ∧ TF_Trail_follow o t w x sz sl lay ρ σ τ k) := by simp [T_Trail_follow, mkT_e, pI_e, pR_e, pL_e]
theorem T_Trail_follow_r (as : List AV) (M : Mm) (k : Option AV → Mm → Prop) (h : T_Trail_follow as M k) : ∃ b As, as = vR b :: As ∧ M.2.2.1 b = (10 + 8, 0) := by
  obtain ⟨b, As, h1, h2, -⟩ := mkT_r h
  exact ⟨b, As, h1, h2⟩
def tb_Trail_follow : List (Nat × Option (List Nat) × Instr × List Nat) := [(0, none, .aload_n 2, []), (1, none, .iload_n 3, []), (2, none, .invokevirtual 19, []), (5, none, .istore 4, []), (7, none, .iload 4, []), (9, none, .ifCond .le 11, [20]), (12, none, .iload 4, []), (14, none, .sipush 600, []), (17, none, .if_icmp .le 5, [22]), (20, none, .iconst 0, []), (21, none, .ireturn, []), (22, none, .aload_n 0, []), (23, none, .iload 4, []), (25, none, .putfield 15, []), (28, none, .iload_n 3, []), (29, none, .istore 5, []), (31, none, .iload 4, []), (33, none, .iconst 1, []), (34, none, .isub, []), (35, none, .istore 6, []), (37, some [0, 1, 2, 3, 4, 5, 6], .iload 6, []), (39, none, .ifCond .lt 30, [69]), (42, none, .aload_n 0, []), (43, none, .getfield 9, []), (46, none, .iload 6, []), (48, none, .aload_n 1, []), (49, none, .iload 5, []), (51, none, .invokevirtual 25, []), (54, none, .iastore, []), (55, none, .aload_n 2, []), (56, none, .iload 5, []), (58, none, .invokevirtual 30, []), (61, none, .istore 5, []), (63, none, .iinc 6 (-1), []), (66, none, .goto (-29), [37]), (69, none, .aload_n 0, []), (70, none, .getfield 15, []), (73, none, .ireturn, [])]
def P_Trail_follow : Nat → Option (List Nat) × Instr × List Nat := plk tb_Trail_follow
theorem r_Trail_follow_0 : P_Trail_follow 0 = (none, .aload_n 2, []) := by decide +kernel
theorem r_Trail_follow_1 : P_Trail_follow 1 = (none, .iload_n 3, []) := by decide +kernel
theorem r_Trail_follow_2 : P_Trail_follow 2 = (none, .invokevirtual 19, []) := by decide +kernel
theorem r_Trail_follow_5 : P_Trail_follow 5 = (none, .istore 4, []) := by decide +kernel
theorem r_Trail_follow_7 : P_Trail_follow 7 = (none, .iload 4, []) := by decide +kernel
theorem r_Trail_follow_9 : P_Trail_follow 9 = (none, .ifCond .le 11, [20]) := by decide +kernel
theorem r_Trail_follow_12 : P_Trail_follow 12 = (none, .iload 4, []) := by decide +kernel
theorem r_Trail_follow_14 : P_Trail_follow 14 = (none, .sipush 600, []) := by decide +kernel
theorem r_Trail_follow_17 : P_Trail_follow 17 = (none, .if_icmp .le 5, [22]) := by decide +kernel
theorem r_Trail_follow_20 : P_Trail_follow 20 = (none, .iconst 0, []) := by decide +kernel
theorem r_Trail_follow_21 : P_Trail_follow 21 = (none, .ireturn, []) := by decide +kernel
theorem r_Trail_follow_22 : P_Trail_follow 22 = (none, .aload_n 0, []) := by decide +kernel
theorem r_Trail_follow_23 : P_Trail_follow 23 = (none, .iload 4, []) := by decide +kernel
theorem r_Trail_follow_25 : P_Trail_follow 25 = (none, .putfield 15, []) := by decide +kernel
theorem r_Trail_follow_28 : P_Trail_follow 28 = (none, .iload_n 3, []) := by decide +kernel
theorem r_Trail_follow_29 : P_Trail_follow 29 = (none, .istore 5, []) := by decide +kernel
theorem r_Trail_follow_31 : P_Trail_follow 31 = (none, .iload 4, []) := by decide +kernel
theorem r_Trail_follow_33 : P_Trail_follow 33 = (none, .iconst 1, []) := by decide +kernel
theorem r_Trail_follow_34 : P_Trail_follow 34 = (none, .isub, []) := by decide +kernel
theorem r_Trail_follow_35 : P_Trail_follow 35 = (none, .istore 6, []) := by decide +kernel
theorem r_Trail_follow_37 : P_Trail_follow 37 = (some [0, 1, 2, 3, 4, 5, 6], .iload 6, []) := by decide +kernel
theorem r_Trail_follow_39 : P_Trail_follow 39 = (none, .ifCond .lt 30, [69]) := by decide +kernel
theorem r_Trail_follow_42 : P_Trail_follow 42 = (none, .aload_n 0, []) := by decide +kernel
theorem r_Trail_follow_43 : P_Trail_follow 43 = (none, .getfield 9, []) := by decide +kernel
theorem r_Trail_follow_46 : P_Trail_follow 46 = (none, .iload 6, []) := by decide +kernel
theorem r_Trail_follow_48 : P_Trail_follow 48 = (none, .aload_n 1, []) := by decide +kernel
theorem r_Trail_follow_49 : P_Trail_follow 49 = (none, .iload 5, []) := by decide +kernel
theorem r_Trail_follow_51 : P_Trail_follow 51 = (none, .invokevirtual 25, []) := by decide +kernel
theorem r_Trail_follow_54 : P_Trail_follow 54 = (none, .iastore, []) := by decide +kernel
theorem r_Trail_follow_55 : P_Trail_follow 55 = (none, .aload_n 2, []) := by decide +kernel
theorem r_Trail_follow_56 : P_Trail_follow 56 = (none, .iload 5, []) := by decide +kernel
theorem r_Trail_follow_58 : P_Trail_follow 58 = (none, .invokevirtual 30, []) := by decide +kernel
theorem r_Trail_follow_61 : P_Trail_follow 61 = (none, .istore 5, []) := by decide +kernel
theorem r_Trail_follow_63 : P_Trail_follow 63 = (none, .iinc 6 (-1), []) := by decide +kernel
theorem r_Trail_follow_66 : P_Trail_follow 66 = (none, .goto (-29), [37]) := by decide +kernel
theorem r_Trail_follow_69 : P_Trail_follow 69 = (none, .aload_n 0, []) := by decide +kernel
theorem r_Trail_follow_70 : P_Trail_follow 70 = (none, .getfield 15, []) := by decide +kernel
theorem r_Trail_follow_73 : P_Trail_follow 73 = (none, .ireturn, []) := by decide +kernel
def E_Trail_follow : List (Nat × Ent) := [(76, (2, 1, 0, 0, T_Spread_distanceOf)), (100, (2, 1, 0, 0, T_Things_numberOf)), (120, (2, 1, 0, 0, T_Spread_beforeOf))]
def X_Trail_follow : Cx := (llk (0, 0, 9) ftX8, llk 99 ntX8, llk none kcX8, llk none klX8, llk dEnt E_Trail_follow, 2, 0, false)
theorem xok_Trail_follow : Xok RX8 X_Trail_follow := xok_of ftX8_ok ntX8_ok kcX8_ok klX8_ok (E := E_Trail_follow) (List.forall_mem_cons.mpr ⟨co_X8_76, List.forall_mem_cons.mpr ⟨co_X8_100, List.forall_mem_cons.mpr ⟨co_X8_120, fun _ h => absurd h List.not_mem_nil⟩⟩⟩)
theorem xf_Trail_follow_9 : xfl X_Trail_follow 9 = (8, 0, 1) := by decide +kernel
theorem xf_Trail_follow_15 : xfl X_Trail_follow 15 = (8, 1, 0) := by decide +kernel
theorem xe_Trail_follow_76 : xE X_Trail_follow (4 * 19 + 0) = (2, 1, 0, 0, T_Spread_distanceOf) := rfl
theorem xe_Trail_follow_100 : xE X_Trail_follow (4 * 25 + 0) = (2, 1, 0, 0, T_Things_numberOf) := rfl
theorem xe_Trail_follow_120 : xE X_Trail_follow (4 * 30 + 0) = (2, 1, 0, 0, T_Spread_beforeOf) := rfl
theorem xd_Trail_follow : xd X_Trail_follow = 2 := rfl
theorem xrb_Trail_follow : xrb X_Trail_follow = 0 := rfl
theorem xin_Trail_follow : xin X_Trail_follow = false := rfl
set_option maxHeartbeats 4000000 in
set_option maxRecDepth 100000 in
theorem S_Trail_follow : Snd yX8_follow cX8_follow 7 (some .int) T_Trail_follow 2 0 0 := by
  refine snd_of (X := X_Trail_follow) (P := P_Trail_follow) (tb := tb_Trail_follow) (own := RX8) (by decide) rfl rfl (by decide +kernel) xok_Trail_follow rfl rk0 (fun h => by first | rfl | cases h) ?_
  intro as M k has hM hT0
  obtain ⟨sz, sl, lay, ρ, σ, τ⟩ := M
  obtain ⟨o, as1, e, hlo, hT1⟩ := mkT_r hT0
  clear hT0
  subst e
  obtain ⟨t, as2, e, hT2⟩ := pR_x hT1
  clear hT1
  subst e
  obtain ⟨w, as3, e, hT3⟩ := pR_x hT2
  clear hT2
  subst e
  obtain ⟨x, as4, e, hT4⟩ := pI_x hT3
  clear hT3
  subst e
  obtain ⟨e, hT⟩ := hT4
  subst e
  replace hlo : lay o = (18, 0) := hlo
  have r_x : -2147483648 ≤ x ∧ x ≤ 2147483647 := has (vI x) (by simp)
  clear has
  replace hM : ∀ a i, -2147483648 ≤ σ a i ∧ σ a i ≤ 2147483647 := hM
  replace hT : TF_Trail_follow o t w x sz sl lay ρ σ τ k := hT
  unfold TF_Trail_follow at hT
  obtain ⟨hR, hS, hL, hn, hot, how, hx, num, E, bp, hI, h0, h1⟩ := hT
  have hcn := hI.cn hn.1
  have hx6 : σ (w + 2) x = 0 ∨ (1 ≤ σ (w + 2) x ∧ σ (w + 2) x ≤ 600) := by
    rcases hI.hd x (by omega) with e | ⟨p, hp, e⟩
    · exact Or.inl e
    · have := hI.dp hp
      rw [e] at this
      exact Or.inr (by omega)
  obtain ⟨J, hJd⟩ : ∃ J : Nat → List AV → Mm → Prop, J = (fun c vs M1 => c = 37 ∧ ∃ (i : Int) (σ1 : Nat → Int → Int), (-1 ≤ i ∧ i < σ (w + 2) x ∧ 1 ≤ σ (w + 2) x) ∧ Fr σ σ1 o 1 ∧ σ1 o 1 = σ (w + 2) x ∧ (∀ j : Int, i < j ∧ j < σ (w + 2) x → σ1 (o + 1) j = σ (t + 1) (itB (σ (w + 3)) (σ (w + 2) x - 1 - j).toNat x)) ∧ vs = [vR o, vR t, vR w, vI x, vI (σ (w + 2) x), vI (itB (σ (w + 3)) (σ (w + 2) x - 1 - i).toNat x), vI i] ∧ M1 = (sz, sl, lay, ρ, σ1, τ)) := ⟨_, rfl⟩
  obtain ⟨μ, hμ⟩ : ∃ μ : Nat → List AV → Mm → Nat, μ = (fun _ vs _ => (gI (vs.getD 6 vN) + 1).toNat) := ⟨_, rfl⟩
  refine ⟨Nat.le_of_ble_eq_true rfl, J, μ, 46, ?_, ?_⟩
  · obtain ⟨rh, rp0, rq0⟩ := (show LTrail lay ρ _ from hR)
    obtain ⟨sh, sp0, sp1, sp2, sq0, sq1, sq2⟩ := (show LSpread lay ρ _ from hS)
    obtain ⟨lh, lp0, lp1, lp2, lp3, lp4, lp5, lp6, lp7, lp8, lp9, lp10, lp11, lq0, lq1, lq2, lq3, lq4, lq5, lq6, lq7, lq8, lq9, lq10, lq11⟩ := (show LThings lay ρ _ from hL)
    unfold wps
    simp only [si_iload_n0, si_iload_n1, si_iload_n2, si_iload_n3, si_iload, si_lload_n0, si_lload_n1, si_lload_n2, si_lload_n3, si_lload, si_aload_n0, si_aload_n1, si_aload_n2, si_aload_n3, si_aload, si_istore_n0, si_istore_n1, si_istore_n2, si_istore_n3, si_istore, si_astore_n0, si_astore_n1, si_astore_n2, si_astore_n3, si_astore, si_lstore_n0, si_lstore_n1, si_lstore_n2, si_lstore_n3, si_lstore, si_iconst, si_bipush, si_sipush, si_ldc, si_ldc2_w, si_lconst0, si_lconst1, si_aconst_null, si_iinc, si_dup, si_dup2, si_iadd, si_isub, si_imul, si_idiv, si_irem, si_iand, si_ior, si_ishl, si_ishr, si_ladd, si_lmul, si_lor, si_lxor, si_lshl, si_lushr, si_lcmp, si_i2b, si_i2l, si_l2i, si_icmp_eq, si_icmp_ne, si_icmp_lt, si_icmp_ge, si_icmp_gt, si_icmp_le, si_if_eq, si_if_ne, si_if_lt, si_if_ge, si_if_gt, si_if_le, si_ifnull, si_ifnonnull, si_goto, si_tableswitch, si_lookupswitch, si_getfield, si_putfield, si_getstatic, si_iaload, si_baload, si_laload, si_aaload, si_iastore, si_bastore, si_lastore, si_aastore, si_arraylength, si_new, si_newarray, si_anewarray, si_invokevirtual, si_invokespecial, si_invokestatic, si_ireturn, si_lreturn, si_areturn, si_return_, pI_e, pL_e, pR_e, pA_r, pA_n, pN_n, pN_r, oI_e, oL_e, oA_r, oA_n, lget_e, lrm1_0, lrm2_0, lrm1_i, lrm1_r, lrm1_n, lrm1_l, lrm2_i, lrm2_r, lrm2_n, lrm2_l, popN_0, popN_s, acat_i, acat_l, acat_r, acat_n, stw_0, stw_s, psh_s, psh_n, wgf_r, wgf_i, wgf_b, wgf_n, wgf_m, wpf_i, wpf_r, wpf_b, wnew_e, callE_e, rbk_0, rbk_1, tsw_0, tsw_s, lsw_0, lsw_s, wp_s, wq_t, wq_f, oV_e, pick_0, pick_s, oZ_e, oY_e, r_Trail_follow_0, r_Trail_follow_1, r_Trail_follow_2, r_Trail_follow_5, r_Trail_follow_7, r_Trail_follow_9, r_Trail_follow_12, r_Trail_follow_14, r_Trail_follow_17, r_Trail_follow_20, r_Trail_follow_21, r_Trail_follow_22, r_Trail_follow_23, r_Trail_follow_25, r_Trail_follow_28, r_Trail_follow_29, r_Trail_follow_31, r_Trail_follow_33, r_Trail_follow_34, r_Trail_follow_35, r_Trail_follow_37, r_Trail_follow_39, r_Trail_follow_42, r_Trail_follow_43, r_Trail_follow_46, r_Trail_follow_48, r_Trail_follow_49, r_Trail_follow_51, r_Trail_follow_54, r_Trail_follow_55, r_Trail_follow_56, r_Trail_follow_58, r_Trail_follow_61, r_Trail_follow_63, r_Trail_follow_66, r_Trail_follow_69, r_Trail_follow_70, r_Trail_follow_73, xf_Trail_follow_9, xf_Trail_follow_15, xe_Trail_follow_76, xe_Trail_follow_100, xe_Trail_follow_120, xd_Trail_follow, xrb_Trail_follow, xin_Trail_follow, T_Spread_distanceOf_e, TF_Spread_distanceOf, T_Things_numberOf_e, TF_Things_numberOf, T_Spread_beforeOf_e, TF_Spread_beforeOf, rh, rp0, rq0, sh, sp0, sp1, sp2, sq0, sq1, sq2, lh, lp0, lp1, lp2, lp3, lp4, lp5, lp6, lp7, lp8, lp9, lp10, lp11, lq0, lq1, lq2, lq3, lq4, lq5, lq6, lq7, lq8, lq9, lq10, lq11, Nat.reduceAdd, Nat.reduceMul, Nat.reduceEqDiff, reduceIte, Int.reduceNeg, Int.reduceLE, Int.reduceLT, Int.reduceAdd, Int.reduceSub, Int.reduceToNat, true_and, and_true, inR_e, Nat.reduceLT, Nat.reduceLeDiff, reduceCtorEq, Nat.add_zero, Nat.zero_add, or_false, false_or, or_true, true_or, not_true_eq_false, not_false_eq_true, Classical.not_not, Nat.add_eq_zero_iff, and_false, false_and, Int.reduceEq, List.mem_cons, List.not_mem_nil, forall_eq_or_imp, forall_eq, false_implies, implies_true, forall_const, aargs_0, aargs_i, aargs_r, aargs_l, aargs_n, nfT_e, eq_self, and_self, Nat.le_refl, fu_s, fu_fu, iu_iu, iu_s, fu_am, fu_a0, fu_0a, iu_l, Nat.reduceBEq, Int.reduceBEq, T_objInit_e]
    clear rp0 sp0 sp1 sp2 lp0 lp1 lp2 lp3 lp4 lp5 lp6 lp7 lp8 lp9 lp10 lp11
    refine ⟨hS, fun a => ⟨fun b => h0 (by omega), fun b => ⟨fun c => ⟨by omega, ?_⟩, fun c => by omega⟩⟩, fun a => absurd a (by omega)⟩
    rw [hJd]
    refine ⟨rfl, σ (w + 2) x - 1, _, by omega, Fr.rfl'.fu (by omega), by rw [fu_s, iu_s], fun j hj => by omega, ?_, rfl⟩
    rw [show (σ (w + 2) x - 1 - (σ (w + 2) x - 1)).toNat = 0 by omega]
    rfl
  · intro cp vs M1 hvs hM1 hlen hJ
    rw [hJd] at hJ
    obtain ⟨rfl, i, σ1, g1, g2, g3, g4, rfl, rfl⟩ := hJ
    have e0 : σ1 t = σ t := g2.hi (by omega)
    have e1 : σ1 (t + 1) = σ (t + 1) := g2.hi (by omega)
    have ew3 : σ1 (w + 3) = σ (w + 3) := g2.hi (by omega)
    (obtain ⟨rh, rp0, rq0⟩ := (show LTrail lay ρ _ from hR); obtain ⟨sh, sp0, sp1, sp2, sq0, sq1, sq2⟩ := (show LSpread lay ρ _ from hS); obtain ⟨lh, lp0, lp1, lp2, lp3, lp4, lp5, lp6, lp7, lp8, lp9, lp10, lp11, lq0, lq1, lq2, lq3, lq4, lq5, lq6, lq7, lq8, lq9, lq10, lq11⟩ := (show LThings lay ρ _ from hL); unfold wps; simp only [Option.getD_some, List.zip_cons_cons, List.zip_nil_left, List.zip_nil_right, List.zip_nil_right, e0, e1, ew3, si_iload_n0, si_iload_n1, si_iload_n2, si_iload_n3, si_iload, si_lload_n0, si_lload_n1, si_lload_n2, si_lload_n3, si_lload, si_aload_n0, si_aload_n1, si_aload_n2, si_aload_n3, si_aload, si_istore_n0, si_istore_n1, si_istore_n2, si_istore_n3, si_istore, si_astore_n0, si_astore_n1, si_astore_n2, si_astore_n3, si_astore, si_lstore_n0, si_lstore_n1, si_lstore_n2, si_lstore_n3, si_lstore, si_iconst, si_bipush, si_sipush, si_ldc, si_ldc2_w, si_lconst0, si_lconst1, si_aconst_null, si_iinc, si_dup, si_dup2, si_iadd, si_isub, si_imul, si_idiv, si_irem, si_iand, si_ior, si_ishl, si_ishr, si_ladd, si_lmul, si_lor, si_lxor, si_lshl, si_lushr, si_lcmp, si_i2b, si_i2l, si_l2i, si_icmp_eq, si_icmp_ne, si_icmp_lt, si_icmp_ge, si_icmp_gt, si_icmp_le, si_if_eq, si_if_ne, si_if_lt, si_if_ge, si_if_gt, si_if_le, si_ifnull, si_ifnonnull, si_goto, si_tableswitch, si_lookupswitch, si_getfield, si_putfield, si_getstatic, si_iaload, si_baload, si_laload, si_aaload, si_iastore, si_bastore, si_lastore, si_aastore, si_arraylength, si_new, si_newarray, si_anewarray, si_invokevirtual, si_invokespecial, si_invokestatic, si_ireturn, si_lreturn, si_areturn, si_return_, pI_e, pL_e, pR_e, pA_r, pA_n, pN_n, pN_r, oI_e, oL_e, oA_r, oA_n, lget_e, lrm1_0, lrm2_0, lrm1_i, lrm1_r, lrm1_n, lrm1_l, lrm2_i, lrm2_r, lrm2_n, lrm2_l, popN_0, popN_s, acat_i, acat_l, acat_r, acat_n, stw_0, stw_s, psh_s, psh_n, wgf_r, wgf_i, wgf_b, wgf_n, wgf_m, wpf_i, wpf_r, wpf_b, wnew_e, callE_e, rbk_0, rbk_1, tsw_0, tsw_s, lsw_0, lsw_s, wp_s, wq_t, wq_f, oV_e, pick_0, pick_s, oZ_e, oY_e, r_Trail_follow_0, r_Trail_follow_1, r_Trail_follow_2, r_Trail_follow_5, r_Trail_follow_7, r_Trail_follow_9, r_Trail_follow_12, r_Trail_follow_14, r_Trail_follow_17, r_Trail_follow_20, r_Trail_follow_21, r_Trail_follow_22, r_Trail_follow_23, r_Trail_follow_25, r_Trail_follow_28, r_Trail_follow_29, r_Trail_follow_31, r_Trail_follow_33, r_Trail_follow_34, r_Trail_follow_35, r_Trail_follow_37, r_Trail_follow_39, r_Trail_follow_42, r_Trail_follow_43, r_Trail_follow_46, r_Trail_follow_48, r_Trail_follow_49, r_Trail_follow_51, r_Trail_follow_54, r_Trail_follow_55, r_Trail_follow_56, r_Trail_follow_58, r_Trail_follow_61, r_Trail_follow_63, r_Trail_follow_66, r_Trail_follow_69, r_Trail_follow_70, r_Trail_follow_73, xf_Trail_follow_9, xf_Trail_follow_15, xe_Trail_follow_76, xe_Trail_follow_100, xe_Trail_follow_120, xd_Trail_follow, xrb_Trail_follow, xin_Trail_follow, T_Spread_distanceOf_e, TF_Spread_distanceOf, T_Things_numberOf_e, TF_Things_numberOf, T_Spread_beforeOf_e, TF_Spread_beforeOf, rh, rp0, rq0, sh, sp0, sp1, sp2, sq0, sq1, sq2, lh, lp0, lp1, lp2, lp3, lp4, lp5, lp6, lp7, lp8, lp9, lp10, lp11, lq0, lq1, lq2, lq3, lq4, lq5, lq6, lq7, lq8, lq9, lq10, lq11, Nat.reduceAdd, Nat.reduceMul, Nat.reduceEqDiff, reduceIte, Int.reduceNeg, Int.reduceLE, Int.reduceLT, Int.reduceAdd, Int.reduceSub, Int.reduceToNat, true_and, and_true, inR_e, Nat.reduceLT, Nat.reduceLeDiff, reduceCtorEq, Nat.add_zero, Nat.zero_add, or_false, false_or, or_true, true_or, not_true_eq_false, not_false_eq_true, Classical.not_not, Nat.add_eq_zero_iff, and_false, false_and, Int.reduceEq, List.mem_cons, List.not_mem_nil, forall_eq_or_imp, forall_eq, false_implies, implies_true, forall_const, aargs_0, aargs_i, aargs_r, aargs_l, aargs_n, nfT_e, eq_self, and_self, Nat.le_refl, fu_s, fu_fu, iu_iu, iu_s, fu_am, fu_a0, fu_0a, iu_l, Nat.reduceBEq, Int.reduceBEq, T_objInit_e]; clear rp0 sp0 sp1 sp2 lp0 lp1 lp2 lp3 lp4 lp5 lp6 lp7 lp8 lp9 lp10 lp11)
    refine ⟨fun h => ?_, fun h => ?_⟩
    · rw [g3]
      exact h1 (by omega) σ1 g2 g3 (fun j hj => g4 j (by omega))
    · have hx2 : Lv (σ (w + 1)) (σ w 3) x := by
        rcases hI.hd x (by omega) with e | e
        · omega
        · exact e
      obtain ⟨q1, q2⟩ := hI.itb hx2 (σ (w + 2) x - 1 - i).toNat (by omega)
      have q3 := hI.lv_R q1
      refine ⟨hL, hn, fun _ => ⟨by omega, by omega, hS, fun _ => ⟨by omega, ?_, (by rw [hμ]; simp only [gI_e, List.getD_cons_succ, List.getD_cons_zero]; omega)⟩, fun z => absurd z (by omega)⟩, fun z => absurd q3 z⟩
      rw [hJd]
      refine ⟨rfl, i + -1, _, by omega, g2.fu (by omega), by rw [fu_a0 (by decide)]; exact g3, fun j hj => ?_, ?_, rfl⟩
      · rw [fu_s]
        by_cases e : j = i
        · rw [e, iu_s]
        · rw [iu_n e]; exact g4 j (by omega)
      · rw [show (σ (w + 2) x - 1 - (i + -1)).toNat = (σ (w + 2) x - 1 - i).toNat + 1 by omega, fu_n (show w + 3 ≠ o + 1 by omega), ew3]
        rfl

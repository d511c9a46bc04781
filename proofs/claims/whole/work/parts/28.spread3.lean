theorem ThG.fr {σ σ2 : Nat → Int → Int} {o m t : Nat} (h : ThG σ t) (hf : Fr σ σ2 o m) (ht : t + 13 ≤ o) : ThG σ2 t := by
  unfold ThG at *
  rw [hf.lo (t := t) (by omega), hf.lo (t := t + 9) (by omega), hf.lo (t := t + 12) (by omega)]
  exact h
theorem SpM.cg {σ σ1 σ2 : Nat → Int → Int} {t o : Nat} {E : Int → Int → Prop} {bp : Int → Int} {a f : Int} {H : Int → Prop} (e0 : σ1 t = σ t) (e1 : σ1 (t + 1) = σ (t + 1)) (h : SpM σ σ2 t o E bp a f H) : SpM σ1 σ2 t o E bp a f H := by
  unfold SpM at *
  rw [e0, e1]
  exact h
theorem co_X5_100 : CallOK RX5 (.invokevirtual 25) (1, 0, 0, 0, T_Roots_size) := call_V S_Roots_size (by decide) (ci := 4) rfl (by decide +kernel) (by decide +kernel) (by decide +kernel) (by decide +kernel) (by decide +kernel) (by decide +kernel) T_Roots_size_r
theorem co_X5_124 : CallOK RX5 (.invokevirtual 31) (2, 0, 0, 0, T_Roots_targetAt) := call_V S_Roots_targetAt (by decide) (ci := 4) rfl (by decide +kernel) (by decide +kernel) (by decide +kernel) (by decide +kernel) (by decide +kernel) (by decide +kernel) T_Roots_targetAt_r
theorem co_X5_156 : CallOK RX5 (.invokevirtual 39) (2, 1, 0, 0, T_Things_isSoft) := call_V S_Things_isSoft (by decide) (ci := 7) rfl (by decide +kernel) (by decide +kernel) (by decide +kernel) (by decide +kernel) (by decide +kernel) (by decide +kernel) T_Things_isSoft_r
theorem co_X5_180 : CallOK RX5 (.invokevirtual 45) (3, 3, 0, 0, T_Spread_leave) := call_V S_Spread_leave (by decide) (ci := 5) rfl (by decide +kernel) (by decide +kernel) (by decide +kernel) (by decide +kernel) (by decide +kernel) (by decide +kernel) T_Spread_leave_r
def TF_Spread_settle (o : Nat) (t : Nat) (r : Nat) (s : Int) (sz sl : Nat) (lay : Nat → Nat × Int) (ρ : Nat → Int → Nat) (σ : Nat → Int → Int) (τ : Nat → Int → Int64) (k : Option AV → Mm → Prop) : Prop := LSpread lay ρ o ∧ LRoots lay ρ r ∧ r = t + 13 ∧ (t + 16 ≤ o) ∧ LThings lay ρ t ∧ (0 ≤ σ t 12 ∧ σ t 12 ≤ 600) ∧ ThB σ t ∧ ThG σ t ∧ (0 ≤ σ r 2 ∧ σ r 2 ≤ 100) ∧ (∀ i, 0 ≤ i ∧ i < σ r 2 → -1 ≤ σ (r + 2) i ∧ σ (r + 2) i < σ t 12) ∧ (∀ (σ2 : Nat → Int → Int) (bp : Int → Int), Fr σ σ2 o 3 → SpM σ σ2 t o (gX σ t s) bp (σ2 o 3) (σ2 o 3) (fun _ => False) → k none (sz, sl, lay, ρ, σ2, τ))
def T_Spread_settle : Tr := mkT 5 fun o as M k => pR as fun t as => pR as fun r as => pI as fun s as => as = [] ∧ TF_Spread_settle o t r s M.1 M.2.1 M.2.2.1 M.2.2.2.1 M.2.2.2.2.1 M.2.2.2.2.2 k
theorem T_Spread_settle_e {o : Nat} {t : Nat} {r : Nat} {s : Int} {sz sl : Nat} {lay : Nat → Nat × Int} {ρ : Nat → Int → Nat} {σ : Nat → Int → Int} {τ : Nat → Int → Int64} {k : Option AV → Mm → Prop} : T_Spread_settle [vR o, vR t, vR r, vI s] (sz, sl, lay, ρ, σ, τ) k = (lay o = (15, 0) ∧ TF_Spread_settle o t r s sz sl lay ρ σ τ k) := by simp [T_Spread_settle, mkT_e, pI_e, pR_e, pL_e]
theorem T_Spread_settle_r (as : List AV) (M : Mm) (k : Option AV → Mm → Prop) (h : T_Spread_settle as M k) : ∃ b As, as = vR b :: As ∧ M.2.2.1 b = (10 + 5, 0) := by
  obtain ⟨b, As, h1, h2, -⟩ := mkT_r h
  exact ⟨b, As, h1, h2⟩
def tb_Spread_settle : List (Nat × Option (List Nat) × Instr × List Nat) := [(0, none, .aload_n 0, []), (1, none, .iconst 0, []), (2, none, .putfield 21, []), (5, none, .iconst 0, []), (6, none, .istore 4, []), (8, some [0, 1, 2, 3, 4], .iload 4, []), (10, none, .sipush 600, []), (13, none, .if_icmp .ge 25, [38]), (16, none, .aload_n 0, []), (17, none, .getfield 15, []), (20, none, .iload 4, []), (22, none, .iconst 0, []), (23, none, .iastore, []), (24, none, .aload_n 0, []), (25, none, .getfield 18, []), (28, none, .iload 4, []), (30, none, .iconst (-1), []), (31, none, .iastore, []), (32, none, .iinc 4 1, []), (35, none, .goto (-27), [8]), (38, none, .iconst 0, []), (39, none, .istore 4, []), (41, some [0, 1, 2, 3, 4], .iload 4, []), (43, none, .aload_n 2, []), (44, none, .invokevirtual 25, []), (47, none, .if_icmp .ge 22, [69]), (50, none, .aload_n 0, []), (51, none, .aload_n 1, []), (52, none, .aload_n 2, []), (53, none, .iload 4, []), (55, none, .invokevirtual 31, []), (58, none, .iconst (-1), []), (59, none, .iconst 0, []), (60, none, .invokevirtual 35, []), (63, none, .iinc 4 1, []), (66, none, .goto (-25), [41]), (69, none, .iconst 0, []), (70, none, .istore 4, []), (72, some [0, 1, 2, 3, 4], .iload 4, []), (74, none, .sipush 600, []), (77, none, .if_icmp .ge 47, [124]), (80, none, .iload 4, []), (82, none, .aload_n 0, []), (83, none, .getfield 21, []), (86, none, .if_icmp .ge 38, [124]), (89, none, .aload_n 0, []), (90, none, .getfield 9, []), (93, none, .iload 4, []), (95, none, .iaload, []), (96, none, .istore 5, []), (98, none, .iload_n 3, []), (99, none, .ifCond .ne 12, [111]), (102, none, .aload_n 1, []), (103, none, .iload 5, []), (105, none, .invokevirtual 39, []), (108, none, .ifCond .ne 10, [118]), (111, none, .aload_n 0, []), (112, none, .aload_n 1, []), (113, none, .iload 5, []), (115, none, .invokevirtual 45, []), (118, none, .iinc 4 1, []), (121, none, .goto (-49), [72]), (124, none, .return_, [])]
def P_Spread_settle : Nat → Option (List Nat) × Instr × List Nat := plk tb_Spread_settle
theorem r_Spread_settle_0 : P_Spread_settle 0 = (none, .aload_n 0, []) := by decide +kernel
theorem r_Spread_settle_1 : P_Spread_settle 1 = (none, .iconst 0, []) := by decide +kernel
theorem r_Spread_settle_2 : P_Spread_settle 2 = (none, .putfield 21, []) := by decide +kernel
theorem r_Spread_settle_5 : P_Spread_settle 5 = (none, .iconst 0, []) := by decide +kernel
theorem r_Spread_settle_6 : P_Spread_settle 6 = (none, .istore 4, []) := by decide +kernel
theorem r_Spread_settle_8 : P_Spread_settle 8 = (some [0, 1, 2, 3, 4], .iload 4, []) := by decide +kernel
theorem r_Spread_settle_10 : P_Spread_settle 10 = (none, .sipush 600, []) := by decide +kernel
theorem r_Spread_settle_13 : P_Spread_settle 13 = (none, .if_icmp .ge 25, [38]) := by decide +kernel
theorem r_Spread_settle_16 : P_Spread_settle 16 = (none, .aload_n 0, []) := by decide +kernel
theorem r_Spread_settle_17 : P_Spread_settle 17 = (none, .getfield 15, []) := by decide +kernel
theorem r_Spread_settle_20 : P_Spread_settle 20 = (none, .iload 4, []) := by decide +kernel
theorem r_Spread_settle_22 : P_Spread_settle 22 = (none, .iconst 0, []) := by decide +kernel
theorem r_Spread_settle_23 : P_Spread_settle 23 = (none, .iastore, []) := by decide +kernel
theorem r_Spread_settle_24 : P_Spread_settle 24 = (none, .aload_n 0, []) := by decide +kernel
theorem r_Spread_settle_25 : P_Spread_settle 25 = (none, .getfield 18, []) := by decide +kernel
theorem r_Spread_settle_28 : P_Spread_settle 28 = (none, .iload 4, []) := by decide +kernel
theorem r_Spread_settle_30 : P_Spread_settle 30 = (none, .iconst (-1), []) := by decide +kernel
theorem r_Spread_settle_31 : P_Spread_settle 31 = (none, .iastore, []) := by decide +kernel
theorem r_Spread_settle_32 : P_Spread_settle 32 = (none, .iinc 4 1, []) := by decide +kernel
theorem r_Spread_settle_35 : P_Spread_settle 35 = (none, .goto (-27), [8]) := by decide +kernel
theorem r_Spread_settle_38 : P_Spread_settle 38 = (none, .iconst 0, []) := by decide +kernel
theorem r_Spread_settle_39 : P_Spread_settle 39 = (none, .istore 4, []) := by decide +kernel
theorem r_Spread_settle_41 : P_Spread_settle 41 = (some [0, 1, 2, 3, 4], .iload 4, []) := by decide +kernel
theorem r_Spread_settle_43 : P_Spread_settle 43 = (none, .aload_n 2, []) := by decide +kernel
theorem r_Spread_settle_44 : P_Spread_settle 44 = (none, .invokevirtual 25, []) := by decide +kernel
theorem r_Spread_settle_47 : P_Spread_settle 47 = (none, .if_icmp .ge 22, [69]) := by decide +kernel
theorem r_Spread_settle_50 : P_Spread_settle 50 = (none, .aload_n 0, []) := by decide +kernel
theorem r_Spread_settle_51 : P_Spread_settle 51 = (none, .aload_n 1, []) := by decide +kernel
theorem r_Spread_settle_52 : P_Spread_settle 52 = (none, .aload_n 2, []) := by decide +kernel
theorem r_Spread_settle_53 : P_Spread_settle 53 = (none, .iload 4, []) := by decide +kernel
theorem r_Spread_settle_55 : P_Spread_settle 55 = (none, .invokevirtual 31, []) := by decide +kernel
theorem r_Spread_settle_58 : P_Spread_settle 58 = (none, .iconst (-1), []) := by decide +kernel
theorem r_Spread_settle_59 : P_Spread_settle 59 = (none, .iconst 0, []) := by decide +kernel
theorem r_Spread_settle_60 : P_Spread_settle 60 = (none, .invokevirtual 35, []) := by decide +kernel
theorem r_Spread_settle_63 : P_Spread_settle 63 = (none, .iinc 4 1, []) := by decide +kernel
theorem r_Spread_settle_66 : P_Spread_settle 66 = (none, .goto (-25), [41]) := by decide +kernel
theorem r_Spread_settle_69 : P_Spread_settle 69 = (none, .iconst 0, []) := by decide +kernel
theorem r_Spread_settle_70 : P_Spread_settle 70 = (none, .istore 4, []) := by decide +kernel
theorem r_Spread_settle_72 : P_Spread_settle 72 = (some [0, 1, 2, 3, 4], .iload 4, []) := by decide +kernel
theorem r_Spread_settle_74 : P_Spread_settle 74 = (none, .sipush 600, []) := by decide +kernel
theorem r_Spread_settle_77 : P_Spread_settle 77 = (none, .if_icmp .ge 47, [124]) := by decide +kernel
theorem r_Spread_settle_80 : P_Spread_settle 80 = (none, .iload 4, []) := by decide +kernel
theorem r_Spread_settle_82 : P_Spread_settle 82 = (none, .aload_n 0, []) := by decide +kernel
theorem r_Spread_settle_83 : P_Spread_settle 83 = (none, .getfield 21, []) := by decide +kernel
theorem r_Spread_settle_86 : P_Spread_settle 86 = (none, .if_icmp .ge 38, [124]) := by decide +kernel
theorem r_Spread_settle_89 : P_Spread_settle 89 = (none, .aload_n 0, []) := by decide +kernel
theorem r_Spread_settle_90 : P_Spread_settle 90 = (none, .getfield 9, []) := by decide +kernel
theorem r_Spread_settle_93 : P_Spread_settle 93 = (none, .iload 4, []) := by decide +kernel
theorem r_Spread_settle_95 : P_Spread_settle 95 = (none, .iaload, []) := by decide +kernel
theorem r_Spread_settle_96 : P_Spread_settle 96 = (none, .istore 5, []) := by decide +kernel
theorem r_Spread_settle_98 : P_Spread_settle 98 = (none, .iload_n 3, []) := by decide +kernel
theorem r_Spread_settle_99 : P_Spread_settle 99 = (none, .ifCond .ne 12, [111]) := by decide +kernel
theorem r_Spread_settle_102 : P_Spread_settle 102 = (none, .aload_n 1, []) := by decide +kernel
theorem r_Spread_settle_103 : P_Spread_settle 103 = (none, .iload 5, []) := by decide +kernel
theorem r_Spread_settle_105 : P_Spread_settle 105 = (none, .invokevirtual 39, []) := by decide +kernel
theorem r_Spread_settle_108 : P_Spread_settle 108 = (none, .ifCond .ne 10, [118]) := by decide +kernel
theorem r_Spread_settle_111 : P_Spread_settle 111 = (none, .aload_n 0, []) := by decide +kernel
theorem r_Spread_settle_112 : P_Spread_settle 112 = (none, .aload_n 1, []) := by decide +kernel
theorem r_Spread_settle_113 : P_Spread_settle 113 = (none, .iload 5, []) := by decide +kernel
theorem r_Spread_settle_115 : P_Spread_settle 115 = (none, .invokevirtual 45, []) := by decide +kernel
theorem r_Spread_settle_118 : P_Spread_settle 118 = (none, .iinc 4 1, []) := by decide +kernel
theorem r_Spread_settle_121 : P_Spread_settle 121 = (none, .goto (-49), [72]) := by decide +kernel
theorem r_Spread_settle_124 : P_Spread_settle 124 = (none, .return_, []) := by decide +kernel
def E_Spread_settle : List (Nat × Ent) := [(100, (1, 0, 0, 0, T_Roots_size)), (124, (2, 0, 0, 0, T_Roots_targetAt)), (140, (5, 2, 0, 0, T_Spread_enter)), (156, (2, 1, 0, 0, T_Things_isSoft)), (180, (3, 3, 0, 0, T_Spread_leave))]
def X_Spread_settle : Cx := (llk (0, 0, 9) ftX5, llk 99 ntX5, llk none kcX5, llk none klX5, llk dEnt E_Spread_settle, 4, 3, false)
theorem xok_Spread_settle : Xok RX5 X_Spread_settle := xok_of ftX5_ok ntX5_ok kcX5_ok klX5_ok (E := E_Spread_settle) (List.forall_mem_cons.mpr ⟨co_X5_100, List.forall_mem_cons.mpr ⟨co_X5_124, List.forall_mem_cons.mpr ⟨co_X5_140, List.forall_mem_cons.mpr ⟨co_X5_156, List.forall_mem_cons.mpr ⟨co_X5_180, fun _ h => absurd h List.not_mem_nil⟩⟩⟩⟩⟩)
theorem xf_Spread_settle_9 : xfl X_Spread_settle 9 = (5, 0, 1) := by decide +kernel
theorem xf_Spread_settle_15 : xfl X_Spread_settle 15 = (5, 1, 1) := by decide +kernel
theorem xf_Spread_settle_18 : xfl X_Spread_settle 18 = (5, 2, 1) := by decide +kernel
theorem xf_Spread_settle_21 : xfl X_Spread_settle 21 = (5, 3, 0) := by decide +kernel
theorem xe_Spread_settle_100 : xE X_Spread_settle (4 * 25 + 0) = (1, 0, 0, 0, T_Roots_size) := rfl
theorem xe_Spread_settle_124 : xE X_Spread_settle (4 * 31 + 0) = (2, 0, 0, 0, T_Roots_targetAt) := rfl
theorem xe_Spread_settle_140 : xE X_Spread_settle (4 * 35 + 0) = (5, 2, 0, 0, T_Spread_enter) := rfl
theorem xe_Spread_settle_156 : xE X_Spread_settle (4 * 39 + 0) = (2, 1, 0, 0, T_Things_isSoft) := rfl
theorem xe_Spread_settle_180 : xE X_Spread_settle (4 * 45 + 0) = (3, 3, 0, 0, T_Spread_leave) := rfl
theorem xd_Spread_settle : xd X_Spread_settle = 4 := rfl
theorem xrb_Spread_settle : xrb X_Spread_settle = 3 := rfl
theorem xin_Spread_settle : xin X_Spread_settle = false := rfl
set_option maxHeartbeats 4000000 in
set_option maxRecDepth 100000 in
theorem S_Spread_settle : Snd yX5_settle cX5_settle 6 none T_Spread_settle 4 0 0 := by
  refine snd_of (X := X_Spread_settle) (P := P_Spread_settle) (tb := tb_Spread_settle) (own := RX5) (by decide) rfl rfl (by decide +kernel) xok_Spread_settle rfl rk3 (fun h => by first | rfl | cases h) ?_
  intro as M k has hM hT0
  obtain ⟨sz, sl, lay, ρ, σ, τ⟩ := M
  obtain ⟨o, as1, e, hlo, hT1⟩ := mkT_r hT0
  clear hT0
  subst e
  obtain ⟨t, as2, e, hT2⟩ := pR_x hT1
  clear hT1
  subst e
  obtain ⟨r, as3, e, hT3⟩ := pR_x hT2
  clear hT2
  subst e
  obtain ⟨s, as4, e, hT4⟩ := pI_x hT3
  clear hT3
  subst e
  obtain ⟨e, hT⟩ := hT4
  subst e
  replace hlo : lay o = (15, 0) := hlo
  have r_s : -2147483648 ≤ s ∧ s ≤ 2147483647 := has (vI s) (by simp)
  clear has
  replace hM : ∀ a i, -2147483648 ≤ σ a i ∧ σ a i ≤ 2147483647 := hM
  replace hT : TF_Spread_settle o t r s sz sl lay ρ σ τ k := hT
  unfold TF_Spread_settle at hT
  obtain ⟨hS, hR, hr, hto6, hL, hn, hB, hG, hrc, hrt, hT⟩ := hT
  have hto : t + 13 ≤ o := by omega
  obtain ⟨J, hJd⟩ : ∃ J : Nat → List AV → Mm → Prop, J = (fun c vs M1 => (c = 8 ∧ ∃ (i : Int) (σ1 : Nat → Int → Int), (0 ≤ i ∧ i ≤ 600) ∧ Fr σ σ1 o 3 ∧ σ1 o 3 = 0 ∧ (∀ x, 0 ≤ x ∧ x < i → σ1 (o + 2) x = 0 ∧ σ1 (o + 3) x = -1) ∧ vs = [vR o, vR t, vR r, vI s, vI i] ∧ M1 = (sz, sl, lay, ρ, σ1, τ)) ∨ (c = 41 ∧ ∃ (i : Int) (σ1 : Nat → Int → Int) (bp1 : Int → Int), (0 ≤ i ∧ i ≤ σ r 2) ∧ Fr σ σ1 o 3 ∧ SpM σ σ1 t o (gX σ t s) bp1 (-1) 0 (fun y => 0 ≤ y ∧ ∃ k : Int, (0 ≤ k ∧ k < i) ∧ σ (r + 2) k = y) ∧ vs = [vR o, vR t, vR r, vI s, vI i] ∧ M1 = (sz, sl, lay, ρ, σ1, τ)) ∨ (c = 72 ∧ ∃ (i : Int) (σ1 : Nat → Int → Int) (bp1 : Int → Int), (0 ≤ i ∧ i ≤ σ1 o 3) ∧ Fr σ σ1 o 3 ∧ SpM σ σ1 t o (gX σ t s) bp1 i (σ1 o 3) (fun _ => False) ∧ vs = [vR o, vR t, vR r, vI s, vI i] ∧ M1 = (sz, sl, lay, ρ, σ1, τ))) := ⟨_, rfl⟩
  obtain ⟨μ, hμ⟩ : ∃ μ : Nat → List AV → Mm → Nat, μ = (fun c vs _ => if c = 8 then (3000 - gI (vs.getD 4 vN)).toNat else if c = 41 then (2000 - gI (vs.getD 4 vN)).toNat else (600 - gI (vs.getD 4 vN)).toNat) := ⟨_, rfl⟩
  refine ⟨Nat.le_of_ble_eq_true rfl, J, μ, 71, ?_, ?_⟩
  · obtain ⟨sh, sp0, sp1, sp2, sq0, sq1, sq2⟩ := (show LSpread lay ρ _ from hS)
    obtain ⟨rh, rp0, rp1, rq0, rq1⟩ := (show LRoots lay ρ _ from hR)
    obtain ⟨lh, lp0, lp1, lp2, lp3, lp4, lp5, lp6, lp7, lp8, lp9, lp10, lp11, lq0, lq1, lq2, lq3, lq4, lq5, lq6, lq7, lq8, lq9, lq10, lq11⟩ := (show LThings lay ρ _ from hL)
    unfold wps
    simp only [si_iload_n0, si_iload_n1, si_iload_n2, si_iload_n3, si_iload, si_lload_n0, si_lload_n1, si_lload_n2, si_lload_n3, si_lload, si_aload_n0, si_aload_n1, si_aload_n2, si_aload_n3, si_aload, si_istore_n0, si_istore_n1, si_istore_n2, si_istore_n3, si_istore, si_astore_n0, si_astore_n1, si_astore_n2, si_astore_n3, si_astore, si_lstore_n0, si_lstore_n1, si_lstore_n2, si_lstore_n3, si_lstore, si_iconst, si_bipush, si_sipush, si_ldc, si_ldc2_w, si_lconst0, si_lconst1, si_aconst_null, si_iinc, si_dup, si_dup2, si_iadd, si_isub, si_imul, si_idiv, si_irem, si_iand, si_ior, si_ishl, si_ishr, si_ladd, si_lmul, si_lor, si_lxor, si_lshl, si_lushr, si_lcmp, si_i2b, si_i2l, si_l2i, si_icmp_eq, si_icmp_ne, si_icmp_lt, si_icmp_ge, si_icmp_gt, si_icmp_le, si_if_eq, si_if_ne, si_if_lt, si_if_ge, si_if_gt, si_if_le, si_ifnull, si_ifnonnull, si_goto, si_tableswitch, si_lookupswitch, si_getfield, si_putfield, si_getstatic, si_iaload, si_baload, si_laload, si_aaload, si_iastore, si_bastore, si_lastore, si_aastore, si_arraylength, si_new, si_newarray, si_anewarray, si_invokevirtual, si_invokespecial, si_invokestatic, si_ireturn, si_lreturn, si_areturn, si_return_, pI_e, pL_e, pR_e, pA_r, pA_n, pN_n, pN_r, oI_e, oL_e, oA_r, oA_n, lget_e, lrm1_0, lrm2_0, lrm1_i, lrm1_r, lrm1_n, lrm1_l, lrm2_i, lrm2_r, lrm2_n, lrm2_l, popN_0, popN_s, acat_i, acat_l, acat_r, acat_n, stw_0, stw_s, psh_s, psh_n, wgf_r, wgf_i, wgf_b, wgf_n, wgf_m, wpf_i, wpf_r, wpf_b, wnew_e, callE_e, rbk_0, rbk_1, tsw_0, tsw_s, lsw_0, lsw_s, wp_s, wq_t, wq_f, oV_e, pick_0, pick_s, oZ_e, oY_e, r_Spread_settle_0, r_Spread_settle_1, r_Spread_settle_2, r_Spread_settle_5, r_Spread_settle_6, r_Spread_settle_8, r_Spread_settle_10, r_Spread_settle_13, r_Spread_settle_16, r_Spread_settle_17, r_Spread_settle_20, r_Spread_settle_22, r_Spread_settle_23, r_Spread_settle_24, r_Spread_settle_25, r_Spread_settle_28, r_Spread_settle_30, r_Spread_settle_31, r_Spread_settle_32, r_Spread_settle_35, r_Spread_settle_38, r_Spread_settle_39, r_Spread_settle_41, r_Spread_settle_43, r_Spread_settle_44, r_Spread_settle_47, r_Spread_settle_50, r_Spread_settle_51, r_Spread_settle_52, r_Spread_settle_53, r_Spread_settle_55, r_Spread_settle_58, r_Spread_settle_59, r_Spread_settle_60, r_Spread_settle_63, r_Spread_settle_66, r_Spread_settle_69, r_Spread_settle_70, r_Spread_settle_72, r_Spread_settle_74, r_Spread_settle_77, r_Spread_settle_80, r_Spread_settle_82, r_Spread_settle_83, r_Spread_settle_86, r_Spread_settle_89, r_Spread_settle_90, r_Spread_settle_93, r_Spread_settle_95, r_Spread_settle_96, r_Spread_settle_98, r_Spread_settle_99, r_Spread_settle_102, r_Spread_settle_103, r_Spread_settle_105, r_Spread_settle_108, r_Spread_settle_111, r_Spread_settle_112, r_Spread_settle_113, r_Spread_settle_115, r_Spread_settle_118, r_Spread_settle_121, r_Spread_settle_124, xf_Spread_settle_9, xf_Spread_settle_15, xf_Spread_settle_18, xf_Spread_settle_21, xe_Spread_settle_100, xe_Spread_settle_124, xe_Spread_settle_140, xe_Spread_settle_156, xe_Spread_settle_180, xd_Spread_settle, xrb_Spread_settle, xin_Spread_settle, T_Roots_size_e, TF_Roots_size, T_Roots_targetAt_e, TF_Roots_targetAt, T_Spread_enter_e, TF_Spread_enter, T_Things_isSoft_e, TF_Things_isSoft, T_Spread_leave_e, TF_Spread_leave, fu_f1, fu_f2, fu_f3, fu_f4, hto, sh, sp0, sp1, sp2, sq0, sq1, sq2, rh, rp0, rp1, rq0, rq1, lh, lp0, lp1, lp2, lp3, lp4, lp5, lp6, lp7, lp8, lp9, lp10, lp11, lq0, lq1, lq2, lq3, lq4, lq5, lq6, lq7, lq8, lq9, lq10, lq11, Nat.reduceAdd, Nat.reduceMul, Nat.reduceEqDiff, reduceIte, Int.reduceNeg, Int.reduceLE, Int.reduceLT, Int.reduceAdd, Int.reduceSub, Int.reduceToNat, true_and, and_true, inR_e, Nat.reduceLT, Nat.reduceLeDiff, reduceCtorEq, Nat.add_zero, Nat.zero_add, or_false, false_or, or_true, true_or, not_true_eq_false, not_false_eq_true, Classical.not_not, Nat.add_eq_zero_iff, and_false, false_and, Int.reduceEq, List.mem_cons, List.not_mem_nil, forall_eq_or_imp, forall_eq, false_implies, implies_true, forall_const, aargs_0, aargs_i, aargs_r, aargs_l, aargs_n, nfT_e, eq_self, and_self, Nat.le_refl, fu_s, fu_fu, iu_iu, iu_s, fu_am, fu_a0, fu_0a, iu_l, Nat.reduceBEq, Int.reduceBEq, T_objInit_e]
    clear sp0 sp1 sp2 rp0 rp1 lp0 lp1 lp2 lp3 lp4 lp5 lp6 lp7 lp8 lp9 lp10 lp11
    rw [hJd]
    exact Or.inl ⟨rfl, 0, _, by omega, Fr.rfl'.fu (by omega), by rw [fu_s, iu_s], fun x hx => by omega, rfl, rfl⟩
  · intro cp vs M1 hvs hM1 hlen hJ
    rw [hJd] at hJ
    rcases hJ with ⟨rfl, i, σ1, g1, g2, g3, g4, rfl, rfl⟩ | ⟨rfl, i, σ1, bp1, g1, g2, g3, rfl, rfl⟩ | ⟨rfl, i, σ1, bp1, g1, g2, g3, rfl, rfl⟩
    · have e0 : σ1 t = σ t := g2.lo (by omega)
      have e1 : σ1 (t + 1) = σ (t + 1) := g2.lo (by omega)
      have e2 : σ1 (t + 2) = σ (t + 2) := g2.lo (by omega)
      have e9 : σ1 (t + 9) = σ (t + 9) := g2.lo (by omega)
      have e12 : σ1 (t + 12) = σ (t + 12) := g2.lo (by omega)
      have er : σ1 r = σ r := g2.lo (by omega)
      have er2 : σ1 (r + 2) = σ (r + 2) := g2.lo (by omega)
      (obtain ⟨sh, sp0, sp1, sp2, sq0, sq1, sq2⟩ := (show LSpread lay ρ _ from hS); obtain ⟨rh, rp0, rp1, rq0, rq1⟩ := (show LRoots lay ρ _ from hR); obtain ⟨lh, lp0, lp1, lp2, lp3, lp4, lp5, lp6, lp7, lp8, lp9, lp10, lp11, lq0, lq1, lq2, lq3, lq4, lq5, lq6, lq7, lq8, lq9, lq10, lq11⟩ := (show LThings lay ρ _ from hL); unfold wps; simp only [Option.getD_some, List.zip_cons_cons, List.zip_nil_left, List.zip_nil_right, List.zip_nil_right, e0, e1, e2, e9, e12, er, er2, si_iload_n0, si_iload_n1, si_iload_n2, si_iload_n3, si_iload, si_lload_n0, si_lload_n1, si_lload_n2, si_lload_n3, si_lload, si_aload_n0, si_aload_n1, si_aload_n2, si_aload_n3, si_aload, si_istore_n0, si_istore_n1, si_istore_n2, si_istore_n3, si_istore, si_astore_n0, si_astore_n1, si_astore_n2, si_astore_n3, si_astore, si_lstore_n0, si_lstore_n1, si_lstore_n2, si_lstore_n3, si_lstore, si_iconst, si_bipush, si_sipush, si_ldc, si_ldc2_w, si_lconst0, si_lconst1, si_aconst_null, si_iinc, si_dup, si_dup2, si_iadd, si_isub, si_imul, si_idiv, si_irem, si_iand, si_ior, si_ishl, si_ishr, si_ladd, si_lmul, si_lor, si_lxor, si_lshl, si_lushr, si_lcmp, si_i2b, si_i2l, si_l2i, si_icmp_eq, si_icmp_ne, si_icmp_lt, si_icmp_ge, si_icmp_gt, si_icmp_le, si_if_eq, si_if_ne, si_if_lt, si_if_ge, si_if_gt, si_if_le, si_ifnull, si_ifnonnull, si_goto, si_tableswitch, si_lookupswitch, si_getfield, si_putfield, si_getstatic, si_iaload, si_baload, si_laload, si_aaload, si_iastore, si_bastore, si_lastore, si_aastore, si_arraylength, si_new, si_newarray, si_anewarray, si_invokevirtual, si_invokespecial, si_invokestatic, si_ireturn, si_lreturn, si_areturn, si_return_, pI_e, pL_e, pR_e, pA_r, pA_n, pN_n, pN_r, oI_e, oL_e, oA_r, oA_n, lget_e, lrm1_0, lrm2_0, lrm1_i, lrm1_r, lrm1_n, lrm1_l, lrm2_i, lrm2_r, lrm2_n, lrm2_l, popN_0, popN_s, acat_i, acat_l, acat_r, acat_n, stw_0, stw_s, psh_s, psh_n, wgf_r, wgf_i, wgf_b, wgf_n, wgf_m, wpf_i, wpf_r, wpf_b, wnew_e, callE_e, rbk_0, rbk_1, tsw_0, tsw_s, lsw_0, lsw_s, wp_s, wq_t, wq_f, oV_e, pick_0, pick_s, oZ_e, oY_e, r_Spread_settle_0, r_Spread_settle_1, r_Spread_settle_2, r_Spread_settle_5, r_Spread_settle_6, r_Spread_settle_8, r_Spread_settle_10, r_Spread_settle_13, r_Spread_settle_16, r_Spread_settle_17, r_Spread_settle_20, r_Spread_settle_22, r_Spread_settle_23, r_Spread_settle_24, r_Spread_settle_25, r_Spread_settle_28, r_Spread_settle_30, r_Spread_settle_31, r_Spread_settle_32, r_Spread_settle_35, r_Spread_settle_38, r_Spread_settle_39, r_Spread_settle_41, r_Spread_settle_43, r_Spread_settle_44, r_Spread_settle_47, r_Spread_settle_50, r_Spread_settle_51, r_Spread_settle_52, r_Spread_settle_53, r_Spread_settle_55, r_Spread_settle_58, r_Spread_settle_59, r_Spread_settle_60, r_Spread_settle_63, r_Spread_settle_66, r_Spread_settle_69, r_Spread_settle_70, r_Spread_settle_72, r_Spread_settle_74, r_Spread_settle_77, r_Spread_settle_80, r_Spread_settle_82, r_Spread_settle_83, r_Spread_settle_86, r_Spread_settle_89, r_Spread_settle_90, r_Spread_settle_93, r_Spread_settle_95, r_Spread_settle_96, r_Spread_settle_98, r_Spread_settle_99, r_Spread_settle_102, r_Spread_settle_103, r_Spread_settle_105, r_Spread_settle_108, r_Spread_settle_111, r_Spread_settle_112, r_Spread_settle_113, r_Spread_settle_115, r_Spread_settle_118, r_Spread_settle_121, r_Spread_settle_124, xf_Spread_settle_9, xf_Spread_settle_15, xf_Spread_settle_18, xf_Spread_settle_21, xe_Spread_settle_100, xe_Spread_settle_124, xe_Spread_settle_140, xe_Spread_settle_156, xe_Spread_settle_180, xd_Spread_settle, xrb_Spread_settle, xin_Spread_settle, T_Roots_size_e, TF_Roots_size, T_Roots_targetAt_e, TF_Roots_targetAt, T_Spread_enter_e, TF_Spread_enter, T_Things_isSoft_e, TF_Things_isSoft, T_Spread_leave_e, TF_Spread_leave, fu_f1, fu_f2, fu_f3, fu_f4, hto, sh, sp0, sp1, sp2, sq0, sq1, sq2, rh, rp0, rp1, rq0, rq1, lh, lp0, lp1, lp2, lp3, lp4, lp5, lp6, lp7, lp8, lp9, lp10, lp11, lq0, lq1, lq2, lq3, lq4, lq5, lq6, lq7, lq8, lq9, lq10, lq11, Nat.reduceAdd, Nat.reduceMul, Nat.reduceEqDiff, reduceIte, Int.reduceNeg, Int.reduceLE, Int.reduceLT, Int.reduceAdd, Int.reduceSub, Int.reduceToNat, true_and, and_true, inR_e, Nat.reduceLT, Nat.reduceLeDiff, reduceCtorEq, Nat.add_zero, Nat.zero_add, or_false, false_or, or_true, true_or, not_true_eq_false, not_false_eq_true, Classical.not_not, Nat.add_eq_zero_iff, and_false, false_and, Int.reduceEq, List.mem_cons, List.not_mem_nil, forall_eq_or_imp, forall_eq, false_implies, implies_true, forall_const, aargs_0, aargs_i, aargs_r, aargs_l, aargs_n, nfT_e, eq_self, and_self, Nat.le_refl, fu_s, fu_fu, iu_iu, iu_s, fu_am, fu_a0, fu_0a, iu_l, Nat.reduceBEq, Int.reduceBEq, T_objInit_e]; clear sp0 sp1 sp2 rp0 rp1 lp0 lp1 lp2 lp3 lp4 lp5 lp6 lp7 lp8 lp9 lp10 lp11)
      refine ⟨fun h => ⟨?_, (by rw [hμ]; simp only [gI_e, List.getD_cons_succ, List.getD_cons_zero, Nat.reduceEqDiff, reduceIte]; omega)⟩, fun h => ⟨by omega, by omega, by omega, by omega, by omega, ?_, (by rw [hμ]; simp only [gI_e, List.getD_cons_succ, List.getD_cons_zero, Nat.reduceEqDiff, reduceIte]; omega)⟩⟩
      · rw [hJd]
        refine Or.inr (Or.inl ⟨rfl, 0, σ1, fun _ => 0, by omega, g2, ?_, rfl, rfl⟩)
        unfold SpM
        rw [g3]
        exact (SpI.start (fun x hx => (g4 x (by omega)).1)).mono (fun y hy => by obtain ⟨-, k, hk, -⟩ := hy; omega)
      · rw [hJd]
        refine Or.inl ⟨rfl, i + 1, _, by omega, (g2.fu (by omega)).fu (by omega), ?_, fun x hx => ?_, rfl, rfl⟩
        · rw [fu_a0 (by decide), fu_a0 (by decide)]; exact g3
        · rw [fu_am (by decide), fu_s, fu_s]
          by_cases e : x = i
          · rw [e, iu_s, iu_s]; exact ⟨rfl, rfl⟩
          · rw [iu_n e, iu_n e]; exact g4 x (by omega)
    · have e0 : σ1 t = σ t := g2.lo (by omega)
      have e1 : σ1 (t + 1) = σ (t + 1) := g2.lo (by omega)
      have e2 : σ1 (t + 2) = σ (t + 2) := g2.lo (by omega)
      have e9 : σ1 (t + 9) = σ (t + 9) := g2.lo (by omega)
      have e12 : σ1 (t + 12) = σ (t + 12) := g2.lo (by omega)
      have er : σ1 r = σ r := g2.lo (by omega)
      have er2 : σ1 (r + 2) = σ (r + 2) := g2.lo (by omega)
      (obtain ⟨sh, sp0, sp1, sp2, sq0, sq1, sq2⟩ := (show LSpread lay ρ _ from hS); obtain ⟨rh, rp0, rp1, rq0, rq1⟩ := (show LRoots lay ρ _ from hR); obtain ⟨lh, lp0, lp1, lp2, lp3, lp4, lp5, lp6, lp7, lp8, lp9, lp10, lp11, lq0, lq1, lq2, lq3, lq4, lq5, lq6, lq7, lq8, lq9, lq10, lq11⟩ := (show LThings lay ρ _ from hL); unfold wps; simp only [Option.getD_some, List.zip_cons_cons, List.zip_nil_left, List.zip_nil_right, List.zip_nil_right, e0, e1, e2, e9, e12, er, er2, si_iload_n0, si_iload_n1, si_iload_n2, si_iload_n3, si_iload, si_lload_n0, si_lload_n1, si_lload_n2, si_lload_n3, si_lload, si_aload_n0, si_aload_n1, si_aload_n2, si_aload_n3, si_aload, si_istore_n0, si_istore_n1, si_istore_n2, si_istore_n3, si_istore, si_astore_n0, si_astore_n1, si_astore_n2, si_astore_n3, si_astore, si_lstore_n0, si_lstore_n1, si_lstore_n2, si_lstore_n3, si_lstore, si_iconst, si_bipush, si_sipush, si_ldc, si_ldc2_w, si_lconst0, si_lconst1, si_aconst_null, si_iinc, si_dup, si_dup2, si_iadd, si_isub, si_imul, si_idiv, si_irem, si_iand, si_ior, si_ishl, si_ishr, si_ladd, si_lmul, si_lor, si_lxor, si_lshl, si_lushr, si_lcmp, si_i2b, si_i2l, si_l2i, si_icmp_eq, si_icmp_ne, si_icmp_lt, si_icmp_ge, si_icmp_gt, si_icmp_le, si_if_eq, si_if_ne, si_if_lt, si_if_ge, si_if_gt, si_if_le, si_ifnull, si_ifnonnull, si_goto, si_tableswitch, si_lookupswitch, si_getfield, si_putfield, si_getstatic, si_iaload, si_baload, si_laload, si_aaload, si_iastore, si_bastore, si_lastore, si_aastore, si_arraylength, si_new, si_newarray, si_anewarray, si_invokevirtual, si_invokespecial, si_invokestatic, si_ireturn, si_lreturn, si_areturn, si_return_, pI_e, pL_e, pR_e, pA_r, pA_n, pN_n, pN_r, oI_e, oL_e, oA_r, oA_n, lget_e, lrm1_0, lrm2_0, lrm1_i, lrm1_r, lrm1_n, lrm1_l, lrm2_i, lrm2_r, lrm2_n, lrm2_l, popN_0, popN_s, acat_i, acat_l, acat_r, acat_n, stw_0, stw_s, psh_s, psh_n, wgf_r, wgf_i, wgf_b, wgf_n, wgf_m, wpf_i, wpf_r, wpf_b, wnew_e, callE_e, rbk_0, rbk_1, tsw_0, tsw_s, lsw_0, lsw_s, wp_s, wq_t, wq_f, oV_e, pick_0, pick_s, oZ_e, oY_e, r_Spread_settle_0, r_Spread_settle_1, r_Spread_settle_2, r_Spread_settle_5, r_Spread_settle_6, r_Spread_settle_8, r_Spread_settle_10, r_Spread_settle_13, r_Spread_settle_16, r_Spread_settle_17, r_Spread_settle_20, r_Spread_settle_22, r_Spread_settle_23, r_Spread_settle_24, r_Spread_settle_25, r_Spread_settle_28, r_Spread_settle_30, r_Spread_settle_31, r_Spread_settle_32, r_Spread_settle_35, r_Spread_settle_38, r_Spread_settle_39, r_Spread_settle_41, r_Spread_settle_43, r_Spread_settle_44, r_Spread_settle_47, r_Spread_settle_50, r_Spread_settle_51, r_Spread_settle_52, r_Spread_settle_53, r_Spread_settle_55, r_Spread_settle_58, r_Spread_settle_59, r_Spread_settle_60, r_Spread_settle_63, r_Spread_settle_66, r_Spread_settle_69, r_Spread_settle_70, r_Spread_settle_72, r_Spread_settle_74, r_Spread_settle_77, r_Spread_settle_80, r_Spread_settle_82, r_Spread_settle_83, r_Spread_settle_86, r_Spread_settle_89, r_Spread_settle_90, r_Spread_settle_93, r_Spread_settle_95, r_Spread_settle_96, r_Spread_settle_98, r_Spread_settle_99, r_Spread_settle_102, r_Spread_settle_103, r_Spread_settle_105, r_Spread_settle_108, r_Spread_settle_111, r_Spread_settle_112, r_Spread_settle_113, r_Spread_settle_115, r_Spread_settle_118, r_Spread_settle_121, r_Spread_settle_124, xf_Spread_settle_9, xf_Spread_settle_15, xf_Spread_settle_18, xf_Spread_settle_21, xe_Spread_settle_100, xe_Spread_settle_124, xe_Spread_settle_140, xe_Spread_settle_156, xe_Spread_settle_180, xd_Spread_settle, xrb_Spread_settle, xin_Spread_settle, T_Roots_size_e, TF_Roots_size, T_Roots_targetAt_e, TF_Roots_targetAt, T_Spread_enter_e, TF_Spread_enter, T_Things_isSoft_e, TF_Things_isSoft, T_Spread_leave_e, TF_Spread_leave, fu_f1, fu_f2, fu_f3, fu_f4, hto, sh, sp0, sp1, sp2, sq0, sq1, sq2, rh, rp0, rp1, rq0, rq1, lh, lp0, lp1, lp2, lp3, lp4, lp5, lp6, lp7, lp8, lp9, lp10, lp11, lq0, lq1, lq2, lq3, lq4, lq5, lq6, lq7, lq8, lq9, lq10, lq11, Nat.reduceAdd, Nat.reduceMul, Nat.reduceEqDiff, reduceIte, Int.reduceNeg, Int.reduceLE, Int.reduceLT, Int.reduceAdd, Int.reduceSub, Int.reduceToNat, true_and, and_true, inR_e, Nat.reduceLT, Nat.reduceLeDiff, reduceCtorEq, Nat.add_zero, Nat.zero_add, or_false, false_or, or_true, true_or, not_true_eq_false, not_false_eq_true, Classical.not_not, Nat.add_eq_zero_iff, and_false, false_and, Int.reduceEq, List.mem_cons, List.not_mem_nil, forall_eq_or_imp, forall_eq, false_implies, implies_true, forall_const, aargs_0, aargs_i, aargs_r, aargs_l, aargs_n, nfT_e, eq_self, and_self, Nat.le_refl, fu_s, fu_fu, iu_iu, iu_s, fu_am, fu_a0, fu_0a, iu_l, Nat.reduceBEq, Int.reduceBEq, T_objInit_e]; clear sp0 sp1 sp2 rp0 rp1 lp0 lp1 lp2 lp3 lp4 lp5 lp6 lp7 lp8 lp9 lp10 lp11)
      refine ⟨fun h => ⟨?_, (by rw [hμ]; simp only [gI_e, List.getD_cons_succ, List.getD_cons_zero, Nat.reduceEqDiff, reduceIte]; omega)⟩, fun h => ?_⟩
      · rw [hJd]
        have h3 := g3.ha
        refine Or.inr (Or.inr ⟨rfl, 0, σ1, bp1, by omega, g2, ?_, rfl, rfl⟩)
        refine g3.next (fun x hx => ?_) (by omega)
        rw [ln1_m] at hx
        rcases hx with hx | hx
        · obtain ⟨x0, k, hk, e⟩ := hx.2
          rw [← hr] at hk e
          exact ⟨x0, k, by omega, e⟩
        · have := hx.1; omega
      · have hx := hrt i (by omega)
        have h3 := g3.ha
        have hcn := g3.cn hn.1
        refine ⟨hR, hrc, fun a => ⟨hS, hL, hn, by omega, fun p hp => (g3.hp p hp).1, hx, fun z1 z2 => by have := g3.room ⟨z1, hx.2⟩ z2; omega, fun z => ⟨by omega, ?_, (by rw [hμ]; simp only [gI_e, List.getD_cons_succ, List.getD_cons_zero, Nat.reduceEqDiff, reduceIte]; omega)⟩, fun z1 z2 q D hq hl hr2 hD => ⟨by omega, ?_, (by rw [hμ]; simp only [gI_e, List.getD_cons_succ, List.getD_cons_zero, Nat.reduceEqDiff, reduceIte]; omega)⟩⟩, fun a => absurd a (by omega)⟩
        · rw [hJd]
          refine Or.inr (Or.inl ⟨rfl, i + 1, σ1, bp1, by omega, g2, ?_, rfl, rfl⟩)
          by_cases zz : σ (r + 2) i = -1
          · refine g3.mono (fun y hy => ?_)
            obtain ⟨y0, k, hk, e⟩ := hy
            have : k = i ∨ k < i := by omega
            rcases this with w | w
            · rw [w] at e; omega
            · exact ⟨y0, k, by omega, e⟩
          · refine (g3.old (x := σ (r + 2) i) (by omega) (by rcases z with z | z; exact absurd z zz; exact z)).mono (fun y hy => ?_)
            obtain ⟨y0, k, hk, e⟩ := hy
            have : k = i ∨ k < i := by omega
            rcases this with w | w
            · rw [w] at e; exact Or.inr e.symm
            · exact Or.inl ⟨y0, k, by omega, e⟩
        · rw [hJd]
          refine Or.inr (Or.inl ⟨rfl, i + 1, _, insA bp1 q (σ1 o 3) (-1), by omega, spE_fr g2, ?_, rfl, rfl⟩)
          refine (g3.enter hB ⟨z1, hx.2⟩ hn.2 z2 ?_ (by omega) hq hl hr2 (by rw [ln1_m, dv_m]; exact hD) ln1_m.symm).mono (fun y hy => ?_)
          · rw [ln1_m]
            exact Or.inl ⟨rfl, z1, i, by rw [← hr]; omega, by rw [← hr]⟩
          · obtain ⟨y0, k, hk, e⟩ := hy
            have : k = i ∨ k < i := by omega
            rcases this with w | w
            · rw [w] at e; exact Or.inr e.symm
            · exact Or.inl ⟨y0, k, by omega, e⟩
    · have e0 : σ1 t = σ t := g2.lo (by omega)
      have e1 : σ1 (t + 1) = σ (t + 1) := g2.lo (by omega)
      have e2 : σ1 (t + 2) = σ (t + 2) := g2.lo (by omega)
      have e9 : σ1 (t + 9) = σ (t + 9) := g2.lo (by omega)
      have e12 : σ1 (t + 12) = σ (t + 12) := g2.lo (by omega)
      have er : σ1 r = σ r := g2.lo (by omega)
      have er2 : σ1 (r + 2) = σ (r + 2) := g2.lo (by omega)
      have h3 := g3.ha
      have hcn := g3.cn hn.1
      have fin : i = σ1 o 3 → k none (sz, sl, lay, ρ, σ1, τ) := fun z => hT σ1 bp1 g2 (by rw [z] at g3; exact g3)
      (obtain ⟨sh, sp0, sp1, sp2, sq0, sq1, sq2⟩ := (show LSpread lay ρ _ from hS); obtain ⟨rh, rp0, rp1, rq0, rq1⟩ := (show LRoots lay ρ _ from hR); obtain ⟨lh, lp0, lp1, lp2, lp3, lp4, lp5, lp6, lp7, lp8, lp9, lp10, lp11, lq0, lq1, lq2, lq3, lq4, lq5, lq6, lq7, lq8, lq9, lq10, lq11⟩ := (show LThings lay ρ _ from hL); unfold wps; simp only [Option.getD_some, List.zip_cons_cons, List.zip_nil_left, List.zip_nil_right, List.zip_nil_right, e0, e1, e2, e9, e12, er, er2, si_iload_n0, si_iload_n1, si_iload_n2, si_iload_n3, si_iload, si_lload_n0, si_lload_n1, si_lload_n2, si_lload_n3, si_lload, si_aload_n0, si_aload_n1, si_aload_n2, si_aload_n3, si_aload, si_istore_n0, si_istore_n1, si_istore_n2, si_istore_n3, si_istore, si_astore_n0, si_astore_n1, si_astore_n2, si_astore_n3, si_astore, si_lstore_n0, si_lstore_n1, si_lstore_n2, si_lstore_n3, si_lstore, si_iconst, si_bipush, si_sipush, si_ldc, si_ldc2_w, si_lconst0, si_lconst1, si_aconst_null, si_iinc, si_dup, si_dup2, si_iadd, si_isub, si_imul, si_idiv, si_irem, si_iand, si_ior, si_ishl, si_ishr, si_ladd, si_lmul, si_lor, si_lxor, si_lshl, si_lushr, si_lcmp, si_i2b, si_i2l, si_l2i, si_icmp_eq, si_icmp_ne, si_icmp_lt, si_icmp_ge, si_icmp_gt, si_icmp_le, si_if_eq, si_if_ne, si_if_lt, si_if_ge, si_if_gt, si_if_le, si_ifnull, si_ifnonnull, si_goto, si_tableswitch, si_lookupswitch, si_getfield, si_putfield, si_getstatic, si_iaload, si_baload, si_laload, si_aaload, si_iastore, si_bastore, si_lastore, si_aastore, si_arraylength, si_new, si_newarray, si_anewarray, si_invokevirtual, si_invokespecial, si_invokestatic, si_ireturn, si_lreturn, si_areturn, si_return_, pI_e, pL_e, pR_e, pA_r, pA_n, pN_n, pN_r, oI_e, oL_e, oA_r, oA_n, lget_e, lrm1_0, lrm2_0, lrm1_i, lrm1_r, lrm1_n, lrm1_l, lrm2_i, lrm2_r, lrm2_n, lrm2_l, popN_0, popN_s, acat_i, acat_l, acat_r, acat_n, stw_0, stw_s, psh_s, psh_n, wgf_r, wgf_i, wgf_b, wgf_n, wgf_m, wpf_i, wpf_r, wpf_b, wnew_e, callE_e, rbk_0, rbk_1, tsw_0, tsw_s, lsw_0, lsw_s, wp_s, wq_t, wq_f, oV_e, pick_0, pick_s, oZ_e, oY_e, r_Spread_settle_0, r_Spread_settle_1, r_Spread_settle_2, r_Spread_settle_5, r_Spread_settle_6, r_Spread_settle_8, r_Spread_settle_10, r_Spread_settle_13, r_Spread_settle_16, r_Spread_settle_17, r_Spread_settle_20, r_Spread_settle_22, r_Spread_settle_23, r_Spread_settle_24, r_Spread_settle_25, r_Spread_settle_28, r_Spread_settle_30, r_Spread_settle_31, r_Spread_settle_32, r_Spread_settle_35, r_Spread_settle_38, r_Spread_settle_39, r_Spread_settle_41, r_Spread_settle_43, r_Spread_settle_44, r_Spread_settle_47, r_Spread_settle_50, r_Spread_settle_51, r_Spread_settle_52, r_Spread_settle_53, r_Spread_settle_55, r_Spread_settle_58, r_Spread_settle_59, r_Spread_settle_60, r_Spread_settle_63, r_Spread_settle_66, r_Spread_settle_69, r_Spread_settle_70, r_Spread_settle_72, r_Spread_settle_74, r_Spread_settle_77, r_Spread_settle_80, r_Spread_settle_82, r_Spread_settle_83, r_Spread_settle_86, r_Spread_settle_89, r_Spread_settle_90, r_Spread_settle_93, r_Spread_settle_95, r_Spread_settle_96, r_Spread_settle_98, r_Spread_settle_99, r_Spread_settle_102, r_Spread_settle_103, r_Spread_settle_105, r_Spread_settle_108, r_Spread_settle_111, r_Spread_settle_112, r_Spread_settle_113, r_Spread_settle_115, r_Spread_settle_118, r_Spread_settle_121, r_Spread_settle_124, xf_Spread_settle_9, xf_Spread_settle_15, xf_Spread_settle_18, xf_Spread_settle_21, xe_Spread_settle_100, xe_Spread_settle_124, xe_Spread_settle_140, xe_Spread_settle_156, xe_Spread_settle_180, xd_Spread_settle, xrb_Spread_settle, xin_Spread_settle, T_Roots_size_e, TF_Roots_size, T_Roots_targetAt_e, TF_Roots_targetAt, T_Spread_enter_e, TF_Spread_enter, T_Things_isSoft_e, TF_Things_isSoft, T_Spread_leave_e, TF_Spread_leave, fu_f1, fu_f2, fu_f3, fu_f4, hto, sh, sp0, sp1, sp2, sq0, sq1, sq2, rh, rp0, rp1, rq0, rq1, lh, lp0, lp1, lp2, lp3, lp4, lp5, lp6, lp7, lp8, lp9, lp10, lp11, lq0, lq1, lq2, lq3, lq4, lq5, lq6, lq7, lq8, lq9, lq10, lq11, Nat.reduceAdd, Nat.reduceMul, Nat.reduceEqDiff, reduceIte, Int.reduceNeg, Int.reduceLE, Int.reduceLT, Int.reduceAdd, Int.reduceSub, Int.reduceToNat, true_and, and_true, inR_e, Nat.reduceLT, Nat.reduceLeDiff, reduceCtorEq, Nat.add_zero, Nat.zero_add, or_false, false_or, or_true, true_or, not_true_eq_false, not_false_eq_true, Classical.not_not, Nat.add_eq_zero_iff, and_false, false_and, Int.reduceEq, List.mem_cons, List.not_mem_nil, forall_eq_or_imp, forall_eq, false_implies, implies_true, forall_const, aargs_0, aargs_i, aargs_r, aargs_l, aargs_n, nfT_e, eq_self, and_self, Nat.le_refl, fu_s, fu_fu, iu_iu, iu_s, fu_am, fu_a0, fu_0a, iu_l, Nat.reduceBEq, Int.reduceBEq, T_objInit_e]; clear sp0 sp1 sp2 rp0 rp1 lp0 lp1 lp2 lp3 lp4 lp5 lp6 lp7 lp8 lp9 lp10 lp11)
      refine ⟨fun h => fin (by omega), fun h => ⟨fun h2 => fin (by omega), fun h2 => ?_⟩⟩
      have hx := (g3.hp i (by omega)).1
      have nx : ∀ (σ2 : Nat → Int → Int) (bp2 : Int → Int) (H : Int → Prop), Fr σ1 σ2 o 3 → SpM σ1 σ2 t o (gX σ t s) bp2 i (σ1 o 3) H → σ2 (o + 1) i = σ1 (o + 1) i → (∀ y, gE σ t s (σ1 (o + 1) i) y → H y) → J 72 [vR o, vR t, vR r, vI s, vI (i + 1)] (sz, sl, lay, ρ, σ2, τ) := by
        intro σ2 bp2 H w1 w2 w3 w4
        have w5 := w2.ha
        rw [hJd]
        refine Or.inr (Or.inr ⟨rfl, i + 1, σ2, bp2, by omega, g2.trans w1, ?_, rfl, rfl⟩)
        refine (SpM.cg e0.symm e1.symm w2).next (fun y hy => ?_) (by omega)
        rw [ln1_p g1.1, w3] at hy
        rcases hy with hy | hy
        · omega
        · exact w4 y hy
      have lvx : ¬ s = 0 ∨ ¬ σ (t + 2) (σ1 (o + 1) i) = 2 → ∀ y, 0 ≤ y → (∃ k, (0 ≤ k ∧ k < σ (t + 9) (σ1 (o + 1) i + 1) - σ (t + 9) (σ1 (o + 1) i)) ∧ σ (t + 12) (σ (t + 9) (σ1 (o + 1) i) + k) = y) → gX σ t s (σ1 (o + 1) i) y := fun w y y0 hy => Or.inr ⟨hx, y0, w, hy⟩
      refine ⟨by omega, by omega, fun a => ⟨hS, hL, hn, hB.fr g2 hto, hG.fr g2 hto, gX σ t s, bp1, i, by omega, rfl, lvx (Or.inl a), SpM.cg e0 e1 g3, fun σ2 bp2 w1 w2 w3 => ⟨by omega, nx σ2 bp2 _ w1 w2 w3 (fun y hy => ⟨hy.2.1, hy.2.2.2⟩), (by rw [hμ]; simp only [gI_e, List.getD_cons_succ, List.getD_cons_zero, Nat.reduceEqDiff, reduceIte]; omega)⟩⟩, fun a => ⟨hL, hn, fun b => ⟨by omega, nx σ1 bp1 _ Fr.rfl' (SpM.cg e0 e1 g3) rfl (fun y hy => ?_), (by rw [hμ]; simp only [gI_e, List.getD_cons_succ, List.getD_cons_zero, Nat.reduceEqDiff, reduceIte]; omega)⟩, fun b => ⟨hS, hL, hn, hB.fr g2 hto, hG.fr g2 hto, gX σ t s, bp1, i, by omega, rfl, lvx (Or.inr (fun z => b ⟨hx.1, hx.2, z⟩)), SpM.cg e0 e1 g3, fun σ2 bp2 w1 w2 w3 => ⟨by omega, nx σ2 bp2 _ w1 w2 w3 (fun y hy => ⟨hy.2.1, hy.2.2.2⟩), (by rw [hμ]; simp only [gI_e, List.getD_cons_succ, List.getD_cons_zero, Nat.reduceEqDiff, reduceIte]; omega)⟩⟩⟩⟩
      rcases hy.2.2.1 with z | z
      · exact absurd a z
      · exact absurd b.2.2 z

theorem co_X2_148 : CallOK RX2 (.invokevirtual 37) (2, 1, 0, 0, T_Things_sizeOf) := call_V S_Things_sizeOf (by decide) (ci := 7) rfl (by decide +kernel) (by decide +kernel) (by decide +kernel) (by decide +kernel) (by decide +kernel) (by decide +kernel) T_Things_sizeOf_r
theorem co_X2_344 : CallOK RX2 (.invokevirtual 86) (2, 2, 0, 0, T_Life_keptOf) := call_V S_Life_keptOf (by decide) (ci := 2) rfl (by decide +kernel) (by decide +kernel) (by decide +kernel) (by decide +kernel) (by decide +kernel) (by decide +kernel) T_Life_keptOf_r
def TF_Life_measure (o : Nat) (t : Nat) (w : Nat) (sz sl : Nat) (lay : Nat → Nat × Int) (ρ : Nat → Int → Nat) (σ : Nat → Int → Int) (τ : Nat → Int → Int64) (k : Option AV → Mm → Prop) : Prop := LLife lay ρ o ∧ LSpread lay ρ w ∧ LThings lay ρ t ∧ (0 ≤ σ t 12 ∧ σ t 12 ≤ 600) ∧ (t + 13 ≤ w) ∧ (w + 4 ≤ o) ∧ (∀ i, 0 ≤ i ∧ i < σ t 12 → 0 ≤ σ (t + 5) i ∧ σ (t + 5) i ≤ 100000) ∧ ∃ bp, SpW σ t w 0 bp ∧ KI (gX σ t 0) (σ (w + 1)) (σ (w + 2)) (σ w 3) (σ (o + 1)) ∧ (∀ i, 0 ≤ i ∧ i < 600 → σ (o + 2) i = 0) ∧ (∀ i, 0 ≤ i ∧ i < σ t 12 → σ (o + 3) i = σ (t + 5) i) ∧ (∀ σ2 : Nat → Int → Int, Fr σ σ2 o 4 → σ2 (o + 1) = σ (o + 1) → (∀ x, Lv (σ (w + 1)) (σ w 3) x → σ2 (o + 2) x = cntP (fun y => Ch (σ (o + 1)) y (x)) (σ t 12).toNat) → (∀ x, 0 ≤ x ∧ x < 600 → ¬ Lv (σ (w + 1)) (σ w 3) x → σ2 (o + 2) x = 0) → (∀ y, Lv (σ (w + 1)) (σ w 3) y → σ2 (o + 3) y = sumP (fun x => Lv (σ (w + 1)) (σ w 3) x ∧ Ch (σ (o + 1)) y x) (σ (t + 5)) (σ t 12).toNat) → σ2 o 5 = sumP (fun x => Lv (σ (w + 1)) (σ w 3) x) (σ (t + 5)) (σ t 12).toNat → k none (sz, sl, lay, ρ, σ2, τ))
def T_Life_measure : Tr := mkT 2 fun o as M k => pR as fun t as => pR as fun w as => as = [] ∧ TF_Life_measure o t w M.1 M.2.1 M.2.2.1 M.2.2.2.1 M.2.2.2.2.1 M.2.2.2.2.2 k
theorem T_Life_measure_e {o : Nat} {t : Nat} {w : Nat} {sz sl : Nat} {lay : Nat → Nat × Int} {ρ : Nat → Int → Nat} {σ : Nat → Int → Int} {τ : Nat → Int → Int64} {k : Option AV → Mm → Prop} : T_Life_measure [vR o, vR t, vR w] (sz, sl, lay, ρ, σ, τ) k = (lay o = (12, 0) ∧ TF_Life_measure o t w sz sl lay ρ σ τ k) := by simp [T_Life_measure, mkT_e, pI_e, pR_e, pL_e]
theorem T_Life_measure_r (as : List AV) (M : Mm) (k : Option AV → Mm → Prop) (h : T_Life_measure as M k) : ∃ b As, as = vR b :: As ∧ M.2.2.1 b = (10 + 2, 0) := by
  obtain ⟨b, As, h1, h2, -⟩ := mkT_r h
  exact ⟨b, As, h1, h2⟩
def tb_Life_measure : List (Nat × Option (List Nat) × Instr × List Nat) := [(0, none, .aload_n 0, []), (1, none, .iconst 0, []), (2, none, .putfield 28, []), (5, none, .iconst 0, []), (6, none, .istore_n 3, []), (7, some [0, 1, 2, 3], .iload_n 3, []), (8, none, .aload_n 2, []), (9, none, .invokevirtual 55, []), (12, none, .if_icmp .ge 75, [87]), (15, none, .aload_n 2, []), (16, none, .iload_n 3, []), (17, none, .invokevirtual 59, []), (20, none, .istore 4, []), (22, none, .aload_n 0, []), (23, none, .iload 4, []), (25, none, .invokevirtual 73, []), (28, none, .istore 5, []), (30, none, .aload_n 0, []), (31, none, .dup, []), (32, none, .getfield 28, []), (35, none, .aload_n 1, []), (36, none, .iload 4, []), (38, none, .invokevirtual 37, []), (41, none, .iadd, []), (42, none, .putfield 28, []), (45, none, .iload 4, []), (47, none, .invokestatic 83, []), (50, none, .ifCond .eq 31, [81]), (53, none, .aload_n 0, []), (54, none, .getfield 15, []), (57, none, .iload 4, []), (59, none, .iload 5, []), (61, none, .invokestatic 83, []), (64, none, .ifCond .eq 15, [79]), (67, none, .aload_n 0, []), (68, none, .getfield 15, []), (71, none, .iload 5, []), (73, none, .iaload, []), (74, none, .iconst 1, []), (75, none, .iadd, []), (76, none, .goto 4, [80]), (79, none, .iconst 1, []), (80, none, .iastore, []), (81, none, .iinc 3 1, []), (84, none, .goto (-77), [7]), (87, none, .aload_n 2, []), (88, none, .invokevirtual 55, []), (91, none, .iconst 1, []), (92, none, .isub, []), (93, none, .istore_n 3, []), (94, some [0, 1, 2, 3], .iload_n 3, []), (95, none, .ifCond .lt 48, [143]), (98, none, .aload_n 2, []), (99, none, .iload_n 3, []), (100, none, .invokevirtual 59, []), (103, none, .istore 4, []), (105, none, .aload_n 0, []), (106, none, .iload 4, []), (108, none, .invokevirtual 73, []), (111, none, .istore 5, []), (113, none, .iload 5, []), (115, none, .invokestatic 83, []), (118, none, .ifCond .eq 19, [137]), (121, none, .aload_n 0, []), (122, none, .getfield 18, []), (125, none, .iload 5, []), (127, none, .dup2, []), (128, none, .iaload, []), (129, none, .aload_n 0, []), (130, none, .iload 4, []), (132, none, .invokevirtual 86, []), (135, none, .iadd, []), (136, none, .iastore, []), (137, none, .iinc 3 (-1), []), (140, none, .goto (-46), [94]), (143, none, .return_, [])]
def P_Life_measure : Nat → Option (List Nat) × Instr × List Nat := plk tb_Life_measure
theorem r_Life_measure_0 : P_Life_measure 0 = (none, .aload_n 0, []) := by decide +kernel
theorem r_Life_measure_1 : P_Life_measure 1 = (none, .iconst 0, []) := by decide +kernel
theorem r_Life_measure_2 : P_Life_measure 2 = (none, .putfield 28, []) := by decide +kernel
theorem r_Life_measure_5 : P_Life_measure 5 = (none, .iconst 0, []) := by decide +kernel
theorem r_Life_measure_6 : P_Life_measure 6 = (none, .istore_n 3, []) := by decide +kernel
theorem r_Life_measure_7 : P_Life_measure 7 = (some [0, 1, 2, 3], .iload_n 3, []) := by decide +kernel
theorem r_Life_measure_8 : P_Life_measure 8 = (none, .aload_n 2, []) := by decide +kernel
theorem r_Life_measure_9 : P_Life_measure 9 = (none, .invokevirtual 55, []) := by decide +kernel
theorem r_Life_measure_12 : P_Life_measure 12 = (none, .if_icmp .ge 75, [87]) := by decide +kernel
theorem r_Life_measure_15 : P_Life_measure 15 = (none, .aload_n 2, []) := by decide +kernel
theorem r_Life_measure_16 : P_Life_measure 16 = (none, .iload_n 3, []) := by decide +kernel
theorem r_Life_measure_17 : P_Life_measure 17 = (none, .invokevirtual 59, []) := by decide +kernel
theorem r_Life_measure_20 : P_Life_measure 20 = (none, .istore 4, []) := by decide +kernel
theorem r_Life_measure_22 : P_Life_measure 22 = (none, .aload_n 0, []) := by decide +kernel
theorem r_Life_measure_23 : P_Life_measure 23 = (none, .iload 4, []) := by decide +kernel
theorem r_Life_measure_25 : P_Life_measure 25 = (none, .invokevirtual 73, []) := by decide +kernel
theorem r_Life_measure_28 : P_Life_measure 28 = (none, .istore 5, []) := by decide +kernel
theorem r_Life_measure_30 : P_Life_measure 30 = (none, .aload_n 0, []) := by decide +kernel
theorem r_Life_measure_31 : P_Life_measure 31 = (none, .dup, []) := by decide +kernel
theorem r_Life_measure_32 : P_Life_measure 32 = (none, .getfield 28, []) := by decide +kernel
theorem r_Life_measure_35 : P_Life_measure 35 = (none, .aload_n 1, []) := by decide +kernel
theorem r_Life_measure_36 : P_Life_measure 36 = (none, .iload 4, []) := by decide +kernel
theorem r_Life_measure_38 : P_Life_measure 38 = (none, .invokevirtual 37, []) := by decide +kernel
theorem r_Life_measure_41 : P_Life_measure 41 = (none, .iadd, []) := by decide +kernel
theorem r_Life_measure_42 : P_Life_measure 42 = (none, .putfield 28, []) := by decide +kernel
theorem r_Life_measure_45 : P_Life_measure 45 = (none, .iload 4, []) := by decide +kernel
theorem r_Life_measure_47 : P_Life_measure 47 = (none, .invokestatic 83, []) := by decide +kernel
theorem r_Life_measure_50 : P_Life_measure 50 = (none, .ifCond .eq 31, [81]) := by decide +kernel
theorem r_Life_measure_53 : P_Life_measure 53 = (none, .aload_n 0, []) := by decide +kernel
theorem r_Life_measure_54 : P_Life_measure 54 = (none, .getfield 15, []) := by decide +kernel
theorem r_Life_measure_57 : P_Life_measure 57 = (none, .iload 4, []) := by decide +kernel
theorem r_Life_measure_59 : P_Life_measure 59 = (none, .iload 5, []) := by decide +kernel
theorem r_Life_measure_61 : P_Life_measure 61 = (none, .invokestatic 83, []) := by decide +kernel
theorem r_Life_measure_64 : P_Life_measure 64 = (none, .ifCond .eq 15, [79]) := by decide +kernel
theorem r_Life_measure_67 : P_Life_measure 67 = (none, .aload_n 0, []) := by decide +kernel
theorem r_Life_measure_68 : P_Life_measure 68 = (none, .getfield 15, []) := by decide +kernel
theorem r_Life_measure_71 : P_Life_measure 71 = (none, .iload 5, []) := by decide +kernel
theorem r_Life_measure_73 : P_Life_measure 73 = (none, .iaload, []) := by decide +kernel
theorem r_Life_measure_74 : P_Life_measure 74 = (none, .iconst 1, []) := by decide +kernel
theorem r_Life_measure_75 : P_Life_measure 75 = (none, .iadd, []) := by decide +kernel
theorem r_Life_measure_76 : P_Life_measure 76 = (none, .goto 4, [80]) := by decide +kernel
theorem r_Life_measure_79 : P_Life_measure 79 = (none, .iconst 1, []) := by decide +kernel
theorem r_Life_measure_80 : P_Life_measure 80 = (none, .iastore, []) := by decide +kernel
theorem r_Life_measure_81 : P_Life_measure 81 = (none, .iinc 3 1, []) := by decide +kernel
theorem r_Life_measure_84 : P_Life_measure 84 = (none, .goto (-77), [7]) := by decide +kernel
theorem r_Life_measure_87 : P_Life_measure 87 = (none, .aload_n 2, []) := by decide +kernel
theorem r_Life_measure_88 : P_Life_measure 88 = (none, .invokevirtual 55, []) := by decide +kernel
theorem r_Life_measure_91 : P_Life_measure 91 = (none, .iconst 1, []) := by decide +kernel
theorem r_Life_measure_92 : P_Life_measure 92 = (none, .isub, []) := by decide +kernel
theorem r_Life_measure_93 : P_Life_measure 93 = (none, .istore_n 3, []) := by decide +kernel
theorem r_Life_measure_94 : P_Life_measure 94 = (some [0, 1, 2, 3], .iload_n 3, []) := by decide +kernel
theorem r_Life_measure_95 : P_Life_measure 95 = (none, .ifCond .lt 48, [143]) := by decide +kernel
theorem r_Life_measure_98 : P_Life_measure 98 = (none, .aload_n 2, []) := by decide +kernel
theorem r_Life_measure_99 : P_Life_measure 99 = (none, .iload_n 3, []) := by decide +kernel
theorem r_Life_measure_100 : P_Life_measure 100 = (none, .invokevirtual 59, []) := by decide +kernel
theorem r_Life_measure_103 : P_Life_measure 103 = (none, .istore 4, []) := by decide +kernel
theorem r_Life_measure_105 : P_Life_measure 105 = (none, .aload_n 0, []) := by decide +kernel
theorem r_Life_measure_106 : P_Life_measure 106 = (none, .iload 4, []) := by decide +kernel
theorem r_Life_measure_108 : P_Life_measure 108 = (none, .invokevirtual 73, []) := by decide +kernel
theorem r_Life_measure_111 : P_Life_measure 111 = (none, .istore 5, []) := by decide +kernel
theorem r_Life_measure_113 : P_Life_measure 113 = (none, .iload 5, []) := by decide +kernel
theorem r_Life_measure_115 : P_Life_measure 115 = (none, .invokestatic 83, []) := by decide +kernel
theorem r_Life_measure_118 : P_Life_measure 118 = (none, .ifCond .eq 19, [137]) := by decide +kernel
theorem r_Life_measure_121 : P_Life_measure 121 = (none, .aload_n 0, []) := by decide +kernel
theorem r_Life_measure_122 : P_Life_measure 122 = (none, .getfield 18, []) := by decide +kernel
theorem r_Life_measure_125 : P_Life_measure 125 = (none, .iload 5, []) := by decide +kernel
theorem r_Life_measure_127 : P_Life_measure 127 = (none, .dup2, []) := by decide +kernel
theorem r_Life_measure_128 : P_Life_measure 128 = (none, .iaload, []) := by decide +kernel
theorem r_Life_measure_129 : P_Life_measure 129 = (none, .aload_n 0, []) := by decide +kernel
theorem r_Life_measure_130 : P_Life_measure 130 = (none, .iload 4, []) := by decide +kernel
theorem r_Life_measure_132 : P_Life_measure 132 = (none, .invokevirtual 86, []) := by decide +kernel
theorem r_Life_measure_135 : P_Life_measure 135 = (none, .iadd, []) := by decide +kernel
theorem r_Life_measure_136 : P_Life_measure 136 = (none, .iastore, []) := by decide +kernel
theorem r_Life_measure_137 : P_Life_measure 137 = (none, .iinc 3 (-1), []) := by decide +kernel
theorem r_Life_measure_140 : P_Life_measure 140 = (none, .goto (-46), [94]) := by decide +kernel
theorem r_Life_measure_143 : P_Life_measure 143 = (none, .return_, []) := by decide +kernel
def E_Life_measure : List (Nat × Ent) := [(334, (1, 0, 0, 0, T_PR_isId)), (148, (2, 1, 0, 0, T_Things_sizeOf)), (220, (1, 0, 0, 0, T_Spread_size)), (236, (2, 0, 0, 0, T_Spread_idAt)), (292, (2, 1, 0, 0, T_Life_keeperIdOf)), (344, (2, 2, 0, 0, T_Life_keptOf))]
def X_Life_measure : Cx := (llk (0, 0, 9) ftX2, llk 99 ntX2, llk none kcX2, llk none klX2, llk dEnt E_Life_measure, 3, 3, false)
theorem xok_Life_measure : Xok RX2 X_Life_measure := xok_of ftX2_ok ntX2_ok kcX2_ok klX2_ok (E := E_Life_measure) (List.forall_mem_cons.mpr ⟨co_X2_334, List.forall_mem_cons.mpr ⟨co_X2_148, List.forall_mem_cons.mpr ⟨co_X2_220, List.forall_mem_cons.mpr ⟨co_X2_236, List.forall_mem_cons.mpr ⟨co_X2_292, List.forall_mem_cons.mpr ⟨co_X2_344, fun _ h => absurd h List.not_mem_nil⟩⟩⟩⟩⟩⟩)
theorem xf_Life_measure_15 : xfl X_Life_measure 15 = (2, 1, 1) := by decide +kernel
theorem xf_Life_measure_18 : xfl X_Life_measure 18 = (2, 2, 1) := by decide +kernel
theorem xf_Life_measure_28 : xfl X_Life_measure 28 = (2, 5, 0) := by decide +kernel
theorem xe_Life_measure_334 : xE X_Life_measure (4 * 83 + 2) = (1, 0, 0, 0, T_PR_isId) := rfl
theorem xe_Life_measure_148 : xE X_Life_measure (4 * 37 + 0) = (2, 1, 0, 0, T_Things_sizeOf) := rfl
theorem xe_Life_measure_220 : xE X_Life_measure (4 * 55 + 0) = (1, 0, 0, 0, T_Spread_size) := rfl
theorem xe_Life_measure_236 : xE X_Life_measure (4 * 59 + 0) = (2, 0, 0, 0, T_Spread_idAt) := rfl
theorem xe_Life_measure_292 : xE X_Life_measure (4 * 73 + 0) = (2, 1, 0, 0, T_Life_keeperIdOf) := rfl
theorem xe_Life_measure_344 : xE X_Life_measure (4 * 86 + 0) = (2, 2, 0, 0, T_Life_keptOf) := rfl
theorem xd_Life_measure : xd X_Life_measure = 3 := rfl
theorem xrb_Life_measure : xrb X_Life_measure = 3 := rfl
theorem xin_Life_measure : xin X_Life_measure = false := rfl
set_option maxHeartbeats 4000000 in
set_option maxRecDepth 100000 in
theorem S_Life_measure : Snd yX2_measure cX2_measure 6 none T_Life_measure 3 0 0 := by
  refine snd_of (X := X_Life_measure) (P := P_Life_measure) (tb := tb_Life_measure) (own := RX2) (by decide) rfl rfl (by decide +kernel) xok_Life_measure rfl rk3 (fun h => by first | rfl | cases h) ?_
  intro as M k has hM hT0
  obtain ⟨sz, sl, lay, ρ, σ, τ⟩ := M
  obtain ⟨o, as1, e, hlo, hT1⟩ := mkT_r hT0
  clear hT0
  subst e
  obtain ⟨t, as2, e, hT2⟩ := pR_x hT1
  clear hT1
  subst e
  obtain ⟨w, as3, e, hT3⟩ := pR_x hT2
  clear hT2
  subst e
  obtain ⟨e, hT⟩ := hT3
  subst e
  replace hlo : lay o = (12, 0) := hlo
  clear has
  replace hM : ∀ a i, -2147483648 ≤ σ a i ∧ σ a i ≤ 2147483647 := hM
  replace hT : TF_Life_measure o t w sz sl lay ρ σ τ k := hT
  unfold TF_Life_measure at hT
  obtain ⟨hF, hS, hL, hn, htw, hwo, hs, bp, hI, hK, h2, h3, hT⟩ := hT
  have hto : t + 13 ≤ o := by omega
  obtain ⟨J, hJd⟩ : ∃ J : Nat → List AV → Mm → Prop, J = (fun c vs M1 => (c = 7 ∧ ∃ (i : Int) (σ1 : Nat → Int → Int), (0 ≤ i ∧ i ≤ σ w 3) ∧ Fr σ σ1 o 4 ∧ σ1 (o + 1) = σ (o + 1) ∧ σ1 (o + 3) = σ (o + 3) ∧ (∀ p, 0 ≤ p ∧ p < i → σ1 (o + 2) (σ (w + 1) p) = cntP (fun y => Ch (σ (o + 1)) y (σ (w + 1) p)) (σ t 12).toNat) ∧ (∀ x, 0 ≤ x ∧ x < 600 → (∀ p, 0 ≤ p ∧ p < i → ¬ σ (w + 1) p = x) → σ1 (o + 2) x = 0) ∧ σ1 o 5 = sumP (fun x => ∃ p, (0 ≤ p ∧ p < i) ∧ σ (w + 1) p = x) (σ (t + 5)) (σ t 12).toNat ∧ vs = [vR o, vR t, vR w, vI i] ∧ M1 = (sz, sl, lay, ρ, σ1, τ)) ∨ (c = 94 ∧ ∃ (i : Int) (σ1 : Nat → Int → Int), (-1 ≤ i ∧ i < σ w 3) ∧ Fr σ σ1 o 4 ∧ σ1 (o + 1) = σ (o + 1) ∧ (∀ x, Lv (σ (w + 1)) (σ w 3) x → σ1 (o + 2) x = cntP (fun y => Ch (σ (o + 1)) y (x)) (σ t 12).toNat) ∧ (∀ x, 0 ≤ x ∧ x < 600 → ¬ Lv (σ (w + 1)) (σ w 3) x → σ1 (o + 2) x = 0) ∧ (∀ y, Lv (σ (w + 1)) (σ w 3) y → σ1 (o + 3) y = σ (t + 5) y + sumP (fun x => Kd (σ (o + 1)) (σ (w + 1)) (σ w 3) (i + 1) y x) (σ (t + 5)) (σ t 12).toNat) ∧ σ1 o 5 = sumP (fun x => Lv (σ (w + 1)) (σ w 3) x) (σ (t + 5)) (σ t 12).toNat ∧ vs = [vR o, vR t, vR w, vI i] ∧ M1 = (sz, sl, lay, ρ, σ1, τ))) := ⟨_, rfl⟩
  obtain ⟨μ, hμ⟩ : ∃ μ : Nat → List AV → Mm → Nat, μ = (fun c vs _ => if c = 7 then (2000 - gI (vs.getD 3 vN)).toNat else (gI (vs.getD 3 vN) + 1).toNat) := ⟨_, rfl⟩
  refine ⟨Nat.le_of_ble_eq_true rfl, J, μ, 84, ?_, ?_⟩
  · obtain ⟨fh, fp0, fp1, fp2, fp3, fq0, fq1, fq2, fq3⟩ := (show LLife lay ρ _ from hF)
    obtain ⟨sh, sp0, sp1, sp2, sq0, sq1, sq2⟩ := (show LSpread lay ρ _ from hS)
    obtain ⟨lh, lp0, lp1, lp2, lp3, lp4, lp5, lp6, lp7, lp8, lp9, lp10, lp11, lq0, lq1, lq2, lq3, lq4, lq5, lq6, lq7, lq8, lq9, lq10, lq11⟩ := (show LThings lay ρ _ from hL)
    unfold wps
    simp only [si_iload_n0, si_iload_n1, si_iload_n2, si_iload_n3, si_iload, si_lload_n0, si_lload_n1, si_lload_n2, si_lload_n3, si_lload, si_aload_n0, si_aload_n1, si_aload_n2, si_aload_n3, si_aload, si_istore_n0, si_istore_n1, si_istore_n2, si_istore_n3, si_istore, si_astore_n0, si_astore_n1, si_astore_n2, si_astore_n3, si_astore, si_lstore_n0, si_lstore_n1, si_lstore_n2, si_lstore_n3, si_lstore, si_iconst, si_bipush, si_sipush, si_ldc, si_ldc2_w, si_lconst0, si_lconst1, si_aconst_null, si_iinc, si_dup, si_dup2, si_iadd, si_isub, si_imul, si_idiv, si_irem, si_iand, si_ior, si_ishl, si_ishr, si_ladd, si_lmul, si_lor, si_lxor, si_lshl, si_lushr, si_lcmp, si_i2b, si_i2l, si_l2i, si_icmp_eq, si_icmp_ne, si_icmp_lt, si_icmp_ge, si_icmp_gt, si_icmp_le, si_if_eq, si_if_ne, si_if_lt, si_if_ge, si_if_gt, si_if_le, si_ifnull, si_ifnonnull, si_goto, si_tableswitch, si_lookupswitch, si_getfield, si_putfield, si_getstatic, si_iaload, si_baload, si_laload, si_aaload, si_iastore, si_bastore, si_lastore, si_aastore, si_arraylength, si_new, si_newarray, si_anewarray, si_invokevirtual, si_invokespecial, si_invokestatic, si_ireturn, si_lreturn, si_areturn, si_return_, pI_e, pL_e, pR_e, pA_r, pA_n, pN_n, pN_r, oI_e, oL_e, oA_r, oA_n, lget_e, lrm1_0, lrm2_0, lrm1_i, lrm1_r, lrm1_n, lrm1_l, lrm2_i, lrm2_r, lrm2_n, lrm2_l, popN_0, popN_s, acat_i, acat_l, acat_r, acat_n, stw_0, stw_s, psh_s, psh_n, wgf_r, wgf_i, wgf_b, wgf_n, wgf_m, wpf_i, wpf_r, wpf_b, wnew_e, callE_e, rbk_0, rbk_1, tsw_0, tsw_s, lsw_0, lsw_s, wp_s, wq_t, wq_f, oV_e, pick_0, pick_s, oZ_e, oY_e, r_Life_measure_0, r_Life_measure_1, r_Life_measure_2, r_Life_measure_5, r_Life_measure_6, r_Life_measure_7, r_Life_measure_8, r_Life_measure_9, r_Life_measure_12, r_Life_measure_15, r_Life_measure_16, r_Life_measure_17, r_Life_measure_20, r_Life_measure_22, r_Life_measure_23, r_Life_measure_25, r_Life_measure_28, r_Life_measure_30, r_Life_measure_31, r_Life_measure_32, r_Life_measure_35, r_Life_measure_36, r_Life_measure_38, r_Life_measure_41, r_Life_measure_42, r_Life_measure_45, r_Life_measure_47, r_Life_measure_50, r_Life_measure_53, r_Life_measure_54, r_Life_measure_57, r_Life_measure_59, r_Life_measure_61, r_Life_measure_64, r_Life_measure_67, r_Life_measure_68, r_Life_measure_71, r_Life_measure_73, r_Life_measure_74, r_Life_measure_75, r_Life_measure_76, r_Life_measure_79, r_Life_measure_80, r_Life_measure_81, r_Life_measure_84, r_Life_measure_87, r_Life_measure_88, r_Life_measure_91, r_Life_measure_92, r_Life_measure_93, r_Life_measure_94, r_Life_measure_95, r_Life_measure_98, r_Life_measure_99, r_Life_measure_100, r_Life_measure_103, r_Life_measure_105, r_Life_measure_106, r_Life_measure_108, r_Life_measure_111, r_Life_measure_113, r_Life_measure_115, r_Life_measure_118, r_Life_measure_121, r_Life_measure_122, r_Life_measure_125, r_Life_measure_127, r_Life_measure_128, r_Life_measure_129, r_Life_measure_130, r_Life_measure_132, r_Life_measure_135, r_Life_measure_136, r_Life_measure_137, r_Life_measure_140, r_Life_measure_143, xf_Life_measure_15, xf_Life_measure_18, xf_Life_measure_28, xe_Life_measure_334, xe_Life_measure_148, xe_Life_measure_220, xe_Life_measure_236, xe_Life_measure_292, xe_Life_measure_344, xd_Life_measure, xrb_Life_measure, xin_Life_measure, T_PR_isId_e, TF_PR_isId, T_Things_sizeOf_e, TF_Things_sizeOf, T_Spread_size_e, TF_Spread_size, T_Spread_idAt_e, TF_Spread_idAt, T_Life_keeperIdOf_e, TF_Life_keeperIdOf, T_Life_keptOf_e, TF_Life_keptOf, fu_f1, fu_f2, fu_f3, fu_f4, hto, fu_g1, fu_g2, hwo, fh, fp0, fp1, fp2, fp3, fq0, fq1, fq2, fq3, sh, sp0, sp1, sp2, sq0, sq1, sq2, lh, lp0, lp1, lp2, lp3, lp4, lp5, lp6, lp7, lp8, lp9, lp10, lp11, lq0, lq1, lq2, lq3, lq4, lq5, lq6, lq7, lq8, lq9, lq10, lq11, Nat.reduceAdd, Nat.reduceMul, Nat.reduceEqDiff, reduceIte, Int.reduceNeg, Int.reduceLE, Int.reduceLT, Int.reduceAdd, Int.reduceSub, Int.reduceToNat, true_and, and_true, inR_e, Nat.reduceLT, Nat.reduceLeDiff, reduceCtorEq, Nat.add_zero, Nat.zero_add, or_false, false_or, or_true, true_or, not_true_eq_false, not_false_eq_true, Classical.not_not, Nat.add_eq_zero_iff, and_false, false_and, Int.reduceEq, List.mem_cons, List.not_mem_nil, forall_eq_or_imp, forall_eq, false_implies, implies_true, forall_const, aargs_0, aargs_i, aargs_r, aargs_l, aargs_n, nfT_e, eq_self, and_self, Nat.le_refl, fu_s, fu_fu, iu_iu, iu_s, fu_am, fu_a0, fu_0a, iu_l, Nat.reduceBEq, Int.reduceBEq, T_objInit_e]
    clear fp0 fp1 fp2 fp3 sp0 sp1 sp2 lp0 lp1 lp2 lp3 lp4 lp5 lp6 lp7 lp8 lp9 lp10 lp11
    rw [hJd]
    have hc := hI.ha
    exact Or.inl ⟨rfl, 0, _, by omega, Fr.rfl'.fu (by omega), fu_0a (by decide), fu_0a (by decide), fun p hp => by omega, fun x hx _ => by rw [fu_0a (by decide)]; exact h2 x hx, by rw [fu_s, iu_s]; exact (sumP_0 _ (fun x _ z => by obtain ⟨p, hp, -⟩ := z; omega)).symm, rfl, rfl⟩
  · intro cp vs M1 hvs hM1 hlen hJ
    rw [hJd] at hJ
    have hc := hI.ha
    have hcn := hI.cn hn.1
    have sb : ∀ P : Int → Prop, 0 ≤ sumP P (σ (t + 5)) (σ t 12).toNat ∧ sumP P (σ (t + 5)) (σ t 12).toNat ≤ 60000000 := by
      intro P
      have := sumP_R (P := P) (f := σ (t + 5)) (m := 100000) (N := (σ t 12).toNat) (by omega) (fun x hx => hs x (by omega))
      omega
    rcases hJ with ⟨rfl, i, σ1, g1, g2, g3, g4, g5, g6, g7, rfl, rfl⟩ | ⟨rfl, i, σ1, g1, g2, g3, g4, g5, g6, g7, rfl, rfl⟩
    · have e0 : σ1 t = σ t := g2.lo (by omega)
      have e5 : σ1 (t + 5) = σ (t + 5) := g2.lo (by omega)
      have ew : σ1 w = σ w := g2.lo (by omega)
      have ew1 : σ1 (w + 1) = σ (w + 1) := g2.lo (by omega)
      have b7 := sb (fun x => ∃ p, (0 ≤ p ∧ p < i) ∧ σ (w + 1) p = x)
      rw [← g7] at b7
      (obtain ⟨fh, fp0, fp1, fp2, fp3, fq0, fq1, fq2, fq3⟩ := (show LLife lay ρ _ from hF); obtain ⟨sh, sp0, sp1, sp2, sq0, sq1, sq2⟩ := (show LSpread lay ρ _ from hS); obtain ⟨lh, lp0, lp1, lp2, lp3, lp4, lp5, lp6, lp7, lp8, lp9, lp10, lp11, lq0, lq1, lq2, lq3, lq4, lq5, lq6, lq7, lq8, lq9, lq10, lq11⟩ := (show LThings lay ρ _ from hL); unfold wps; simp only [Option.getD_some, List.zip_cons_cons, List.zip_nil_left, List.zip_nil_right, List.zip_nil_right, e0, e5, ew, ew1, g3, si_iload_n0, si_iload_n1, si_iload_n2, si_iload_n3, si_iload, si_lload_n0, si_lload_n1, si_lload_n2, si_lload_n3, si_lload, si_aload_n0, si_aload_n1, si_aload_n2, si_aload_n3, si_aload, si_istore_n0, si_istore_n1, si_istore_n2, si_istore_n3, si_istore, si_astore_n0, si_astore_n1, si_astore_n2, si_astore_n3, si_astore, si_lstore_n0, si_lstore_n1, si_lstore_n2, si_lstore_n3, si_lstore, si_iconst, si_bipush, si_sipush, si_ldc, si_ldc2_w, si_lconst0, si_lconst1, si_aconst_null, si_iinc, si_dup, si_dup2, si_iadd, si_isub, si_imul, si_idiv, si_irem, si_iand, si_ior, si_ishl, si_ishr, si_ladd, si_lmul, si_lor, si_lxor, si_lshl, si_lushr, si_lcmp, si_i2b, si_i2l, si_l2i, si_icmp_eq, si_icmp_ne, si_icmp_lt, si_icmp_ge, si_icmp_gt, si_icmp_le, si_if_eq, si_if_ne, si_if_lt, si_if_ge, si_if_gt, si_if_le, si_ifnull, si_ifnonnull, si_goto, si_tableswitch, si_lookupswitch, si_getfield, si_putfield, si_getstatic, si_iaload, si_baload, si_laload, si_aaload, si_iastore, si_bastore, si_lastore, si_aastore, si_arraylength, si_new, si_newarray, si_anewarray, si_invokevirtual, si_invokespecial, si_invokestatic, si_ireturn, si_lreturn, si_areturn, si_return_, pI_e, pL_e, pR_e, pA_r, pA_n, pN_n, pN_r, oI_e, oL_e, oA_r, oA_n, lget_e, lrm1_0, lrm2_0, lrm1_i, lrm1_r, lrm1_n, lrm1_l, lrm2_i, lrm2_r, lrm2_n, lrm2_l, popN_0, popN_s, acat_i, acat_l, acat_r, acat_n, stw_0, stw_s, psh_s, psh_n, wgf_r, wgf_i, wgf_b, wgf_n, wgf_m, wpf_i, wpf_r, wpf_b, wnew_e, callE_e, rbk_0, rbk_1, tsw_0, tsw_s, lsw_0, lsw_s, wp_s, wq_t, wq_f, oV_e, pick_0, pick_s, oZ_e, oY_e, r_Life_measure_0, r_Life_measure_1, r_Life_measure_2, r_Life_measure_5, r_Life_measure_6, r_Life_measure_7, r_Life_measure_8, r_Life_measure_9, r_Life_measure_12, r_Life_measure_15, r_Life_measure_16, r_Life_measure_17, r_Life_measure_20, r_Life_measure_22, r_Life_measure_23, r_Life_measure_25, r_Life_measure_28, r_Life_measure_30, r_Life_measure_31, r_Life_measure_32, r_Life_measure_35, r_Life_measure_36, r_Life_measure_38, r_Life_measure_41, r_Life_measure_42, r_Life_measure_45, r_Life_measure_47, r_Life_measure_50, r_Life_measure_53, r_Life_measure_54, r_Life_measure_57, r_Life_measure_59, r_Life_measure_61, r_Life_measure_64, r_Life_measure_67, r_Life_measure_68, r_Life_measure_71, r_Life_measure_73, r_Life_measure_74, r_Life_measure_75, r_Life_measure_76, r_Life_measure_79, r_Life_measure_80, r_Life_measure_81, r_Life_measure_84, r_Life_measure_87, r_Life_measure_88, r_Life_measure_91, r_Life_measure_92, r_Life_measure_93, r_Life_measure_94, r_Life_measure_95, r_Life_measure_98, r_Life_measure_99, r_Life_measure_100, r_Life_measure_103, r_Life_measure_105, r_Life_measure_106, r_Life_measure_108, r_Life_measure_111, r_Life_measure_113, r_Life_measure_115, r_Life_measure_118, r_Life_measure_121, r_Life_measure_122, r_Life_measure_125, r_Life_measure_127, r_Life_measure_128, r_Life_measure_129, r_Life_measure_130, r_Life_measure_132, r_Life_measure_135, r_Life_measure_136, r_Life_measure_137, r_Life_measure_140, r_Life_measure_143, xf_Life_measure_15, xf_Life_measure_18, xf_Life_measure_28, xe_Life_measure_334, xe_Life_measure_148, xe_Life_measure_220, xe_Life_measure_236, xe_Life_measure_292, xe_Life_measure_344, xd_Life_measure, xrb_Life_measure, xin_Life_measure, T_PR_isId_e, TF_PR_isId, T_Things_sizeOf_e, TF_Things_sizeOf, T_Spread_size_e, TF_Spread_size, T_Spread_idAt_e, TF_Spread_idAt, T_Life_keeperIdOf_e, TF_Life_keeperIdOf, T_Life_keptOf_e, TF_Life_keptOf, fu_f1, fu_f2, fu_f3, fu_f4, hto, fu_g1, fu_g2, hwo, fh, fp0, fp1, fp2, fp3, fq0, fq1, fq2, fq3, sh, sp0, sp1, sp2, sq0, sq1, sq2, lh, lp0, lp1, lp2, lp3, lp4, lp5, lp6, lp7, lp8, lp9, lp10, lp11, lq0, lq1, lq2, lq3, lq4, lq5, lq6, lq7, lq8, lq9, lq10, lq11, Nat.reduceAdd, Nat.reduceMul, Nat.reduceEqDiff, reduceIte, Int.reduceNeg, Int.reduceLE, Int.reduceLT, Int.reduceAdd, Int.reduceSub, Int.reduceToNat, true_and, and_true, inR_e, Nat.reduceLT, Nat.reduceLeDiff, reduceCtorEq, Nat.add_zero, Nat.zero_add, or_false, false_or, or_true, true_or, not_true_eq_false, not_false_eq_true, Classical.not_not, Nat.add_eq_zero_iff, and_false, false_and, Int.reduceEq, List.mem_cons, List.not_mem_nil, forall_eq_or_imp, forall_eq, false_implies, implies_true, forall_const, aargs_0, aargs_i, aargs_r, aargs_l, aargs_n, nfT_e, eq_self, and_self, Nat.le_refl, fu_s, fu_fu, iu_iu, iu_s, fu_am, fu_a0, fu_0a, iu_l, Nat.reduceBEq, Int.reduceBEq, T_objInit_e]; clear fp0 fp1 fp2 fp3 sp0 sp1 sp2 lp0 lp1 lp2 lp3 lp4 lp5 lp6 lp7 lp8 lp9 lp10 lp11)
      refine ⟨fun h => ⟨by omega, ?_, (by rw [hμ]; simp only [gI_e, List.getD_cons_succ, List.getD_cons_zero, Nat.reduceEqDiff, reduceIte]; omega)⟩, fun h => ⟨hS, by omega, fun _ => ?_, fun z => absurd z (by omega)⟩⟩
      · rw [hJd]
        refine Or.inr ⟨rfl, σ w 3 - 1, σ1, by omega, g2, g3, fun x hx => ?_, fun x hx hx2 => g6 x hx (fun p hp e => hx2 ⟨p, by omega, e⟩), fun y hy => ?_, ?_, rfl, rfl⟩
        · obtain ⟨p, hp, e⟩ := hx
          rw [← e]; exact g5 p (by omega)
        · rw [g4, h3 y (hI.lv_R hy), sumP_0 _ (fun x _ z => by obtain ⟨-, q, hq, -⟩ := z; omega)]
          omega
        · rw [g7]
          exact sumP_c (fun x _ => ⟨fun ⟨p, hp, e⟩ => ⟨p, by omega, e⟩, fun ⟨p, hp, e⟩ => ⟨p, by omega, e⟩⟩) (fun _ _ => rfl)
      · have hx := (hI.hp i (by omega)).1
        have hsx := hs _ hx
        have lvx : Lv (σ (w + 1)) (σ w 3) (σ (w + 1) i) := ⟨i, by omega, rfl⟩
        have kx := hK _ lvx
        have stp : ∀ h : Int, h = cntP (fun y => Ch (σ (o + 1)) y (σ (w + 1) i)) (σ t 12).toNat → J 7 [vR o, vR t, vR w, vI (i + 1)] (sz, sl, lay, ρ, fu (fu σ1 o (iu (σ1 o) 5 (σ1 o 5 + σ (t + 5) (σ (w + 1) i)))) (o + 2) (iu (σ1 (o + 2)) (σ (w + 1) i) h), τ) := by
          intro h hh
          rw [hJd]
          refine Or.inl ⟨rfl, i + 1, _, by omega, (g2.fu (by omega)).fu (by omega), by rw [fu_am (by decide), fu_0a (by decide)]; exact g3, by rw [fu_am (by decide), fu_0a (by decide)]; exact g4, fun p hp => ?_, fun x hx2 hp => ?_, ?_, rfl, rfl⟩
          · rw [fu_s]
            by_cases e : p = i
            · rw [e, iu_s]; exact hh
            · rw [iu_n (hI.ho p i (by omega)).1]
              exact g5 p (by omega)
          · rw [fu_s, iu_n (fun z => hp i (by omega) z.symm)]
            exact g6 x hx2 (fun p hp2 => hp p (by omega))
          · rw [fu_a0 (by decide), fu_s, iu_s, g7]
            refine (sumP_in (v := σ (w + 1) i) (by omega) (fun x _ => ?_) (fun z => ?_)).symm
            · constructor
              · intro ⟨p, hp, e⟩
                by_cases ep : p = i
                · rw [ep] at e; exact Or.inr e.symm
                · exact Or.inl ⟨p, by omega, e⟩
              · intro z
                rcases z with ⟨p, hp, e⟩ | z
                · exact ⟨p, by omega, e⟩
                · exact ⟨i, by omega, z.symm⟩
            · obtain ⟨p, hp, e⟩ := z
              exact (hI.ho p i (by omega)).1 e
        have kk : σ (o + 1) (σ (w + 1) i) = -1 ∨ (0 ≤ σ (o + 1) (σ (w + 1) i) ∧ σ (o + 1) (σ (w + 1) i) < 600) := by
          by_cases e : σ (o + 1) (σ (w + 1) i) = -1
          · exact Or.inl e
          · obtain ⟨b, hb, eb⟩ := hK.pos hI (q := i) (by omega) e
            have hb2 := (hI.hp b (by omega)).1
            rw [eb] at hb2
            exact Or.inr (by omega)
        refine ⟨hF, fun _ => ⟨hL, hn, fun _ => ⟨by omega, fun _ => ⟨fun a => ?_, fun a => ⟨by omega, by omega, by omega, stp 1 (KI.h1 hI lvx (by omega)).symm, (by rw [hμ]; simp only [gI_e, List.getD_cons_succ, List.getD_cons_zero, Nat.reduceEqDiff, reduceIte]; omega)⟩⟩, fun z => absurd z (by omega)⟩, fun z => absurd hx z⟩, fun z => absurd z (by omega)⟩
        obtain ⟨b, hb, eb⟩ := hK.pos hI (q := i) (by omega) (by omega)
        have hb2 := (hI.hp b (by omega)).1
        have h5 := g5 b (by omega)
        rw [eb] at h5 hb2
        have h6 := KI.h2 hI hK lvx
        have h7 := @cntP_R (fun y => Ch (σ (o + 1)) y (σ (o + 1) (σ (w + 1) i))) (σ t 12).toNat
        exact ⟨by omega, by omega, by omega, by omega, by omega, by omega, stp _ (by rw [h5, h6]), (by rw [hμ]; simp only [gI_e, List.getD_cons_succ, List.getD_cons_zero, Nat.reduceEqDiff, reduceIte]; omega)⟩
    · have e0 : σ1 t = σ t := g2.lo (by omega)
      have e5 : σ1 (t + 5) = σ (t + 5) := g2.lo (by omega)
      have ew : σ1 w = σ w := g2.lo (by omega)
      have ew1 : σ1 (w + 1) = σ (w + 1) := g2.lo (by omega)
      (obtain ⟨fh, fp0, fp1, fp2, fp3, fq0, fq1, fq2, fq3⟩ := (show LLife lay ρ _ from hF); obtain ⟨sh, sp0, sp1, sp2, sq0, sq1, sq2⟩ := (show LSpread lay ρ _ from hS); obtain ⟨lh, lp0, lp1, lp2, lp3, lp4, lp5, lp6, lp7, lp8, lp9, lp10, lp11, lq0, lq1, lq2, lq3, lq4, lq5, lq6, lq7, lq8, lq9, lq10, lq11⟩ := (show LThings lay ρ _ from hL); unfold wps; simp only [Option.getD_some, List.zip_cons_cons, List.zip_nil_left, List.zip_nil_right, List.zip_nil_right, e0, e5, ew, ew1, g3, si_iload_n0, si_iload_n1, si_iload_n2, si_iload_n3, si_iload, si_lload_n0, si_lload_n1, si_lload_n2, si_lload_n3, si_lload, si_aload_n0, si_aload_n1, si_aload_n2, si_aload_n3, si_aload, si_istore_n0, si_istore_n1, si_istore_n2, si_istore_n3, si_istore, si_astore_n0, si_astore_n1, si_astore_n2, si_astore_n3, si_astore, si_lstore_n0, si_lstore_n1, si_lstore_n2, si_lstore_n3, si_lstore, si_iconst, si_bipush, si_sipush, si_ldc, si_ldc2_w, si_lconst0, si_lconst1, si_aconst_null, si_iinc, si_dup, si_dup2, si_iadd, si_isub, si_imul, si_idiv, si_irem, si_iand, si_ior, si_ishl, si_ishr, si_ladd, si_lmul, si_lor, si_lxor, si_lshl, si_lushr, si_lcmp, si_i2b, si_i2l, si_l2i, si_icmp_eq, si_icmp_ne, si_icmp_lt, si_icmp_ge, si_icmp_gt, si_icmp_le, si_if_eq, si_if_ne, si_if_lt, si_if_ge, si_if_gt, si_if_le, si_ifnull, si_ifnonnull, si_goto, si_tableswitch, si_lookupswitch, si_getfield, si_putfield, si_getstatic, si_iaload, si_baload, si_laload, si_aaload, si_iastore, si_bastore, si_lastore, si_aastore, si_arraylength, si_new, si_newarray, si_anewarray, si_invokevirtual, si_invokespecial, si_invokestatic, si_ireturn, si_lreturn, si_areturn, si_return_, pI_e, pL_e, pR_e, pA_r, pA_n, pN_n, pN_r, oI_e, oL_e, oA_r, oA_n, lget_e, lrm1_0, lrm2_0, lrm1_i, lrm1_r, lrm1_n, lrm1_l, lrm2_i, lrm2_r, lrm2_n, lrm2_l, popN_0, popN_s, acat_i, acat_l, acat_r, acat_n, stw_0, stw_s, psh_s, psh_n, wgf_r, wgf_i, wgf_b, wgf_n, wgf_m, wpf_i, wpf_r, wpf_b, wnew_e, callE_e, rbk_0, rbk_1, tsw_0, tsw_s, lsw_0, lsw_s, wp_s, wq_t, wq_f, oV_e, pick_0, pick_s, oZ_e, oY_e, r_Life_measure_0, r_Life_measure_1, r_Life_measure_2, r_Life_measure_5, r_Life_measure_6, r_Life_measure_7, r_Life_measure_8, r_Life_measure_9, r_Life_measure_12, r_Life_measure_15, r_Life_measure_16, r_Life_measure_17, r_Life_measure_20, r_Life_measure_22, r_Life_measure_23, r_Life_measure_25, r_Life_measure_28, r_Life_measure_30, r_Life_measure_31, r_Life_measure_32, r_Life_measure_35, r_Life_measure_36, r_Life_measure_38, r_Life_measure_41, r_Life_measure_42, r_Life_measure_45, r_Life_measure_47, r_Life_measure_50, r_Life_measure_53, r_Life_measure_54, r_Life_measure_57, r_Life_measure_59, r_Life_measure_61, r_Life_measure_64, r_Life_measure_67, r_Life_measure_68, r_Life_measure_71, r_Life_measure_73, r_Life_measure_74, r_Life_measure_75, r_Life_measure_76, r_Life_measure_79, r_Life_measure_80, r_Life_measure_81, r_Life_measure_84, r_Life_measure_87, r_Life_measure_88, r_Life_measure_91, r_Life_measure_92, r_Life_measure_93, r_Life_measure_94, r_Life_measure_95, r_Life_measure_98, r_Life_measure_99, r_Life_measure_100, r_Life_measure_103, r_Life_measure_105, r_Life_measure_106, r_Life_measure_108, r_Life_measure_111, r_Life_measure_113, r_Life_measure_115, r_Life_measure_118, r_Life_measure_121, r_Life_measure_122, r_Life_measure_125, r_Life_measure_127, r_Life_measure_128, r_Life_measure_129, r_Life_measure_130, r_Life_measure_132, r_Life_measure_135, r_Life_measure_136, r_Life_measure_137, r_Life_measure_140, r_Life_measure_143, xf_Life_measure_15, xf_Life_measure_18, xf_Life_measure_28, xe_Life_measure_334, xe_Life_measure_148, xe_Life_measure_220, xe_Life_measure_236, xe_Life_measure_292, xe_Life_measure_344, xd_Life_measure, xrb_Life_measure, xin_Life_measure, T_PR_isId_e, TF_PR_isId, T_Things_sizeOf_e, TF_Things_sizeOf, T_Spread_size_e, TF_Spread_size, T_Spread_idAt_e, TF_Spread_idAt, T_Life_keeperIdOf_e, TF_Life_keeperIdOf, T_Life_keptOf_e, TF_Life_keptOf, fu_f1, fu_f2, fu_f3, fu_f4, hto, fu_g1, fu_g2, hwo, fh, fp0, fp1, fp2, fp3, fq0, fq1, fq2, fq3, sh, sp0, sp1, sp2, sq0, sq1, sq2, lh, lp0, lp1, lp2, lp3, lp4, lp5, lp6, lp7, lp8, lp9, lp10, lp11, lq0, lq1, lq2, lq3, lq4, lq5, lq6, lq7, lq8, lq9, lq10, lq11, Nat.reduceAdd, Nat.reduceMul, Nat.reduceEqDiff, reduceIte, Int.reduceNeg, Int.reduceLE, Int.reduceLT, Int.reduceAdd, Int.reduceSub, Int.reduceToNat, true_and, and_true, inR_e, Nat.reduceLT, Nat.reduceLeDiff, reduceCtorEq, Nat.add_zero, Nat.zero_add, or_false, false_or, or_true, true_or, not_true_eq_false, not_false_eq_true, Classical.not_not, Nat.add_eq_zero_iff, and_false, false_and, Int.reduceEq, List.mem_cons, List.not_mem_nil, forall_eq_or_imp, forall_eq, false_implies, implies_true, forall_const, aargs_0, aargs_i, aargs_r, aargs_l, aargs_n, nfT_e, eq_self, and_self, Nat.le_refl, fu_s, fu_fu, iu_iu, iu_s, fu_am, fu_a0, fu_0a, iu_l, Nat.reduceBEq, Int.reduceBEq, T_objInit_e]; clear fp0 fp1 fp2 fp3 sp0 sp1 sp2 lp0 lp1 lp2 lp3 lp4 lp5 lp6 lp7 lp8 lp9 lp10 lp11)
      refine ⟨fun h => ?_, fun h => ⟨hS, by omega, fun _ => ?_, fun z => absurd z (by omega)⟩⟩
      · refine hT σ1 g2 g3 g4 g5 (fun y hy => ?_) g7
        obtain ⟨a, ha, e⟩ := hy
        rw [← e, g6 _ ⟨a, ha, rfl⟩]
        have ha1 := (hI.hp a ha).1
        rw [sumP_in (R := fun x => Lv (σ (w + 1)) (σ w 3) x ∧ Ch (σ (o + 1)) (σ (w + 1) a) x) (P := fun x => Kd (σ (o + 1)) (σ (w + 1)) (σ w 3) (i + 1) (σ (w + 1) a) x) (v := σ (w + 1) a) (by omega) (fun x _ => Kd.all hI hK ha (by omega)) (Kd.nx hI hK ha (by omega))]
        omega
      · have ha : 0 ≤ i ∧ i < σ w 3 := by omega
        have hx := (hI.hp i ha).1
        have hsx := hs _ hx
        have lvx : Lv (σ (w + 1)) (σ w 3) (σ (w + 1) i) := ⟨i, ha, rfl⟩
        have e1 : i + -1 + 1 = i := by omega
        have kk : σ (o + 1) (σ (w + 1) i) = -1 ∨ (0 ≤ σ (o + 1) (σ (w + 1) i) ∧ σ (o + 1) (σ (w + 1) i) < 600) := by
          by_cases e : σ (o + 1) (σ (w + 1) i) = -1
          · exact Or.inl e
          · obtain ⟨b, hb, eb⟩ := hK.pos hI (q := i) ha e
            have hb2 := (hI.hp b (by omega)).1
            rw [eb] at hb2
            exact Or.inr (by omega)
        have hgt : 0 < σ1 (o + 2) (σ (w + 1) i) := by
          have h6 := KI.h2 hI hK lvx
          have h7 := @cntP_R (fun y => Ch (σ (o + 1)) y (σ (o + 1) (σ (w + 1) i))) (σ t 12).toNat
          rw [g4 _ lvx]
          omega
        refine ⟨hF, fun _ => ⟨fun a => ?_, fun a => ⟨by omega, ?_, (by rw [hμ]; simp only [gI_e, List.getD_cons_succ, List.getD_cons_zero, Nat.reduceEqDiff, reduceIte]; omega)⟩⟩, fun z => absurd z (by omega)⟩
        rotate_left
        · have a : σ (o + 1) (σ (w + 1) i) = -1 := by omega
          rw [hJd]
          refine Or.inr ⟨rfl, i + -1, σ1, by omega, g2, g3, g4, g5, fun y hy => ?_, g7, rfl, rfl⟩
          rw [g6 y hy, e1]
          congr 1
          refine sumP_c (fun x _ => ?_) (fun _ _ => rfl)
          rw [Kd.st hI ha]
          have hy0 := hI.lv_R hy
          exact ⟨Or.inl, fun z => z.elim id (fun z => by rw [a] at z; omega)⟩
        · obtain ⟨b, hb, eb⟩ := hK.pos hI (q := i) ha (by omega)
          have hb2 := (hI.hp b (by omega)).1
          have lvk : Lv (σ (w + 1)) (σ w 3) (σ (o + 1) (σ (w + 1) i)) := ⟨b, by omega, eb⟩
          rw [eb] at hb2
          have hsk := hs _ hb2
          have b1 := sb (fun x => Kd (σ (o + 1)) (σ (w + 1)) (σ w 3) (i + 1) (σ (o + 1) (σ (w + 1) i)) x)
          have b2 := sb (fun x => Kd (σ (o + 1)) (σ (w + 1)) (σ w 3) (i + 1) (σ (w + 1) i) x)
          have q1 := g6 _ lvk
          have q2 := g6 _ lvx
          have r1 := sumP_in (R := fun x => Lv (σ (w + 1)) (σ w 3) x ∧ Ch (σ (o + 1)) (σ (w + 1) i) x) (P := fun x => Kd (σ (o + 1)) (σ (w + 1)) (σ w 3) (i + 1) (σ (w + 1) i) x) (f := σ (t + 5)) (N := (σ t 12).toNat) (v := σ (w + 1) i) (by omega) (fun x _ => Kd.all hI hK ha (by omega)) (Kd.nx hI hK ha (by omega))
          have r2 := sumP_or (R := fun x => Kd (σ (o + 1)) (σ (w + 1)) (σ w 3) i (σ (o + 1) (σ (w + 1) i)) x) (P := fun x => Kd (σ (o + 1)) (σ (w + 1)) (σ w 3) (i + 1) (σ (o + 1) (σ (w + 1) i)) x) (Q := fun x => Lv (σ (w + 1)) (σ w 3) x ∧ Ch (σ (o + 1)) (σ (w + 1) i) x) (f := σ (t + 5)) (N := (σ t 12).toNat) (fun x _ => by
            rw [Kd.st hI ha]
            exact ⟨fun z => z.elim Or.inl (fun z => Or.inr z.2), fun z => z.elim Or.inl (fun z => Or.inr ⟨rfl, z⟩)⟩) (fun x _ z1 z2 => Kd.dj hI hK ha z1 z2.2)
          refine ⟨by omega, by omega, hF, fun _ => ⟨by omega, by omega, by omega, by omega, ?_, (by rw [hμ]; simp only [gI_e, List.getD_cons_succ, List.getD_cons_zero, Nat.reduceEqDiff, reduceIte]; omega)⟩, fun z => absurd ⟨hx.1, by omega, hgt⟩ z⟩
          rw [hJd]
          refine Or.inr ⟨rfl, i + -1, _, by omega, g2.fu (by omega), by rw [fu_am (by decide)]; exact g3, fun x hx => by rw [fu_am (by decide)]; exact g4 x hx, fun x hx hx2 => by rw [fu_am (by decide)]; exact g5 x hx hx2, fun y hy => ?_, by rw [fu_a0 (by decide)]; exact g7, rfl, rfl⟩
          rw [fu_s, e1]
          by_cases ey : y = σ (o + 1) (σ (w + 1) i)
          · rw [ey, iu_s]
            omega
          · rw [iu_n ey, g6 y hy]
            congr 1
            refine sumP_c (fun x _ => ?_) (fun _ _ => rfl)
            rw [Kd.st hI ha]
            exact ⟨Or.inl, fun z => z.elim id (fun z => absurd z.1.symm ey)⟩

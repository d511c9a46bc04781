/-- the places behind i, up to c, moved by one -/
def shf (L : Int → Int) (i c : Int) : Int → Int := fun p => if i < p ∧ p ≤ c then L (p - 1) else L p
theorem shf_c (L : Int → Int) (c : Int) : shf L c c = L := by
  funext p
  unfold shf
  rw [if_neg (by omega)]
theorem shf_lo {L : Int → Int} {i c p : Int} (h : p ≤ i) : shf L i c p = L p := by
  unfold shf
  rw [if_neg (by omega)]
theorem shf_m1 {L : Int → Int} {i c : Int} : shf L i c (i - 1) = L (i - 1) := shf_lo (by omega)
theorem shf_step {L : Int → Int} {i c : Int} (h : i ≤ c) : iu (shf L i c) i (L (i - 1)) = shf L (i - 1) c := by
  funext p
  unfold iu shf
  by_cases e : p = i
  · rw [if_pos e, if_pos (by omega), e]
  · rw [if_neg e]
    by_cases g : i < p ∧ p ≤ c
    · rw [if_pos g, if_pos (by omega)]
    · rw [if_neg g, if_neg (by omega)]
def insA (L : Int → Int) (i c x : Int) : Int → Int := iu (shf L i c) i x
def spE (σ : Nat → Int → Int) (o : Nat) (i x q D : Int) : Nat → Int → Int := fu (fu (fu (fu σ (o + 1) (insA (σ (o + 1)) i (σ o 3) x)) o (iu (σ o) 3 (σ o 3 + 1))) (o + 3) (iu (σ (o + 3)) x q)) (o + 2) (iu (σ (o + 2)) x D)
theorem co_X5_224 : CallOK RX5 (.invokevirtual 56) (2, 1, 0, 0, T_Spread_distanceOf) := call_V S_Spread_distanceOf (by decide) (ci := 5) rfl (by decide +kernel) (by decide +kernel) (by decide +kernel) (by decide +kernel) (by decide +kernel) (by decide +kernel) T_Spread_distanceOf_r
theorem co_X5_236 : CallOK RX5 (.invokevirtual 59) (2, 1, 0, 0, T_Things_numberOf) := call_V S_Things_numberOf (by decide) (ci := 7) rfl (by decide +kernel) (by decide +kernel) (by decide +kernel) (by decide +kernel) (by decide +kernel) (by decide +kernel) T_Things_numberOf_r
def TF_Spread_enter (o : Nat) (t : Nat) (x : Int) (q : Int) (f : Int) (sz sl : Nat) (lay : Nat → Nat × Int) (ρ : Nat → Int → Nat) (σ : Nat → Int → Int) (τ : Nat → Int → Int64) (k : Option AV → Mm → Prop) : Prop := LSpread lay ρ o ∧ (t + 13 ≤ o) ∧ LThings lay ρ t ∧ (0 ≤ σ t 12 ∧ σ t 12 ≤ 600) ∧ (0 ≤ f ∧ f ≤ σ o 3 ∧ σ o 3 ≤ 600) ∧ (∀ p, 0 ≤ p ∧ p < σ o 3 → 0 ≤ σ (o + 1) p ∧ σ (o + 1) p < σ t 12) ∧ (-1 ≤ x ∧ x < σ t 12) ∧ (-1 ≤ q ∧ q < 600) ∧ (¬ q = -1 → 0 ≤ σ (o + 2) q ∧ σ (o + 2) q ≤ 1000) ∧ (0 ≤ x → σ (o + 2) x = 0 → σ o 3 < 600) ∧ (x = -1 ∨ ¬ σ (o + 2) x = 0 → k none (sz, sl, lay, ρ, σ, τ)) ∧ (0 ≤ x → σ (o + 2) x = 0 → ∀ i D, (f ≤ i ∧ i ≤ σ o 3) → (i = f ∨ σ (t + 1) (σ (o + 1) (i - 1)) ≤ σ (t + 1) (x)) → (∀ p, i ≤ p ∧ p < σ o 3 → σ (t + 1) (x) < σ (t + 1) (σ (o + 1) p)) → (q = -1 → D = 1) → (¬ q = -1 → D = σ (o + 2) q + 1) → k none (sz, sl, lay, ρ, spE σ o i x q D, τ))
def T_Spread_enter : Tr := mkT 5 fun o as M k => pR as fun t as => pI as fun x as => pI as fun q as => pI as fun f as => as = [] ∧ TF_Spread_enter o t x q f M.1 M.2.1 M.2.2.1 M.2.2.2.1 M.2.2.2.2.1 M.2.2.2.2.2 k
theorem T_Spread_enter_e {o : Nat} {t : Nat} {x : Int} {q : Int} {f : Int} {sz sl : Nat} {lay : Nat → Nat × Int} {ρ : Nat → Int → Nat} {σ : Nat → Int → Int} {τ : Nat → Int → Int64} {k : Option AV → Mm → Prop} : T_Spread_enter [vR o, vR t, vI x, vI q, vI f] (sz, sl, lay, ρ, σ, τ) k = (lay o = (15, 0) ∧ TF_Spread_enter o t x q f sz sl lay ρ σ τ k) := by simp [T_Spread_enter, mkT_e, pI_e, pR_e, pL_e]
theorem T_Spread_enter_r (as : List AV) (M : Mm) (k : Option AV → Mm → Prop) (h : T_Spread_enter as M k) : ∃ b As, as = vR b :: As ∧ M.2.2.1 b = (10 + 5, 0) := by
  obtain ⟨b, As, h1, h2, -⟩ := mkT_r h
  exact ⟨b, As, h1, h2⟩
def tb_Spread_enter : List (Nat × Option (List Nat) × Instr × List Nat) := [(0, none, .aload_n 0, []), (1, none, .iload_n 2, []), (2, none, .invokevirtual 56, []), (5, none, .ifCond .ne 13, [18]), (8, none, .aload_n 0, []), (9, none, .getfield 21, []), (12, none, .sipush 600, []), (15, none, .if_icmp .lt 4, [19]), (18, none, .return_, []), (19, none, .aload_n 1, []), (20, none, .iload_n 2, []), (21, none, .invokevirtual 59, []), (24, none, .istore 5, []), (26, none, .aload_n 0, []), (27, none, .getfield 21, []), (30, none, .istore 6, []), (32, some [0, 1, 2, 3, 4, 5, 6], .iload 6, []), (34, none, .iload 4, []), (36, none, .if_icmp .le 43, [79]), (39, none, .aload_n 1, []), (40, none, .aload_n 0, []), (41, none, .getfield 9, []), (44, none, .iload 6, []), (46, none, .iconst 1, []), (47, none, .isub, []), (48, none, .iaload, []), (49, none, .invokevirtual 59, []), (52, none, .iload 5, []), (54, none, .if_icmp .le 25, [79]), (57, none, .aload_n 0, []), (58, none, .getfield 9, []), (61, none, .iload 6, []), (63, none, .aload_n 0, []), (64, none, .getfield 9, []), (67, none, .iload 6, []), (69, none, .iconst 1, []), (70, none, .isub, []), (71, none, .iaload, []), (72, none, .iastore, []), (73, none, .iinc 6 (-1), []), (76, none, .goto (-44), [32]), (79, none, .aload_n 0, []), (80, none, .getfield 9, []), (83, none, .iload 6, []), (85, none, .iload_n 2, []), (86, none, .iastore, []), (87, none, .aload_n 0, []), (88, none, .dup, []), (89, none, .getfield 21, []), (92, none, .iconst 1, []), (93, none, .iadd, []), (94, none, .putfield 21, []), (97, none, .aload_n 0, []), (98, none, .getfield 18, []), (101, none, .iload_n 2, []), (102, none, .iload_n 3, []), (103, none, .iastore, []), (104, none, .aload_n 0, []), (105, none, .getfield 15, []), (108, none, .iload_n 2, []), (109, none, .iload_n 3, []), (110, none, .iconst (-1), []), (111, none, .if_icmp .ne 7, [118]), (114, none, .iconst 1, []), (115, none, .goto 10, [125]), (118, none, .aload_n 0, []), (119, none, .iload_n 3, []), (120, none, .invokevirtual 56, []), (123, none, .iconst 1, []), (124, none, .iadd, []), (125, none, .iastore, []), (126, none, .return_, [])]
def P_Spread_enter : Nat → Option (List Nat) × Instr × List Nat := plk tb_Spread_enter
theorem r_Spread_enter_0 : P_Spread_enter 0 = (none, .aload_n 0, []) := by decide +kernel
theorem r_Spread_enter_1 : P_Spread_enter 1 = (none, .iload_n 2, []) := by decide +kernel
theorem r_Spread_enter_2 : P_Spread_enter 2 = (none, .invokevirtual 56, []) := by decide +kernel
theorem r_Spread_enter_5 : P_Spread_enter 5 = (none, .ifCond .ne 13, [18]) := by decide +kernel
theorem r_Spread_enter_8 : P_Spread_enter 8 = (none, .aload_n 0, []) := by decide +kernel
theorem r_Spread_enter_9 : P_Spread_enter 9 = (none, .getfield 21, []) := by decide +kernel
theorem r_Spread_enter_12 : P_Spread_enter 12 = (none, .sipush 600, []) := by decide +kernel
theorem r_Spread_enter_15 : P_Spread_enter 15 = (none, .if_icmp .lt 4, [19]) := by decide +kernel
theorem r_Spread_enter_18 : P_Spread_enter 18 = (none, .return_, []) := by decide +kernel
theorem r_Spread_enter_19 : P_Spread_enter 19 = (none, .aload_n 1, []) := by decide +kernel
theorem r_Spread_enter_20 : P_Spread_enter 20 = (none, .iload_n 2, []) := by decide +kernel
theorem r_Spread_enter_21 : P_Spread_enter 21 = (none, .invokevirtual 59, []) := by decide +kernel
theorem r_Spread_enter_24 : P_Spread_enter 24 = (none, .istore 5, []) := by decide +kernel
theorem r_Spread_enter_26 : P_Spread_enter 26 = (none, .aload_n 0, []) := by decide +kernel
theorem r_Spread_enter_27 : P_Spread_enter 27 = (none, .getfield 21, []) := by decide +kernel
theorem r_Spread_enter_30 : P_Spread_enter 30 = (none, .istore 6, []) := by decide +kernel
theorem r_Spread_enter_32 : P_Spread_enter 32 = (some [0, 1, 2, 3, 4, 5, 6], .iload 6, []) := by decide +kernel
theorem r_Spread_enter_34 : P_Spread_enter 34 = (none, .iload 4, []) := by decide +kernel
theorem r_Spread_enter_36 : P_Spread_enter 36 = (none, .if_icmp .le 43, [79]) := by decide +kernel
theorem r_Spread_enter_39 : P_Spread_enter 39 = (none, .aload_n 1, []) := by decide +kernel
theorem r_Spread_enter_40 : P_Spread_enter 40 = (none, .aload_n 0, []) := by decide +kernel
theorem r_Spread_enter_41 : P_Spread_enter 41 = (none, .getfield 9, []) := by decide +kernel
theorem r_Spread_enter_44 : P_Spread_enter 44 = (none, .iload 6, []) := by decide +kernel
theorem r_Spread_enter_46 : P_Spread_enter 46 = (none, .iconst 1, []) := by decide +kernel
theorem r_Spread_enter_47 : P_Spread_enter 47 = (none, .isub, []) := by decide +kernel
theorem r_Spread_enter_48 : P_Spread_enter 48 = (none, .iaload, []) := by decide +kernel
theorem r_Spread_enter_49 : P_Spread_enter 49 = (none, .invokevirtual 59, []) := by decide +kernel
theorem r_Spread_enter_52 : P_Spread_enter 52 = (none, .iload 5, []) := by decide +kernel
theorem r_Spread_enter_54 : P_Spread_enter 54 = (none, .if_icmp .le 25, [79]) := by decide +kernel
theorem r_Spread_enter_57 : P_Spread_enter 57 = (none, .aload_n 0, []) := by decide +kernel
theorem r_Spread_enter_58 : P_Spread_enter 58 = (none, .getfield 9, []) := by decide +kernel
theorem r_Spread_enter_61 : P_Spread_enter 61 = (none, .iload 6, []) := by decide +kernel
theorem r_Spread_enter_63 : P_Spread_enter 63 = (none, .aload_n 0, []) := by decide +kernel
theorem r_Spread_enter_64 : P_Spread_enter 64 = (none, .getfield 9, []) := by decide +kernel
theorem r_Spread_enter_67 : P_Spread_enter 67 = (none, .iload 6, []) := by decide +kernel
theorem r_Spread_enter_69 : P_Spread_enter 69 = (none, .iconst 1, []) := by decide +kernel
theorem r_Spread_enter_70 : P_Spread_enter 70 = (none, .isub, []) := by decide +kernel
theorem r_Spread_enter_71 : P_Spread_enter 71 = (none, .iaload, []) := by decide +kernel
theorem r_Spread_enter_72 : P_Spread_enter 72 = (none, .iastore, []) := by decide +kernel
theorem r_Spread_enter_73 : P_Spread_enter 73 = (none, .iinc 6 (-1), []) := by decide +kernel
theorem r_Spread_enter_76 : P_Spread_enter 76 = (none, .goto (-44), [32]) := by decide +kernel
theorem r_Spread_enter_79 : P_Spread_enter 79 = (none, .aload_n 0, []) := by decide +kernel
theorem r_Spread_enter_80 : P_Spread_enter 80 = (none, .getfield 9, []) := by decide +kernel
theorem r_Spread_enter_83 : P_Spread_enter 83 = (none, .iload 6, []) := by decide +kernel
theorem r_Spread_enter_85 : P_Spread_enter 85 = (none, .iload_n 2, []) := by decide +kernel
theorem r_Spread_enter_86 : P_Spread_enter 86 = (none, .iastore, []) := by decide +kernel
theorem r_Spread_enter_87 : P_Spread_enter 87 = (none, .aload_n 0, []) := by decide +kernel
theorem r_Spread_enter_88 : P_Spread_enter 88 = (none, .dup, []) := by decide +kernel
theorem r_Spread_enter_89 : P_Spread_enter 89 = (none, .getfield 21, []) := by decide +kernel
theorem r_Spread_enter_92 : P_Spread_enter 92 = (none, .iconst 1, []) := by decide +kernel
theorem r_Spread_enter_93 : P_Spread_enter 93 = (none, .iadd, []) := by decide +kernel
theorem r_Spread_enter_94 : P_Spread_enter 94 = (none, .putfield 21, []) := by decide +kernel
theorem r_Spread_enter_97 : P_Spread_enter 97 = (none, .aload_n 0, []) := by decide +kernel
theorem r_Spread_enter_98 : P_Spread_enter 98 = (none, .getfield 18, []) := by decide +kernel
theorem r_Spread_enter_101 : P_Spread_enter 101 = (none, .iload_n 2, []) := by decide +kernel
theorem r_Spread_enter_102 : P_Spread_enter 102 = (none, .iload_n 3, []) := by decide +kernel
theorem r_Spread_enter_103 : P_Spread_enter 103 = (none, .iastore, []) := by decide +kernel
theorem r_Spread_enter_104 : P_Spread_enter 104 = (none, .aload_n 0, []) := by decide +kernel
theorem r_Spread_enter_105 : P_Spread_enter 105 = (none, .getfield 15, []) := by decide +kernel
theorem r_Spread_enter_108 : P_Spread_enter 108 = (none, .iload_n 2, []) := by decide +kernel
theorem r_Spread_enter_109 : P_Spread_enter 109 = (none, .iload_n 3, []) := by decide +kernel
theorem r_Spread_enter_110 : P_Spread_enter 110 = (none, .iconst (-1), []) := by decide +kernel
theorem r_Spread_enter_111 : P_Spread_enter 111 = (none, .if_icmp .ne 7, [118]) := by decide +kernel
theorem r_Spread_enter_114 : P_Spread_enter 114 = (none, .iconst 1, []) := by decide +kernel
theorem r_Spread_enter_115 : P_Spread_enter 115 = (none, .goto 10, [125]) := by decide +kernel
theorem r_Spread_enter_118 : P_Spread_enter 118 = (none, .aload_n 0, []) := by decide +kernel
theorem r_Spread_enter_119 : P_Spread_enter 119 = (none, .iload_n 3, []) := by decide +kernel
theorem r_Spread_enter_120 : P_Spread_enter 120 = (none, .invokevirtual 56, []) := by decide +kernel
theorem r_Spread_enter_123 : P_Spread_enter 123 = (none, .iconst 1, []) := by decide +kernel
theorem r_Spread_enter_124 : P_Spread_enter 124 = (none, .iadd, []) := by decide +kernel
theorem r_Spread_enter_125 : P_Spread_enter 125 = (none, .iastore, []) := by decide +kernel
theorem r_Spread_enter_126 : P_Spread_enter 126 = (none, .return_, []) := by decide +kernel
def E_Spread_enter : List (Nat × Ent) := [(224, (2, 1, 0, 0, T_Spread_distanceOf)), (236, (2, 1, 0, 0, T_Things_numberOf))]
def X_Spread_enter : Cx := (llk (0, 0, 9) ftX5, llk 99 ntX5, llk none kcX5, llk none klX5, llk dEnt E_Spread_enter, 2, 3, false)
theorem xok_Spread_enter : Xok RX5 X_Spread_enter := xok_of ftX5_ok ntX5_ok kcX5_ok klX5_ok (E := E_Spread_enter) (List.forall_mem_cons.mpr ⟨co_X5_224, List.forall_mem_cons.mpr ⟨co_X5_236, fun _ h => absurd h List.not_mem_nil⟩⟩)
theorem xf_Spread_enter_9 : xfl X_Spread_enter 9 = (5, 0, 1) := by decide +kernel
theorem xf_Spread_enter_15 : xfl X_Spread_enter 15 = (5, 1, 1) := by decide +kernel
theorem xf_Spread_enter_18 : xfl X_Spread_enter 18 = (5, 2, 1) := by decide +kernel
theorem xf_Spread_enter_21 : xfl X_Spread_enter 21 = (5, 3, 0) := by decide +kernel
theorem xe_Spread_enter_224 : xE X_Spread_enter (4 * 56 + 0) = (2, 1, 0, 0, T_Spread_distanceOf) := rfl
theorem xe_Spread_enter_236 : xE X_Spread_enter (4 * 59 + 0) = (2, 1, 0, 0, T_Things_numberOf) := rfl
theorem xd_Spread_enter : xd X_Spread_enter = 2 := rfl
theorem xrb_Spread_enter : xrb X_Spread_enter = 3 := rfl
theorem xin_Spread_enter : xin X_Spread_enter = false := rfl
set_option maxHeartbeats 4000000 in
set_option maxRecDepth 100000 in
theorem S_Spread_enter : Snd yX5_enter cX5_enter 7 none T_Spread_enter 2 0 0 := by
  refine snd_of (X := X_Spread_enter) (P := P_Spread_enter) (tb := tb_Spread_enter) (own := RX5) (by decide) rfl rfl (by decide +kernel) xok_Spread_enter rfl rk3 (fun h => by first | rfl | cases h) ?_
  intro as M k has hM hT0
  obtain ⟨sz, sl, lay, ρ, σ, τ⟩ := M
  obtain ⟨o, as1, e, hlo, hT1⟩ := mkT_r hT0
  clear hT0
  subst e
  obtain ⟨t, as2, e, hT2⟩ := pR_x hT1
  clear hT1
  subst e
  obtain ⟨x, as3, e, hT3⟩ := pI_x hT2
  clear hT2
  subst e
  obtain ⟨q, as4, e, hT4⟩ := pI_x hT3
  clear hT3
  subst e
  obtain ⟨f, as5, e, hT5⟩ := pI_x hT4
  clear hT4
  subst e
  obtain ⟨e, hT⟩ := hT5
  subst e
  replace hlo : lay o = (15, 0) := hlo
  have r_x : -2147483648 ≤ x ∧ x ≤ 2147483647 := has (vI x) (by simp)
  have r_q : -2147483648 ≤ q ∧ q ≤ 2147483647 := has (vI q) (by simp)
  have r_f : -2147483648 ≤ f ∧ f ≤ 2147483647 := has (vI f) (by simp)
  clear has
  replace hM : ∀ a i, -2147483648 ≤ σ a i ∧ σ a i ≤ 2147483647 := hM
  replace hT : TF_Spread_enter o t x q f sz sl lay ρ σ τ k := hT
  unfold TF_Spread_enter at hT
  obtain ⟨hS, hto, hL, hn, hf, h6, hx, hq, hd, h9, h0, h1⟩ := hT
  obtain ⟨sh, sp0, sp1, sp2, sq0, sq1, sq2⟩ := (show LSpread lay ρ _ from hS)
  obtain ⟨lh, lp0, lp1, lp2, lp3, lp4, lp5, lp6, lp7, lp8, lp9, lp10, lp11, lq0, lq1, lq2, lq3, lq4, lq5, lq6, lq7, lq8, lq9, lq10, lq11⟩ := (show LThings lay ρ _ from hL)
  obtain ⟨J, hJd⟩ : ∃ J : Nat → List AV → Mm → Prop, J = (fun c vs M1 => c = 32 ∧ ∃ i : Int, (f ≤ i ∧ i ≤ σ o 3) ∧ (0 ≤ x ∧ σ o 3 < 600) ∧ σ (o + 2) x = 0 ∧ (∀ p : Int, i ≤ p ∧ p < σ o 3 → σ (t + 1) (x) < σ (t + 1) (σ (o + 1) p)) ∧ vs = [vR o, vR t, vI x, vI q, vI f, vI (σ (t + 1) x), vI i] ∧ M1 = (sz, sl, lay, ρ, fu σ (o + 1) (shf (σ (o + 1)) i (σ o 3)), τ)) := ⟨_, rfl⟩
  obtain ⟨μ, hμ⟩ : ∃ μ : Nat → List AV → Mm → Nat, μ = (fun _ vs _ => (gI (vs.getD 6 vN)).toNat) := ⟨_, rfl⟩
  refine ⟨Nat.le_of_ble_eq_true rfl, J, μ, 80, ?_, ?_⟩
  · unfold wps
    simp only [si_iload_n0, si_iload_n1, si_iload_n2, si_iload_n3, si_iload, si_lload_n0, si_lload_n1, si_lload_n2, si_lload_n3, si_lload, si_aload_n0, si_aload_n1, si_aload_n2, si_aload_n3, si_aload, si_istore_n0, si_istore_n1, si_istore_n2, si_istore_n3, si_istore, si_astore_n0, si_astore_n1, si_astore_n2, si_astore_n3, si_astore, si_lstore_n0, si_lstore_n1, si_lstore_n2, si_lstore_n3, si_lstore, si_iconst, si_bipush, si_sipush, si_ldc, si_ldc2_w, si_lconst0, si_lconst1, si_aconst_null, si_iinc, si_dup, si_dup2, si_iadd, si_isub, si_imul, si_idiv, si_irem, si_iand, si_ior, si_ishl, si_ishr, si_ladd, si_lmul, si_lor, si_lxor, si_lshl, si_lushr, si_lcmp, si_i2b, si_i2l, si_l2i, si_icmp_eq, si_icmp_ne, si_icmp_lt, si_icmp_ge, si_icmp_gt, si_icmp_le, si_if_eq, si_if_ne, si_if_lt, si_if_ge, si_if_gt, si_if_le, si_ifnull, si_ifnonnull, si_goto, si_tableswitch, si_lookupswitch, si_getfield, si_putfield, si_getstatic, si_iaload, si_baload, si_laload, si_aaload, si_iastore, si_bastore, si_lastore, si_aastore, si_arraylength, si_new, si_newarray, si_anewarray, si_invokevirtual, si_invokespecial, si_invokestatic, si_ireturn, si_lreturn, si_areturn, si_return_, pI_e, pL_e, pR_e, pA_r, pA_n, pN_n, pN_r, oI_e, oL_e, oA_r, oA_n, lget_e, lrm1_0, lrm2_0, lrm1_i, lrm1_r, lrm1_n, lrm1_l, lrm2_i, lrm2_r, lrm2_n, lrm2_l, popN_0, popN_s, acat_i, acat_l, acat_r, acat_n, stw_0, stw_s, psh_s, psh_n, wgf_r, wgf_i, wgf_b, wgf_n, wgf_m, wpf_i, wpf_r, wpf_b, wnew_e, callE_e, rbk_0, rbk_1, tsw_0, tsw_s, lsw_0, lsw_s, wp_s, wq_t, wq_f, oV_e, pick_0, pick_s, oZ_e, oY_e, r_Spread_enter_0, r_Spread_enter_1, r_Spread_enter_2, r_Spread_enter_5, r_Spread_enter_8, r_Spread_enter_9, r_Spread_enter_12, r_Spread_enter_15, r_Spread_enter_18, r_Spread_enter_19, r_Spread_enter_20, r_Spread_enter_21, r_Spread_enter_24, r_Spread_enter_26, r_Spread_enter_27, r_Spread_enter_30, r_Spread_enter_32, r_Spread_enter_34, r_Spread_enter_36, r_Spread_enter_39, r_Spread_enter_40, r_Spread_enter_41, r_Spread_enter_44, r_Spread_enter_46, r_Spread_enter_47, r_Spread_enter_48, r_Spread_enter_49, r_Spread_enter_52, r_Spread_enter_54, r_Spread_enter_57, r_Spread_enter_58, r_Spread_enter_61, r_Spread_enter_63, r_Spread_enter_64, r_Spread_enter_67, r_Spread_enter_69, r_Spread_enter_70, r_Spread_enter_71, r_Spread_enter_72, r_Spread_enter_73, r_Spread_enter_76, r_Spread_enter_79, r_Spread_enter_80, r_Spread_enter_83, r_Spread_enter_85, r_Spread_enter_86, r_Spread_enter_87, r_Spread_enter_88, r_Spread_enter_89, r_Spread_enter_92, r_Spread_enter_93, r_Spread_enter_94, r_Spread_enter_97, r_Spread_enter_98, r_Spread_enter_101, r_Spread_enter_102, r_Spread_enter_103, r_Spread_enter_104, r_Spread_enter_105, r_Spread_enter_108, r_Spread_enter_109, r_Spread_enter_110, r_Spread_enter_111, r_Spread_enter_114, r_Spread_enter_115, r_Spread_enter_118, r_Spread_enter_119, r_Spread_enter_120, r_Spread_enter_123, r_Spread_enter_124, r_Spread_enter_125, r_Spread_enter_126, xf_Spread_enter_9, xf_Spread_enter_15, xf_Spread_enter_18, xf_Spread_enter_21, xe_Spread_enter_224, xe_Spread_enter_236, xd_Spread_enter, xrb_Spread_enter, xin_Spread_enter, T_Spread_distanceOf_e, TF_Spread_distanceOf, T_Things_numberOf_e, TF_Things_numberOf, sh, sp0, sp1, sp2, sq0, sq1, sq2, lh, lp0, lp1, lp2, lp3, lp4, lp5, lp6, lp7, lp8, lp9, lp10, lp11, lq0, lq1, lq2, lq3, lq4, lq5, lq6, lq7, lq8, lq9, lq10, lq11, fu_f1, fu_f2, fu_f3, fu_f4, hto, fu_skip, shf_m1, Nat.reduceAdd, Nat.reduceMul, Nat.reduceEqDiff, reduceIte, Int.reduceNeg, Int.reduceLE, Int.reduceLT, Int.reduceAdd, Int.reduceSub, Int.reduceToNat, true_and, and_true, inR_e, Nat.reduceLT, Nat.reduceLeDiff, reduceCtorEq, Nat.add_zero, Nat.zero_add, or_false, false_or, or_true, true_or, not_true_eq_false, not_false_eq_true, Classical.not_not, Nat.add_eq_zero_iff, and_false, false_and, Int.reduceEq, List.mem_cons, List.not_mem_nil, forall_eq_or_imp, forall_eq, false_implies, implies_true, forall_const, aargs_0, aargs_i, aargs_r, aargs_l, aargs_n, nfT_e, eq_self, and_self, Nat.le_refl, fu_s, fu_fu, iu_iu, iu_s, fu_am, fu_a0, fu_0a, iu_l, Nat.reduceBEq, Int.reduceBEq, T_objInit_e]
    refine ⟨hS, fun a => ⟨fun b => h0 (Or.inr b), fun b => ⟨fun c => ⟨hL, hn, fun d => ?_, fun d => absurd d (by omega)⟩, fun c => absurd (h9 a.1 b) (by omega)⟩⟩, fun a => h0 (Or.inl (by omega))⟩
    rw [hJd]
    exact ⟨rfl, σ o 3, by omega, (by omega), b, (fun p hp => by omega), rfl, by rw [shf_c, fu_self]⟩
  · intro cp vs M1 hvs hM1 hlen hJ
    rw [hJd] at hJ
    obtain ⟨rfl, i, g1, g2, g3, g4, rfl, rfl⟩ := hJ
    have hT := h1 g2.1 g3 i
    unfold wps
    simp only [Option.getD_some, List.zip_cons_cons, List.zip_nil_left, List.zip_nil_right, List.zip_nil_right, si_iload_n0, si_iload_n1, si_iload_n2, si_iload_n3, si_iload, si_lload_n0, si_lload_n1, si_lload_n2, si_lload_n3, si_lload, si_aload_n0, si_aload_n1, si_aload_n2, si_aload_n3, si_aload, si_istore_n0, si_istore_n1, si_istore_n2, si_istore_n3, si_istore, si_astore_n0, si_astore_n1, si_astore_n2, si_astore_n3, si_astore, si_lstore_n0, si_lstore_n1, si_lstore_n2, si_lstore_n3, si_lstore, si_iconst, si_bipush, si_sipush, si_ldc, si_ldc2_w, si_lconst0, si_lconst1, si_aconst_null, si_iinc, si_dup, si_dup2, si_iadd, si_isub, si_imul, si_idiv, si_irem, si_iand, si_ior, si_ishl, si_ishr, si_ladd, si_lmul, si_lor, si_lxor, si_lshl, si_lushr, si_lcmp, si_i2b, si_i2l, si_l2i, si_icmp_eq, si_icmp_ne, si_icmp_lt, si_icmp_ge, si_icmp_gt, si_icmp_le, si_if_eq, si_if_ne, si_if_lt, si_if_ge, si_if_gt, si_if_le, si_ifnull, si_ifnonnull, si_goto, si_tableswitch, si_lookupswitch, si_getfield, si_putfield, si_getstatic, si_iaload, si_baload, si_laload, si_aaload, si_iastore, si_bastore, si_lastore, si_aastore, si_arraylength, si_new, si_newarray, si_anewarray, si_invokevirtual, si_invokespecial, si_invokestatic, si_ireturn, si_lreturn, si_areturn, si_return_, pI_e, pL_e, pR_e, pA_r, pA_n, pN_n, pN_r, oI_e, oL_e, oA_r, oA_n, lget_e, lrm1_0, lrm2_0, lrm1_i, lrm1_r, lrm1_n, lrm1_l, lrm2_i, lrm2_r, lrm2_n, lrm2_l, popN_0, popN_s, acat_i, acat_l, acat_r, acat_n, stw_0, stw_s, psh_s, psh_n, wgf_r, wgf_i, wgf_b, wgf_n, wgf_m, wpf_i, wpf_r, wpf_b, wnew_e, callE_e, rbk_0, rbk_1, tsw_0, tsw_s, lsw_0, lsw_s, wp_s, wq_t, wq_f, oV_e, pick_0, pick_s, oZ_e, oY_e, r_Spread_enter_0, r_Spread_enter_1, r_Spread_enter_2, r_Spread_enter_5, r_Spread_enter_8, r_Spread_enter_9, r_Spread_enter_12, r_Spread_enter_15, r_Spread_enter_18, r_Spread_enter_19, r_Spread_enter_20, r_Spread_enter_21, r_Spread_enter_24, r_Spread_enter_26, r_Spread_enter_27, r_Spread_enter_30, r_Spread_enter_32, r_Spread_enter_34, r_Spread_enter_36, r_Spread_enter_39, r_Spread_enter_40, r_Spread_enter_41, r_Spread_enter_44, r_Spread_enter_46, r_Spread_enter_47, r_Spread_enter_48, r_Spread_enter_49, r_Spread_enter_52, r_Spread_enter_54, r_Spread_enter_57, r_Spread_enter_58, r_Spread_enter_61, r_Spread_enter_63, r_Spread_enter_64, r_Spread_enter_67, r_Spread_enter_69, r_Spread_enter_70, r_Spread_enter_71, r_Spread_enter_72, r_Spread_enter_73, r_Spread_enter_76, r_Spread_enter_79, r_Spread_enter_80, r_Spread_enter_83, r_Spread_enter_85, r_Spread_enter_86, r_Spread_enter_87, r_Spread_enter_88, r_Spread_enter_89, r_Spread_enter_92, r_Spread_enter_93, r_Spread_enter_94, r_Spread_enter_97, r_Spread_enter_98, r_Spread_enter_101, r_Spread_enter_102, r_Spread_enter_103, r_Spread_enter_104, r_Spread_enter_105, r_Spread_enter_108, r_Spread_enter_109, r_Spread_enter_110, r_Spread_enter_111, r_Spread_enter_114, r_Spread_enter_115, r_Spread_enter_118, r_Spread_enter_119, r_Spread_enter_120, r_Spread_enter_123, r_Spread_enter_124, r_Spread_enter_125, r_Spread_enter_126, xf_Spread_enter_9, xf_Spread_enter_15, xf_Spread_enter_18, xf_Spread_enter_21, xe_Spread_enter_224, xe_Spread_enter_236, xd_Spread_enter, xrb_Spread_enter, xin_Spread_enter, T_Spread_distanceOf_e, TF_Spread_distanceOf, T_Things_numberOf_e, TF_Things_numberOf, sh, sp0, sp1, sp2, sq0, sq1, sq2, lh, lp0, lp1, lp2, lp3, lp4, lp5, lp6, lp7, lp8, lp9, lp10, lp11, lq0, lq1, lq2, lq3, lq4, lq5, lq6, lq7, lq8, lq9, lq10, lq11, fu_f1, fu_f2, fu_f3, fu_f4, hto, fu_skip, shf_m1, Nat.reduceAdd, Nat.reduceMul, Nat.reduceEqDiff, reduceIte, Int.reduceNeg, Int.reduceLE, Int.reduceLT, Int.reduceAdd, Int.reduceSub, Int.reduceToNat, true_and, and_true, inR_e, Nat.reduceLT, Nat.reduceLeDiff, reduceCtorEq, Nat.add_zero, Nat.zero_add, or_false, false_or, or_true, true_or, not_true_eq_false, not_false_eq_true, Classical.not_not, Nat.add_eq_zero_iff, and_false, false_and, Int.reduceEq, List.mem_cons, List.not_mem_nil, forall_eq_or_imp, forall_eq, false_implies, implies_true, forall_const, aargs_0, aargs_i, aargs_r, aargs_l, aargs_n, nfT_e, eq_self, and_self, Nat.le_refl, fu_s, fu_fu, iu_iu, iu_s, fu_am, fu_a0, fu_0a, iu_l, Nat.reduceBEq, Int.reduceBEq, T_objInit_e]
    refine ⟨fun a => ?_, fun a => ?_⟩
    · refine ⟨by omega, by omega, by omega, by omega, by omega, fun b => ⟨hS, fun _ => ⟨by omega, by omega, by omega, hT _ g1 (Or.inl (by omega)) g4 (fun z => absurd z b) (fun _ => rfl)⟩, fun z => absurd z (by omega)⟩, fun b => ⟨by omega, by omega, hT 1 g1 (Or.inl (by omega)) g4 (fun z => rfl) (fun z => absurd b z)⟩⟩
    have hl := h6 (i - 1) (by omega)
    refine ⟨by omega, by omega, by omega, hL, hn, fun c => ⟨fun d => ?_, fun d => ?_⟩, fun c => absurd hl c⟩
    · refine ⟨by omega, by omega, by omega, by omega, by omega, fun b => ⟨hS, fun _ => ⟨by omega, by omega, by omega, hT _ g1 (Or.inr d) g4 (fun z => absurd z b) (fun _ => rfl)⟩, fun z => absurd z (by omega)⟩, fun b => ⟨by omega, by omega, hT 1 g1 (Or.inr d) g4 (fun z => rfl) (fun z => absurd b z)⟩⟩
    refine ⟨by omega, by omega, by omega, by omega, by omega, by omega, ?_, (by rw [hμ]; simp only [gI_e, List.getD_cons_succ, List.getD_cons_zero]; omega)⟩
    rw [hJd, show i + -1 = i - 1 by omega]
    refine ⟨rfl, i - 1, by omega, g2, g3, fun p hp => ?_, rfl, by rw [shf_step (by omega)]⟩
    by_cases e : p = i - 1
    · rw [e]; omega
    · exact g4 p (by omega)

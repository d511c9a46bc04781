/-- b is a best keeper of x; -1: there is none -/
def KpW (U : Int → Int) (st : Nat → Int → Int) (n x b : Int) : Prop := (b = -1 ∧ ∀ y, 0 ≤ y ∧ y < n → lvP U st y → ¬ y = x → ¬ dmP U st y x) ∨ ((0 ≤ b ∧ b < n) ∧ (lvP U st b ∧ ¬ b = x ∧ dmP U st b x) ∧ ∀ y, 0 ≤ y ∧ y < n → lvP U st y → ¬ y = x → dmP U st y x → hgP U st y ≤ hgP U st b)
theorem KpR.w {U : Int → Int} {st : Nat → Int → Int} {x b c : Int} (h : KpR U st x b) (g : KpW U st (st 0 7) x c) : b = c := by
  rcases h with ⟨h1, h2⟩ | ⟨h1, ⟨h2, h3, h4⟩, h5⟩ <;> rcases g with ⟨g1, g2⟩ | ⟨g1, ⟨g2, g3, g4⟩, g5⟩
  · omega
  · exact absurd g4 (h2 c g1 g2 g3)
  · exact absurd h4 (g2 b h1 h2 h3)
  · by_cases e : b = c
    · exact e
    · have := h5 c g1 g2 g3 g4 (fun z => e z.symm)
      have := g5 b h1 h2 h3 h4
      omega
theorem KpW.no {U : Int → Int} {st : Nat → Int → Int} {n x b : Int} (hn : 0 ≤ n) (h : KpW U st n x b) (z : ¬ (lvP U st n ∧ ¬ n = x ∧ dmP U st n x)) : KpW U st (n + 1) x b := by
  rcases h with ⟨h1, h2⟩ | ⟨h1, h2, h5⟩
  · refine Or.inl ⟨h1, fun y hy a b c => ?_⟩
    by_cases e : y = n
    · rw [e] at a b c; exact z ⟨a, b, c⟩
    · exact h2 y (by omega) a b c
  · refine Or.inr ⟨by omega, h2, fun y hy a b c => ?_⟩
    by_cases e : y = n
    · rw [e] at a b c; exact absurd ⟨a, b, c⟩ z
    · exact h5 y (by omega) a b c
theorem KpW.yes {U : Int → Int} {st : Nat → Int → Int} {n x b : Int} (hn : 0 ≤ n) (h : KpW U st n x b) (z : lvP U st n ∧ ¬ n = x ∧ dmP U st n x) (g : b < 0 ∨ hgP U st b < hgP U st n) : KpW U st (n + 1) x n := by
  refine Or.inr ⟨by omega, z, fun y hy a b2 c => ?_⟩
  by_cases e : y = n
  · rw [e]; exact Int.le_refl _
  · rcases h with ⟨h1, h2⟩ | ⟨h1, h2, h5⟩
    · exact absurd c (h2 y (by omega) a b2)
    · have := h5 y (by omega) a b2 c
      omega
theorem KpW.old {U : Int → Int} {st : Nat → Int → Int} {n x b : Int} (hn : 0 ≤ n) (h : KpW U st n x b) (g : 0 ≤ b ∧ hgP U st n ≤ hgP U st b) : KpW U st (n + 1) x b := by
  rcases h with ⟨h1, h2⟩ | ⟨h1, h2, h5⟩
  · omega
  · refine Or.inr ⟨by omega, h2, fun y hy a b c => ?_⟩
    by_cases e : y = n
    · rw [e]; exact g.2
    · exact h5 y (by omega) a b c
def TF_Model_keeper (o : Nat) (p : Int) (x : Int) (sz sl : Nat) (lay : Nat → Nat × Int) (ρ : Nat → Int → Nat) (σ : Nat → Int → Int) (τ : Nat → Int → Int64) (k : Option AV → Mm → Prop) : Prop := LModel lay ρ o ∧ ∃ (U : Int → Int) (len : Int) (st : Nat → Int → Int), MdP σ o p U len st ∧ (0 ≤ p ∧ p < 3 → (0 ≤ fn U st x → lvP U st (fn U st x) → ∀ b, KpW U st (st 0 7) (fn U st x) b → ∀ σ2 : Nat → Int → Int, QF σ σ2 o → (b = -1 → k (some (vI (0))) (sz, sl, lay, ρ, σ2, τ)) ∧ (0 ≤ b → k (some (vI (numA U (st 2) b))) (sz, sl, lay, ρ, σ2, τ))) ∧ (¬ (0 ≤ fn U st x ∧ lvP U st (fn U st x)) → ∀ σ2 : Nat → Int → Int, QF σ σ2 o → k (some (vI (-1))) (sz, sl, lay, ρ, σ2, τ))) ∧ (¬ (0 ≤ p ∧ p < 3) → k (some (vI (-1))) (sz, sl, lay, ρ, σ, τ))
def T_Model_keeper : Tr := mkT 11 fun o as M k => pI as fun p as => pI as fun x as => as = [] ∧ TF_Model_keeper o p x M.1 M.2.1 M.2.2.1 M.2.2.2.1 M.2.2.2.2.1 M.2.2.2.2.2 k
theorem T_Model_keeper_e {o : Nat} {p : Int} {x : Int} {sz sl : Nat} {lay : Nat → Nat × Int} {ρ : Nat → Int → Nat} {σ : Nat → Int → Int} {τ : Nat → Int → Int64} {k : Option AV → Mm → Prop} : T_Model_keeper [vR o, vI p, vI x] (sz, sl, lay, ρ, σ, τ) k = (lay o = (21, 0) ∧ TF_Model_keeper o p x sz sl lay ρ σ τ k) := by simp [T_Model_keeper, mkT_e, pI_e, pR_e, pL_e]
theorem T_Model_keeper_r (as : List AV) (M : Mm) (k : Option AV → Mm → Prop) (h : T_Model_keeper as M k) : ∃ b As, as = vR b :: As ∧ M.2.2.1 b = (10 + 11, 0) := by
  obtain ⟨b, As, h1, h2, -⟩ := mkT_r h
  exact ⟨b, As, h1, h2⟩
def tb_Model_keeper : List (Nat × Option (List Nat) × Instr × List Nat) := [(0, none, .aload_n 0, []), (1, none, .iload_n 1, []), (2, none, .iload_n 2, []), (3, none, .invokevirtual 185, []), (6, none, .istore_n 3, []), (7, none, .iload_n 3, []), (8, none, .ifCond .ge 5, [13]), (11, none, .iconst (-1), []), (12, none, .ireturn, []), (13, none, .aload_n 0, []), (14, none, .iload_n 1, []), (15, none, .invokevirtual 188, []), (18, none, .iconst (-1), []), (19, none, .istore 4, []), (21, none, .iconst 0, []), (22, none, .istore 5, []), (24, some [0, 1, 2, 3, 4, 5], .iload 5, []), (26, none, .aload_n 0, []), (27, none, .getfield 50, []), (30, none, .iload_n 1, []), (31, none, .iaload, []), (32, none, .if_icmp .ge 75, [107]), (35, none, .aload_n 0, []), (36, none, .getfield 62, []), (39, none, .iload 5, []), (41, none, .baload, []), (42, none, .ifCond .eq 59, [101]), (45, none, .iload 5, []), (47, none, .iload_n 3, []), (48, none, .if_icmp .ne 6, [54]), (51, none, .goto 50, [101]), (54, none, .aload_n 0, []), (55, none, .iload_n 1, []), (56, none, .iload 5, []), (58, none, .aload_n 0, []), (59, none, .getfield 66, []), (62, none, .iconst 0, []), (63, none, .invokevirtual 178, []), (66, none, .aload_n 0, []), (67, none, .getfield 66, []), (70, none, .iload_n 3, []), (71, none, .baload, []), (72, none, .ifCond .ne 29, [101]), (75, none, .iload 4, []), (77, none, .ifCond .lt 20, [97]), (80, none, .aload_n 0, []), (81, none, .getfield 84, []), (84, none, .iload 5, []), (86, none, .iaload, []), (87, none, .aload_n 0, []), (88, none, .getfield 84, []), (91, none, .iload 4, []), (93, none, .iaload, []), (94, none, .if_icmp .le 7, [101]), (97, none, .iload 5, []), (99, none, .istore 4, []), (101, none, .iinc 5 1, []), (104, none, .goto (-80), [24]), (107, none, .iload 4, []), (109, none, .ifCond .ge 7, [116]), (112, none, .iconst 0, []), (113, none, .goto 10, [123]), (116, none, .aload_n 0, []), (117, none, .iload_n 1, []), (118, none, .iload 4, []), (120, none, .invokevirtual 165, []), (123, none, .ireturn, [])]
def P_Model_keeper : Nat → Option (List Nat) × Instr × List Nat := plk tb_Model_keeper
theorem r_Model_keeper_0 : P_Model_keeper 0 = (none, .aload_n 0, []) := by decide +kernel
theorem r_Model_keeper_1 : P_Model_keeper 1 = (none, .iload_n 1, []) := by decide +kernel
theorem r_Model_keeper_2 : P_Model_keeper 2 = (none, .iload_n 2, []) := by decide +kernel
theorem r_Model_keeper_3 : P_Model_keeper 3 = (none, .invokevirtual 185, []) := by decide +kernel
theorem r_Model_keeper_6 : P_Model_keeper 6 = (none, .istore_n 3, []) := by decide +kernel
theorem r_Model_keeper_7 : P_Model_keeper 7 = (none, .iload_n 3, []) := by decide +kernel
theorem r_Model_keeper_8 : P_Model_keeper 8 = (none, .ifCond .ge 5, [13]) := by decide +kernel
theorem r_Model_keeper_11 : P_Model_keeper 11 = (none, .iconst (-1), []) := by decide +kernel
theorem r_Model_keeper_12 : P_Model_keeper 12 = (none, .ireturn, []) := by decide +kernel
theorem r_Model_keeper_13 : P_Model_keeper 13 = (none, .aload_n 0, []) := by decide +kernel
theorem r_Model_keeper_14 : P_Model_keeper 14 = (none, .iload_n 1, []) := by decide +kernel
theorem r_Model_keeper_15 : P_Model_keeper 15 = (none, .invokevirtual 188, []) := by decide +kernel
theorem r_Model_keeper_18 : P_Model_keeper 18 = (none, .iconst (-1), []) := by decide +kernel
theorem r_Model_keeper_19 : P_Model_keeper 19 = (none, .istore 4, []) := by decide +kernel
theorem r_Model_keeper_21 : P_Model_keeper 21 = (none, .iconst 0, []) := by decide +kernel
theorem r_Model_keeper_22 : P_Model_keeper 22 = (none, .istore 5, []) := by decide +kernel
theorem r_Model_keeper_24 : P_Model_keeper 24 = (some [0, 1, 2, 3, 4, 5], .iload 5, []) := by decide +kernel
theorem r_Model_keeper_26 : P_Model_keeper 26 = (none, .aload_n 0, []) := by decide +kernel
theorem r_Model_keeper_27 : P_Model_keeper 27 = (none, .getfield 50, []) := by decide +kernel
theorem r_Model_keeper_30 : P_Model_keeper 30 = (none, .iload_n 1, []) := by decide +kernel
theorem r_Model_keeper_31 : P_Model_keeper 31 = (none, .iaload, []) := by decide +kernel
theorem r_Model_keeper_32 : P_Model_keeper 32 = (none, .if_icmp .ge 75, [107]) := by decide +kernel
theorem r_Model_keeper_35 : P_Model_keeper 35 = (none, .aload_n 0, []) := by decide +kernel
theorem r_Model_keeper_36 : P_Model_keeper 36 = (none, .getfield 62, []) := by decide +kernel
theorem r_Model_keeper_39 : P_Model_keeper 39 = (none, .iload 5, []) := by decide +kernel
theorem r_Model_keeper_41 : P_Model_keeper 41 = (none, .baload, []) := by decide +kernel
theorem r_Model_keeper_42 : P_Model_keeper 42 = (none, .ifCond .eq 59, [101]) := by decide +kernel
theorem r_Model_keeper_45 : P_Model_keeper 45 = (none, .iload 5, []) := by decide +kernel
theorem r_Model_keeper_47 : P_Model_keeper 47 = (none, .iload_n 3, []) := by decide +kernel
theorem r_Model_keeper_48 : P_Model_keeper 48 = (none, .if_icmp .ne 6, [54]) := by decide +kernel
theorem r_Model_keeper_51 : P_Model_keeper 51 = (none, .goto 50, [101]) := by decide +kernel
theorem r_Model_keeper_54 : P_Model_keeper 54 = (none, .aload_n 0, []) := by decide +kernel
theorem r_Model_keeper_55 : P_Model_keeper 55 = (none, .iload_n 1, []) := by decide +kernel
theorem r_Model_keeper_56 : P_Model_keeper 56 = (none, .iload 5, []) := by decide +kernel
theorem r_Model_keeper_58 : P_Model_keeper 58 = (none, .aload_n 0, []) := by decide +kernel
theorem r_Model_keeper_59 : P_Model_keeper 59 = (none, .getfield 66, []) := by decide +kernel
theorem r_Model_keeper_62 : P_Model_keeper 62 = (none, .iconst 0, []) := by decide +kernel
theorem r_Model_keeper_63 : P_Model_keeper 63 = (none, .invokevirtual 178, []) := by decide +kernel
theorem r_Model_keeper_66 : P_Model_keeper 66 = (none, .aload_n 0, []) := by decide +kernel
theorem r_Model_keeper_67 : P_Model_keeper 67 = (none, .getfield 66, []) := by decide +kernel
theorem r_Model_keeper_70 : P_Model_keeper 70 = (none, .iload_n 3, []) := by decide +kernel
theorem r_Model_keeper_71 : P_Model_keeper 71 = (none, .baload, []) := by decide +kernel
theorem r_Model_keeper_72 : P_Model_keeper 72 = (none, .ifCond .ne 29, [101]) := by decide +kernel
theorem r_Model_keeper_75 : P_Model_keeper 75 = (none, .iload 4, []) := by decide +kernel
theorem r_Model_keeper_77 : P_Model_keeper 77 = (none, .ifCond .lt 20, [97]) := by decide +kernel
theorem r_Model_keeper_80 : P_Model_keeper 80 = (none, .aload_n 0, []) := by decide +kernel
theorem r_Model_keeper_81 : P_Model_keeper 81 = (none, .getfield 84, []) := by decide +kernel
theorem r_Model_keeper_84 : P_Model_keeper 84 = (none, .iload 5, []) := by decide +kernel
theorem r_Model_keeper_86 : P_Model_keeper 86 = (none, .iaload, []) := by decide +kernel
theorem r_Model_keeper_87 : P_Model_keeper 87 = (none, .aload_n 0, []) := by decide +kernel
theorem r_Model_keeper_88 : P_Model_keeper 88 = (none, .getfield 84, []) := by decide +kernel
theorem r_Model_keeper_91 : P_Model_keeper 91 = (none, .iload 4, []) := by decide +kernel
theorem r_Model_keeper_93 : P_Model_keeper 93 = (none, .iaload, []) := by decide +kernel
theorem r_Model_keeper_94 : P_Model_keeper 94 = (none, .if_icmp .le 7, [101]) := by decide +kernel
theorem r_Model_keeper_97 : P_Model_keeper 97 = (none, .iload 5, []) := by decide +kernel
theorem r_Model_keeper_99 : P_Model_keeper 99 = (none, .istore 4, []) := by decide +kernel
theorem r_Model_keeper_101 : P_Model_keeper 101 = (none, .iinc 5 1, []) := by decide +kernel
theorem r_Model_keeper_104 : P_Model_keeper 104 = (none, .goto (-80), [24]) := by decide +kernel
theorem r_Model_keeper_107 : P_Model_keeper 107 = (none, .iload 4, []) := by decide +kernel
theorem r_Model_keeper_109 : P_Model_keeper 109 = (none, .ifCond .ge 7, [116]) := by decide +kernel
theorem r_Model_keeper_112 : P_Model_keeper 112 = (none, .iconst 0, []) := by decide +kernel
theorem r_Model_keeper_113 : P_Model_keeper 113 = (none, .goto 10, [123]) := by decide +kernel
theorem r_Model_keeper_116 : P_Model_keeper 116 = (none, .aload_n 0, []) := by decide +kernel
theorem r_Model_keeper_117 : P_Model_keeper 117 = (none, .iload_n 1, []) := by decide +kernel
theorem r_Model_keeper_118 : P_Model_keeper 118 = (none, .iload 4, []) := by decide +kernel
theorem r_Model_keeper_120 : P_Model_keeper 120 = (none, .invokevirtual 165, []) := by decide +kernel
theorem r_Model_keeper_123 : P_Model_keeper 123 = (none, .ireturn, []) := by decide +kernel
def E_Model_keeper : List (Nat × Ent) := [(660, (3, 2, 0, 0, T_Model_numberOf)), (712, (5, 7, 0, 0, T_Model_live)), (740, (3, 8, 0, 0, T_Model_livingPlace)), (752, (2, 8, 0, 0, T_Model_weigh))]
def X_Model_keeper : Cx := (llk (0, 0, 9) ftX11, llk 99 ntX11, llk none kcX11, llk none klX11, llk dEnt E_Model_keeper, 9, 0, false)
theorem xok_Model_keeper : Xok RX11 X_Model_keeper := xok_of ftX11_ok ntX11_ok kcX11_ok klX11_ok (E := E_Model_keeper) (List.forall_mem_cons.mpr ⟨co_X11_660, List.forall_mem_cons.mpr ⟨co_X11_712, List.forall_mem_cons.mpr ⟨co_X11_740, List.forall_mem_cons.mpr ⟨co_X11_752, fun _ h => absurd h List.not_mem_nil⟩⟩⟩⟩)
theorem xf_Model_keeper_50 : xfl X_Model_keeper 50 = (11, 14, 1) := by decide +kernel
theorem xf_Model_keeper_62 : xfl X_Model_keeper 62 = (11, 18, 1) := by decide +kernel
theorem xf_Model_keeper_66 : xfl X_Model_keeper 66 = (11, 19, 1) := by decide +kernel
theorem xf_Model_keeper_84 : xfl X_Model_keeper 84 = (11, 26, 1) := by decide +kernel
theorem xe_Model_keeper_660 : xE X_Model_keeper (4 * 165 + 0) = (3, 2, 0, 0, T_Model_numberOf) := rfl
theorem xe_Model_keeper_712 : xE X_Model_keeper (4 * 178 + 0) = (5, 7, 0, 0, T_Model_live) := rfl
theorem xe_Model_keeper_740 : xE X_Model_keeper (4 * 185 + 0) = (3, 8, 0, 0, T_Model_livingPlace) := rfl
theorem xe_Model_keeper_752 : xE X_Model_keeper (4 * 188 + 0) = (2, 8, 0, 0, T_Model_weigh) := rfl
theorem xd_Model_keeper : xd X_Model_keeper = 9 := rfl
theorem xrb_Model_keeper : xrb X_Model_keeper = 0 := rfl
theorem xin_Model_keeper : xin X_Model_keeper = false := rfl
set_option maxHeartbeats 4000000 in
set_option maxRecDepth 100000 in
theorem S_Model_keeper : Snd yX11_keeper cX11_keeper 6 (some .int) T_Model_keeper 9 0 0 := by
  refine snd_of (X := X_Model_keeper) (P := P_Model_keeper) (tb := tb_Model_keeper) (own := RX11) (by decide) rfl rfl (by decide +kernel) xok_Model_keeper rfl rk0 (fun h => by first | rfl | cases h) ?_
  intro as M k has hM hT0
  obtain ⟨sz, sl, lay, ρ, σ, τ⟩ := M
  obtain ⟨o, as1, e, hlo, hT1⟩ := mkT_r hT0
  clear hT0
  subst e
  obtain ⟨p, as2, e, hT2⟩ := pI_x hT1
  clear hT1
  subst e
  obtain ⟨x, as3, e, hT3⟩ := pI_x hT2
  clear hT2
  subst e
  obtain ⟨e, hT⟩ := hT3
  subst e
  replace hlo : lay o = (21, 0) := hlo
  have r_p : -2147483648 ≤ p ∧ p ≤ 2147483647 := has (vI p) (by simp)
  have r_x : -2147483648 ≤ x ∧ x ≤ 2147483647 := has (vI x) (by simp)
  clear has
  replace hM : ∀ a i, -2147483648 ≤ σ a i ∧ σ a i ≤ 2147483647 := hM
  replace hT : TF_Model_keeper o p x sz sl lay ρ σ τ k := hT
  unfold TF_Model_keeper at hT
  obtain ⟨hL, U, len, st, hMP, h1, h0⟩ := hT
  obtain ⟨J, hJd⟩ : ∃ J : Nat → List AV → Mm → Prop, J = (fun c vs M1 => (0 ≤ p ∧ p < 3) ∧ (c = 24 ∧ 0 ≤ fn U st x ∧ lvP U st (fn U st x) ∧ ∃ (i : Nat) (b : Int) (σ1 : Nat → Int → Int), QF σ σ1 o ∧ (∀ x, 0 ≤ x ∧ x < st 0 7 → (σ1 (o + 18) x = 0 ∨ σ1 (o + 18) x = 1) ∧ (σ1 (o + 18) x = 1 ↔ lvP U st x)) ∧ (∀ z, 0 ≤ z ∧ z < st 0 7 → lvP U st z → σ1 (o + 25) z = hgP U st z) ∧ (i : Int) ≤ st 0 7 ∧ KpW U st i (fn U st x) b ∧ vs = [vR o, vI p, vI x, vI (fn U st x), vI b, vI (i : Int)] ∧ M1 = (sz, sl, lay, ρ, σ1, τ))) := ⟨_, rfl⟩
  obtain ⟨μ, hμ⟩ : ∃ μ : Nat → List AV → Mm → Nat, μ = (fun _ vs _ => (1000 - gI (vs.getD 5 vN)).toNat) := ⟨_, rfl⟩
  refine ⟨Nat.le_of_ble_eq_true rfl, J, μ, 75, ?_, ?_⟩
  · skip
    by_cases hp : 0 ≤ p ∧ p < 3
    · have hpE : (0 ≤ p ∧ p < 3) = True := eq_true hp
      replace h1 := h1 hp
      obtain ⟨hS, hR⟩ := hMP hp
      obtain ⟨hB, hl3, ⟨m4, m5, m6⟩, ⟨m7, m8, m9⟩, m12, ⟨m14, m13⟩, m15, ⟨m17, m16⟩, m26⟩ := (show MR σ o p U len st from hR)
      obtain ⟨b1, b2, b3, b4, b5, b6, b7⟩ := (show MB σ o p U len (st 1) from hB)
      obtain ⟨w0, w1, w2, w3, w4, w5, w6, w7, w8, w9, w10, w11, w12, w13, w14⟩ := (show SW U len st from hS)
      (obtain ⟨mh, mp0, mp2, mp3, mp4, mp5, mp6, mp7, mp8, mp9, mp10, mp11, mp12, mp13, mp14, mp15, mp16, mp17, mp18, mp19, mp20, mp21, mp22, mp24, mp25, mp26, mp27, mq0, mq2, mq3, mq4, mq5, mq6, mq7, mq8, mq9, mq10, mq11, mq12, mq13, mq14, mq15, mq16, mq17, mq18, mq19, mq20, mq21, mq22, mq24, mq25, mq26, mq27⟩ := (show LModel lay ρ _ from hL); unfold wps; simp only [hpE, find_e hL hS hR, si_iload_n0, si_iload_n1, si_iload_n2, si_iload_n3, si_iload, si_lload_n0, si_lload_n1, si_lload_n2, si_lload_n3, si_lload, si_aload_n0, si_aload_n1, si_aload_n2, si_aload_n3, si_aload, si_istore_n0, si_istore_n1, si_istore_n2, si_istore_n3, si_istore, si_astore_n0, si_astore_n1, si_astore_n2, si_astore_n3, si_astore, si_lstore_n0, si_lstore_n1, si_lstore_n2, si_lstore_n3, si_lstore, si_iconst, si_bipush, si_sipush, si_ldc, si_ldc2_w, si_lconst0, si_lconst1, si_aconst_null, si_iinc, si_dup, si_dup2, si_iadd, si_isub, si_imul, si_idiv, si_irem, si_iand, si_ior, si_ishl, si_ishr, si_ladd, si_lmul, si_lor, si_lxor, si_lshl, si_lushr, si_lcmp, si_i2b, si_i2l, si_l2i, si_icmp_eq, si_icmp_ne, si_icmp_lt, si_icmp_ge, si_icmp_gt, si_icmp_le, si_if_eq, si_if_ne, si_if_lt, si_if_ge, si_if_gt, si_if_le, si_ifnull, si_ifnonnull, si_goto, si_tableswitch, si_lookupswitch, si_getfield, si_putfield, si_getstatic, si_iaload, si_baload, si_laload, si_aaload, si_iastore, si_bastore, si_lastore, si_aastore, si_arraylength, si_new, si_newarray, si_anewarray, si_invokevirtual, si_invokespecial, si_invokestatic, si_ireturn, si_lreturn, si_areturn, si_return_, pI_e, pL_e, pR_e, pA_r, pA_n, pN_n, pN_r, oI_e, oL_e, oA_r, oA_n, lget_e, lrm1_0, lrm2_0, lrm1_i, lrm1_r, lrm1_n, lrm1_l, lrm2_i, lrm2_r, lrm2_n, lrm2_l, popN_0, popN_s, acat_i, acat_l, acat_r, acat_n, stw_0, stw_s, psh_s, psh_n, wgf_r, wgf_i, wgf_b, wgf_n, wgf_m, wpf_i, wpf_r, wpf_b, wnew_e, callE_e, rbk_0, rbk_1, tsw_0, tsw_s, lsw_0, lsw_s, wp_s, wq_t, wq_f, oV_e, pick_0, pick_s, oZ_e, oY_e, r_Model_keeper_0, r_Model_keeper_1, r_Model_keeper_2, r_Model_keeper_3, r_Model_keeper_6, r_Model_keeper_7, r_Model_keeper_8, r_Model_keeper_11, r_Model_keeper_12, r_Model_keeper_13, r_Model_keeper_14, r_Model_keeper_15, r_Model_keeper_18, r_Model_keeper_19, r_Model_keeper_21, r_Model_keeper_22, r_Model_keeper_24, r_Model_keeper_26, r_Model_keeper_27, r_Model_keeper_30, r_Model_keeper_31, r_Model_keeper_32, r_Model_keeper_35, r_Model_keeper_36, r_Model_keeper_39, r_Model_keeper_41, r_Model_keeper_42, r_Model_keeper_45, r_Model_keeper_47, r_Model_keeper_48, r_Model_keeper_51, r_Model_keeper_54, r_Model_keeper_55, r_Model_keeper_56, r_Model_keeper_58, r_Model_keeper_59, r_Model_keeper_62, r_Model_keeper_63, r_Model_keeper_66, r_Model_keeper_67, r_Model_keeper_70, r_Model_keeper_71, r_Model_keeper_72, r_Model_keeper_75, r_Model_keeper_77, r_Model_keeper_80, r_Model_keeper_81, r_Model_keeper_84, r_Model_keeper_86, r_Model_keeper_87, r_Model_keeper_88, r_Model_keeper_91, r_Model_keeper_93, r_Model_keeper_94, r_Model_keeper_97, r_Model_keeper_99, r_Model_keeper_101, r_Model_keeper_104, r_Model_keeper_107, r_Model_keeper_109, r_Model_keeper_112, r_Model_keeper_113, r_Model_keeper_116, r_Model_keeper_117, r_Model_keeper_118, r_Model_keeper_120, r_Model_keeper_123, xf_Model_keeper_50, xf_Model_keeper_62, xf_Model_keeper_66, xf_Model_keeper_84, xe_Model_keeper_660, xe_Model_keeper_712, xe_Model_keeper_740, xe_Model_keeper_752, xd_Model_keeper, xrb_Model_keeper, xin_Model_keeper, T_Model_numberOf_e, TF_Model_numberOf, T_Model_live_e, TF_Model_live, T_Model_livingPlace_e, TF_Model_livingPlace, T_Model_weigh_e, TF_Model_weigh, mh, mp0, mp2, mp3, mp4, mp5, mp6, mp7, mp8, mp9, mp10, mp11, mp12, mp13, mp14, mp15, mp16, mp17, mp18, mp19, mp20, mp21, mp22, mp24, mp25, mp26, mp27, mq0, mq2, mq3, mq4, mq5, mq6, mq7, mq8, mq9, mq10, mq11, mq12, mq13, mq14, mq15, mq16, mq17, mq18, mq19, mq20, mq21, mq22, mq24, mq25, mq26, mq27, Nat.reduceAdd, Nat.reduceMul, Nat.reduceEqDiff, reduceIte, Int.reduceNeg, Int.reduceLE, Int.reduceLT, Int.reduceAdd, Int.reduceSub, Int.reduceToNat, true_and, and_true, inR_e, Nat.reduceLT, Nat.reduceLeDiff, reduceCtorEq, Nat.add_zero, Nat.zero_add, or_false, false_or, or_true, true_or, not_true_eq_false, not_false_eq_true, Classical.not_not, Nat.add_eq_zero_iff, and_false, false_and, Int.reduceEq, List.mem_cons, List.not_mem_nil, forall_eq_or_imp, forall_eq, false_implies, implies_true, forall_const, aargs_0, aargs_i, aargs_r, aargs_l, aargs_n, nfT_e, eq_self, and_self, Nat.le_refl, fu_s, fu_fu, iu_iu, iu_s, fu_am, fu_a0, fu_0a, iu_l, Nat.reduceBEq, Int.reduceBEq, T_objInit_e]; clear mp0 mp2 mp3 mp4 mp5 mp6 mp7 mp8 mp9 mp10 mp11 mp12 mp13 mp14 mp15 mp16 mp17 mp18 mp19 mp20 mp21 mp22 mp24 mp25 mp26 mp27)
      have fR := hS.fnR x
      refine ⟨hL, U, len, st, hMP, fun a => h1.2 (fun z => by omega) σ QF.rf, fun a σ2 f1 f2 => ⟨fun b => ⟨fun _ => ?_, fun z => absurd a z⟩, fun b => h1.2 (fun z => b z.2) σ2 (f1.qf (Or.inl rfl))⟩⟩
      refine ⟨hL, U, len, st, hS, f1.mr (Or.inl rfl) hR, fun σ3 c1 c2 c3 c4 => ?_⟩
      rw [hJd]
      exact ⟨hp, rfl, a, b, 0, -1, σ3, (f1.qf (Or.inl rfl)).trans c1, c2, c4, by omega, Or.inl ⟨rfl, fun y hy => by omega⟩, rfl, rfl⟩
    · have hpE : (0 ≤ p ∧ p < 3) = False := eq_false hp
      (obtain ⟨mh, mp0, mp2, mp3, mp4, mp5, mp6, mp7, mp8, mp9, mp10, mp11, mp12, mp13, mp14, mp15, mp16, mp17, mp18, mp19, mp20, mp21, mp22, mp24, mp25, mp26, mp27, mq0, mq2, mq3, mq4, mq5, mq6, mq7, mq8, mq9, mq10, mq11, mq12, mq13, mq14, mq15, mq16, mq17, mq18, mq19, mq20, mq21, mq22, mq24, mq25, mq26, mq27⟩ := (show LModel lay ρ _ from hL); unfold wps; simp only [hpE, si_iload_n0, si_iload_n1, si_iload_n2, si_iload_n3, si_iload, si_lload_n0, si_lload_n1, si_lload_n2, si_lload_n3, si_lload, si_aload_n0, si_aload_n1, si_aload_n2, si_aload_n3, si_aload, si_istore_n0, si_istore_n1, si_istore_n2, si_istore_n3, si_istore, si_astore_n0, si_astore_n1, si_astore_n2, si_astore_n3, si_astore, si_lstore_n0, si_lstore_n1, si_lstore_n2, si_lstore_n3, si_lstore, si_iconst, si_bipush, si_sipush, si_ldc, si_ldc2_w, si_lconst0, si_lconst1, si_aconst_null, si_iinc, si_dup, si_dup2, si_iadd, si_isub, si_imul, si_idiv, si_irem, si_iand, si_ior, si_ishl, si_ishr, si_ladd, si_lmul, si_lor, si_lxor, si_lshl, si_lushr, si_lcmp, si_i2b, si_i2l, si_l2i, si_icmp_eq, si_icmp_ne, si_icmp_lt, si_icmp_ge, si_icmp_gt, si_icmp_le, si_if_eq, si_if_ne, si_if_lt, si_if_ge, si_if_gt, si_if_le, si_ifnull, si_ifnonnull, si_goto, si_tableswitch, si_lookupswitch, si_getfield, si_putfield, si_getstatic, si_iaload, si_baload, si_laload, si_aaload, si_iastore, si_bastore, si_lastore, si_aastore, si_arraylength, si_new, si_newarray, si_anewarray, si_invokevirtual, si_invokespecial, si_invokestatic, si_ireturn, si_lreturn, si_areturn, si_return_, pI_e, pL_e, pR_e, pA_r, pA_n, pN_n, pN_r, oI_e, oL_e, oA_r, oA_n, lget_e, lrm1_0, lrm2_0, lrm1_i, lrm1_r, lrm1_n, lrm1_l, lrm2_i, lrm2_r, lrm2_n, lrm2_l, popN_0, popN_s, acat_i, acat_l, acat_r, acat_n, stw_0, stw_s, psh_s, psh_n, wgf_r, wgf_i, wgf_b, wgf_n, wgf_m, wpf_i, wpf_r, wpf_b, wnew_e, callE_e, rbk_0, rbk_1, tsw_0, tsw_s, lsw_0, lsw_s, wp_s, wq_t, wq_f, oV_e, pick_0, pick_s, oZ_e, oY_e, r_Model_keeper_0, r_Model_keeper_1, r_Model_keeper_2, r_Model_keeper_3, r_Model_keeper_6, r_Model_keeper_7, r_Model_keeper_8, r_Model_keeper_11, r_Model_keeper_12, r_Model_keeper_13, r_Model_keeper_14, r_Model_keeper_15, r_Model_keeper_18, r_Model_keeper_19, r_Model_keeper_21, r_Model_keeper_22, r_Model_keeper_24, r_Model_keeper_26, r_Model_keeper_27, r_Model_keeper_30, r_Model_keeper_31, r_Model_keeper_32, r_Model_keeper_35, r_Model_keeper_36, r_Model_keeper_39, r_Model_keeper_41, r_Model_keeper_42, r_Model_keeper_45, r_Model_keeper_47, r_Model_keeper_48, r_Model_keeper_51, r_Model_keeper_54, r_Model_keeper_55, r_Model_keeper_56, r_Model_keeper_58, r_Model_keeper_59, r_Model_keeper_62, r_Model_keeper_63, r_Model_keeper_66, r_Model_keeper_67, r_Model_keeper_70, r_Model_keeper_71, r_Model_keeper_72, r_Model_keeper_75, r_Model_keeper_77, r_Model_keeper_80, r_Model_keeper_81, r_Model_keeper_84, r_Model_keeper_86, r_Model_keeper_87, r_Model_keeper_88, r_Model_keeper_91, r_Model_keeper_93, r_Model_keeper_94, r_Model_keeper_97, r_Model_keeper_99, r_Model_keeper_101, r_Model_keeper_104, r_Model_keeper_107, r_Model_keeper_109, r_Model_keeper_112, r_Model_keeper_113, r_Model_keeper_116, r_Model_keeper_117, r_Model_keeper_118, r_Model_keeper_120, r_Model_keeper_123, xf_Model_keeper_50, xf_Model_keeper_62, xf_Model_keeper_66, xf_Model_keeper_84, xe_Model_keeper_660, xe_Model_keeper_712, xe_Model_keeper_740, xe_Model_keeper_752, xd_Model_keeper, xrb_Model_keeper, xin_Model_keeper, T_Model_numberOf_e, TF_Model_numberOf, T_Model_live_e, TF_Model_live, T_Model_livingPlace_e, TF_Model_livingPlace, T_Model_weigh_e, TF_Model_weigh, mh, mp0, mp2, mp3, mp4, mp5, mp6, mp7, mp8, mp9, mp10, mp11, mp12, mp13, mp14, mp15, mp16, mp17, mp18, mp19, mp20, mp21, mp22, mp24, mp25, mp26, mp27, mq0, mq2, mq3, mq4, mq5, mq6, mq7, mq8, mq9, mq10, mq11, mq12, mq13, mq14, mq15, mq16, mq17, mq18, mq19, mq20, mq21, mq22, mq24, mq25, mq26, mq27, Nat.reduceAdd, Nat.reduceMul, Nat.reduceEqDiff, reduceIte, Int.reduceNeg, Int.reduceLE, Int.reduceLT, Int.reduceAdd, Int.reduceSub, Int.reduceToNat, true_and, and_true, inR_e, Nat.reduceLT, Nat.reduceLeDiff, reduceCtorEq, Nat.add_zero, Nat.zero_add, or_false, false_or, or_true, true_or, not_true_eq_false, not_false_eq_true, Classical.not_not, Nat.add_eq_zero_iff, and_false, false_and, Int.reduceEq, List.mem_cons, List.not_mem_nil, forall_eq_or_imp, forall_eq, false_implies, implies_true, forall_const, aargs_0, aargs_i, aargs_r, aargs_l, aargs_n, nfT_e, eq_self, and_self, Nat.le_refl, fu_s, fu_fu, iu_iu, iu_s, fu_am, fu_a0, fu_0a, iu_l, Nat.reduceBEq, Int.reduceBEq, T_objInit_e]; clear mp0 mp2 mp3 mp4 mp5 mp6 mp7 mp8 mp9 mp10 mp11 mp12 mp13 mp14 mp15 mp16 mp17 mp18 mp19 mp20 mp21 mp22 mp24 mp25 mp26 mp27)
      exact ⟨hL, U, len, st, hMP, h0 hp⟩
  · intro cp vs M1 hvs hM1 hlen hJ
    rw [hJd] at hJ
    obtain ⟨hp, hJ⟩ := hJ
    have hpE : (0 ≤ p ∧ p < 3) = True := eq_true hp
    replace h1 := h1 hp
    obtain ⟨hS, hR⟩ := hMP hp
    obtain ⟨w0, w1, w2, w3, w4, w5, w6, w7, w8, w9, w10, w11, w12, w13, w14⟩ := (show SW U len st from hS)
    obtain ⟨rfl, a, lv, i, b, σ1, g1, g2, g3, g4, g5, rfl, rfl⟩ := hJ
    have hR1 := (g1.mr hR)
    obtain ⟨hB, hl3, ⟨m4, m5, m6⟩, ⟨m7, m8, m9⟩, m12, ⟨m14, m13⟩, m15, ⟨m17, m16⟩, m26⟩ := (show MR σ1 o p U len st from hR1)
    obtain ⟨b1, b2, b3, b4, b5, b6, b7⟩ := (show MB σ1 o p U len (st 1) from hB)
    have fR := hS.fnR x
    (obtain ⟨mh, mp0, mp2, mp3, mp4, mp5, mp6, mp7, mp8, mp9, mp10, mp11, mp12, mp13, mp14, mp15, mp16, mp17, mp18, mp19, mp20, mp21, mp22, mp24, mp25, mp26, mp27, mq0, mq2, mq3, mq4, mq5, mq6, mq7, mq8, mq9, mq10, mq11, mq12, mq13, mq14, mq15, mq16, mq17, mq18, mq19, mq20, mq21, mq22, mq24, mq25, mq26, mq27⟩ := (show LModel lay ρ _ from hL); unfold wps; simp only [Option.getD_some, List.zip_cons_cons, List.zip_nil_left, List.zip_nil_right, List.zip_nil_right, MB_fu, MR_fu, si_iload_n0, si_iload_n1, si_iload_n2, si_iload_n3, si_iload, si_lload_n0, si_lload_n1, si_lload_n2, si_lload_n3, si_lload, si_aload_n0, si_aload_n1, si_aload_n2, si_aload_n3, si_aload, si_istore_n0, si_istore_n1, si_istore_n2, si_istore_n3, si_istore, si_astore_n0, si_astore_n1, si_astore_n2, si_astore_n3, si_astore, si_lstore_n0, si_lstore_n1, si_lstore_n2, si_lstore_n3, si_lstore, si_iconst, si_bipush, si_sipush, si_ldc, si_ldc2_w, si_lconst0, si_lconst1, si_aconst_null, si_iinc, si_dup, si_dup2, si_iadd, si_isub, si_imul, si_idiv, si_irem, si_iand, si_ior, si_ishl, si_ishr, si_ladd, si_lmul, si_lor, si_lxor, si_lshl, si_lushr, si_lcmp, si_i2b, si_i2l, si_l2i, si_icmp_eq, si_icmp_ne, si_icmp_lt, si_icmp_ge, si_icmp_gt, si_icmp_le, si_if_eq, si_if_ne, si_if_lt, si_if_ge, si_if_gt, si_if_le, si_ifnull, si_ifnonnull, si_goto, si_tableswitch, si_lookupswitch, si_getfield, si_putfield, si_getstatic, si_iaload, si_baload, si_laload, si_aaload, si_iastore, si_bastore, si_lastore, si_aastore, si_arraylength, si_new, si_newarray, si_anewarray, si_invokevirtual, si_invokespecial, si_invokestatic, si_ireturn, si_lreturn, si_areturn, si_return_, pI_e, pL_e, pR_e, pA_r, pA_n, pN_n, pN_r, oI_e, oL_e, oA_r, oA_n, lget_e, lrm1_0, lrm2_0, lrm1_i, lrm1_r, lrm1_n, lrm1_l, lrm2_i, lrm2_r, lrm2_n, lrm2_l, popN_0, popN_s, acat_i, acat_l, acat_r, acat_n, stw_0, stw_s, psh_s, psh_n, wgf_r, wgf_i, wgf_b, wgf_n, wgf_m, wpf_i, wpf_r, wpf_b, wnew_e, callE_e, rbk_0, rbk_1, tsw_0, tsw_s, lsw_0, lsw_s, wp_s, wq_t, wq_f, oV_e, pick_0, pick_s, oZ_e, oY_e, r_Model_keeper_0, r_Model_keeper_1, r_Model_keeper_2, r_Model_keeper_3, r_Model_keeper_6, r_Model_keeper_7, r_Model_keeper_8, r_Model_keeper_11, r_Model_keeper_12, r_Model_keeper_13, r_Model_keeper_14, r_Model_keeper_15, r_Model_keeper_18, r_Model_keeper_19, r_Model_keeper_21, r_Model_keeper_22, r_Model_keeper_24, r_Model_keeper_26, r_Model_keeper_27, r_Model_keeper_30, r_Model_keeper_31, r_Model_keeper_32, r_Model_keeper_35, r_Model_keeper_36, r_Model_keeper_39, r_Model_keeper_41, r_Model_keeper_42, r_Model_keeper_45, r_Model_keeper_47, r_Model_keeper_48, r_Model_keeper_51, r_Model_keeper_54, r_Model_keeper_55, r_Model_keeper_56, r_Model_keeper_58, r_Model_keeper_59, r_Model_keeper_62, r_Model_keeper_63, r_Model_keeper_66, r_Model_keeper_67, r_Model_keeper_70, r_Model_keeper_71, r_Model_keeper_72, r_Model_keeper_75, r_Model_keeper_77, r_Model_keeper_80, r_Model_keeper_81, r_Model_keeper_84, r_Model_keeper_86, r_Model_keeper_87, r_Model_keeper_88, r_Model_keeper_91, r_Model_keeper_93, r_Model_keeper_94, r_Model_keeper_97, r_Model_keeper_99, r_Model_keeper_101, r_Model_keeper_104, r_Model_keeper_107, r_Model_keeper_109, r_Model_keeper_112, r_Model_keeper_113, r_Model_keeper_116, r_Model_keeper_117, r_Model_keeper_118, r_Model_keeper_120, r_Model_keeper_123, xf_Model_keeper_50, xf_Model_keeper_62, xf_Model_keeper_66, xf_Model_keeper_84, xe_Model_keeper_660, xe_Model_keeper_712, xe_Model_keeper_740, xe_Model_keeper_752, xd_Model_keeper, xrb_Model_keeper, xin_Model_keeper, T_Model_numberOf_e, TF_Model_numberOf, T_Model_live_e, TF_Model_live, T_Model_livingPlace_e, TF_Model_livingPlace, T_Model_weigh_e, TF_Model_weigh, mh, mp0, mp2, mp3, mp4, mp5, mp6, mp7, mp8, mp9, mp10, mp11, mp12, mp13, mp14, mp15, mp16, mp17, mp18, mp19, mp20, mp21, mp22, mp24, mp25, mp26, mp27, mq0, mq2, mq3, mq4, mq5, mq6, mq7, mq8, mq9, mq10, mq11, mq12, mq13, mq14, mq15, mq16, mq17, mq18, mq19, mq20, mq21, mq22, mq24, mq25, mq26, mq27, Nat.reduceAdd, Nat.reduceMul, Nat.reduceEqDiff, reduceIte, Int.reduceNeg, Int.reduceLE, Int.reduceLT, Int.reduceAdd, Int.reduceSub, Int.reduceToNat, true_and, and_true, inR_e, Nat.reduceLT, Nat.reduceLeDiff, reduceCtorEq, Nat.add_zero, Nat.zero_add, or_false, false_or, or_true, true_or, not_true_eq_false, not_false_eq_true, Classical.not_not, Nat.add_eq_zero_iff, and_false, false_and, Int.reduceEq, List.mem_cons, List.not_mem_nil, forall_eq_or_imp, forall_eq, false_implies, implies_true, forall_const, aargs_0, aargs_i, aargs_r, aargs_l, aargs_n, nfT_e, eq_self, and_self, Nat.le_refl, fu_s, fu_fu, iu_iu, iu_s, fu_am, fu_a0, fu_0a, iu_l, Nat.reduceBEq, Int.reduceBEq, T_objInit_e]; clear mp0 mp2 mp3 mp4 mp5 mp6 mp7 mp8 mp9 mp10 mp11 mp12 mp13 mp14 mp15 mp16 mp17 mp18 mp19 mp20 mp21 mp22 mp24 mp25 mp26 mp27)
    rw [m14]
    refine ⟨by omega, by omega, fun z => ?_, fun z => ⟨by omega, by omega, ?_⟩⟩
    · rw [show (i : Int) = st 0 7 by omega] at g5
      refine ⟨fun hb => ?_, fun hb => ?_⟩
      · have hbR : 0 ≤ b ∧ b < st 0 7 := by
          rcases g5 with q | q
          · omega
          · exact q.1
        have tv := hS.tv hbR
        have t0 := tv.1.2.1
        have t4 := tv.1.2.2.1
        rw [m13 b hbR]
        exact ⟨hL, U, len, st 1, hB, by omega, by omega, (h1.1 a lv b g5 σ1 g1).2 hb⟩
      · refine (h1.1 a lv b g5 σ1 g1).1 ?_
        rcases g5 with q | q
        · exact q.1
        · omega
    · have gi := g2 (i : Int) (by omega)
      have skip : KpW U st ((i : Int) + 1) (fn U st x) b → ∀ s1 : Nat → Int → Int, QF σ s1 o → (∀ x, 0 ≤ x ∧ x < st 0 7 → (s1 (o + 18) x = 0 ∨ s1 (o + 18) x = 1) ∧ (s1 (o + 18) x = 1 ↔ lvP U st x)) → (∀ z, 0 ≤ z ∧ z < st 0 7 → lvP U st z → s1 (o + 25) z = hgP U st z) → J 24 [vR o, vI p, vI x, vI (fn U st x), vI b, vI ((i : Int) + 1)] (sz, sl, lay, ρ, s1, τ) := by
        intro h s1 c1 c2 c3
        rw [hJd]
        exact ⟨hp, rfl, a, lv, i + 1, b, s1, c1, c2, c3, by omega, h, rfl, rfl⟩
      refine ⟨fun h => ⟨by omega, skip (g5.no (by omega) (fun q => by have := gi.2.mpr q.1; omega)) σ1 g1 g2 g3, (by rw [hμ]; simp only [gI_e, List.getD_cons_succ, List.getD_cons_zero]; omega)⟩, fun h => ⟨fun h2 => ⟨hL, U, len, st, hS, hR1, by omega, fun σ2 f1 f2 => ?_⟩, fun h2 => ⟨by omega, skip (g5.no (by omega) (fun q => q.2.1 h2)) σ1 g1 g2 g3, (by rw [hμ]; simp only [gI_e, List.getD_cons_succ, List.getD_cons_zero]; omega)⟩⟩⟩
      have lvi : lvP U st i := by
        rcases gi.1 with q | q
        · exact absurd q h
        · exact gi.2.mp q
      have q18 : σ2 (o + 18) = σ1 (o + 18) := f1 _ (by omega) (by omega) (by omega)
      have q25 : σ2 (o + 25) = σ1 (o + 25) := f1 _ (by omega) (by omega) (by omega)
      have k1 : QF σ σ2 o := g1.trans (f1.qf (Or.inr rfl))
      have k2 : (∀ x, 0 ≤ x ∧ x < st 0 7 → (σ2 (o + 18) x = 0 ∨ σ2 (o + 18) x = 1) ∧ (σ2 (o + 18) x = 1 ↔ lvP U st x)) := by rw [q18]; exact g2
      have k3 : (∀ z, 0 ≤ z ∧ z < st 0 7 → lvP U st z → σ2 (o + 25) z = hgP U st z) := by rw [q25]; exact g3
      have fx := f2 (fn U st x) (by omega)
      have hbR : b = -1 ∨ ((0 ≤ b ∧ b < i) ∧ lvP U st b) := by
        rcases g5 with q | q
        · exact Or.inl q.1
        · exact Or.inr ⟨q.1, q.2.1.1⟩
      refine ⟨by omega, by omega, fun h3 => ⟨by omega, skip (g5.no (by omega) (fun q => ?_)) σ2 k1 k2 k3, (by rw [hμ]; simp only [gI_e, List.getD_cons_succ, List.getD_cons_zero]; omega)⟩, fun h3 => ?_⟩
      · rcases fx.1 with q2 | q2
        · exact absurd q2 h3
        · exact q.2.2 (fx.2.mp q2)
      · have dm : dmP U st i (fn U st x) := fun q => by have := fx.2.mpr q; omega
        have tk : (b < 0 ∨ hgP U st b < hgP U st i) → J 24 [vR o, vI p, vI x, vI (fn U st x), vI (i : Int), vI ((i : Int) + 1)] (sz, sl, lay, ρ, σ2, τ) := by
          intro q
          rw [hJd]
          exact ⟨hp, rfl, a, lv, i + 1, i, σ2, k1, k2, k3, by omega, g5.yes (by omega) ⟨lvi, h2, dm⟩ q, rfl, rfl⟩
        rw [k3 (i : Int) (by omega) lvi]
        refine ⟨fun h4 => ⟨by omega, tk (Or.inl h4), (by rw [hμ]; simp only [gI_e, List.getD_cons_succ, List.getD_cons_zero]; omega)⟩, fun h4 => ?_⟩
        rcases hbR with q | q
        · omega
        · rw [k3 b (by omega) q.2]
          exact ⟨by omega, by omega, by omega, by omega, fun h5 => ⟨by omega, skip (g5.old (by omega) ⟨by omega, h5⟩) σ2 k1 k2 k3, (by rw [hμ]; simp only [gI_e, List.getD_cons_succ, List.getD_cons_zero]; omega)⟩, fun h5 => ⟨by omega, tk (Or.inr (by omega)), (by rw [hμ]; simp only [gI_e, List.getD_cons_succ, List.getD_cons_zero]; omega)⟩⟩

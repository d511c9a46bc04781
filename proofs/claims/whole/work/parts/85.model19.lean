def TF_Model_top (o : Nat) (p : Int) (i : Int) (sz sl : Nat) (lay : Nat → Nat × Int) (ρ : Nat → Int → Nat) (σ : Nat → Int → Int) (τ : Nat → Int → Int64) (k : Option AV → Mm → Prop) : Prop := LModel lay ρ o ∧ ∃ (U : Int → Int) (len : Int) (st : Nat → Int → Int), MdP σ o p U len st ∧ (0 ≤ p ∧ p < 3 → (∀ y, 0 ≤ y ∧ y < st 0 7 → lvP U st y → cntP (fun z => lvP U st z ∧ Ahd (numA U (st 2)) (ktP U st) z y) (st 0 7).toNat = i → ∀ σ2 : Nat → Int → Int, QF σ σ2 o → k (some (vI (numA U (st 2) y))) (sz, sl, lay, ρ, σ2, τ)) ∧ ((∀ y, 0 ≤ y ∧ y < st 0 7 → lvP U st y → ¬ cntP (fun z => lvP U st z ∧ Ahd (numA U (st 2)) (ktP U st) z y) (st 0 7).toNat = i) → ∀ σ2 : Nat → Int → Int, QF σ σ2 o → k (some (vI (-1))) (sz, sl, lay, ρ, σ2, τ))) ∧ (¬ (0 ≤ p ∧ p < 3) → k (some (vI (-1))) (sz, sl, lay, ρ, σ, τ))
def T_Model_top : Tr := mkT 11 fun o as M k => pI as fun p as => pI as fun i as => as = [] ∧ TF_Model_top o p i M.1 M.2.1 M.2.2.1 M.2.2.2.1 M.2.2.2.2.1 M.2.2.2.2.2 k
theorem T_Model_top_e {o : Nat} {p : Int} {i : Int} {sz sl : Nat} {lay : Nat → Nat × Int} {ρ : Nat → Int → Nat} {σ : Nat → Int → Int} {τ : Nat → Int → Int64} {k : Option AV → Mm → Prop} : T_Model_top [vR o, vI p, vI i] (sz, sl, lay, ρ, σ, τ) k = (lay o = (21, 0) ∧ TF_Model_top o p i sz sl lay ρ σ τ k) := by simp [T_Model_top, mkT_e, pI_e, pR_e, pL_e]
theorem T_Model_top_r (as : List AV) (M : Mm) (k : Option AV → Mm → Prop) (h : T_Model_top as M k) : ∃ b As, as = vR b :: As ∧ M.2.2.1 b = (10 + 11, 0) := by
  obtain ⟨b, As, h1, h2, -⟩ := mkT_r h
  exact ⟨b, As, h1, h2⟩
def tb_Model_top : List (Nat × Option (List Nat) × Instr × List Nat) := [(0, none, .iload_n 1, []), (1, none, .invokestatic 161, []), (4, none, .ifCond .eq 7, [11]), (7, none, .iload_n 2, []), (8, none, .ifCond .ge 5, [13]), (11, none, .iconst (-1), []), (12, none, .ireturn, []), (13, none, .aload_n 0, []), (14, none, .iload_n 1, []), (15, none, .invokevirtual 188, []), (18, none, .iconst 0, []), (19, none, .istore_n 3, []), (20, some [0, 1, 2, 3], .iload_n 3, []), (21, none, .aload_n 0, []), (22, none, .getfield 50, []), (25, none, .iload_n 1, []), (26, none, .iaload, []), (27, none, .if_icmp .ge 125, [152]), (30, none, .aload_n 0, []), (31, none, .getfield 62, []), (34, none, .iload_n 3, []), (35, none, .baload, []), (36, none, .ifCond .ne 6, [42]), (39, none, .goto 107, [146]), (42, none, .iconst 0, []), (43, none, .istore 4, []), (45, none, .iconst 0, []), (46, none, .istore 5, []), (48, some [0, 1, 2, 3, 4, 5], .iload 5, []), (50, none, .aload_n 0, []), (51, none, .getfield 50, []), (54, none, .iload_n 1, []), (55, none, .iaload, []), (56, none, .if_icmp .ge 77, [133]), (59, none, .iload 4, []), (61, none, .aload_n 0, []), (62, none, .getfield 62, []), (65, none, .iload 5, []), (67, none, .baload, []), (68, none, .ifCond .eq 55, [123]), (71, none, .aload_n 0, []), (72, none, .getfield 81, []), (75, none, .iload 5, []), (77, none, .iaload, []), (78, none, .aload_n 0, []), (79, none, .getfield 81, []), (82, none, .iload_n 3, []), (83, none, .iaload, []), (84, none, .if_icmp .gt 35, [119]), (87, none, .aload_n 0, []), (88, none, .getfield 81, []), (91, none, .iload 5, []), (93, none, .iaload, []), (94, none, .aload_n 0, []), (95, none, .getfield 81, []), (98, none, .iload_n 3, []), (99, none, .iaload, []), (100, none, .if_icmp .ne 23, [123]), (103, none, .aload_n 0, []), (104, none, .iload_n 1, []), (105, none, .iload 5, []), (107, none, .invokevirtual 165, []), (110, none, .aload_n 0, []), (111, none, .iload_n 1, []), (112, none, .iload_n 3, []), (113, none, .invokevirtual 165, []), (116, none, .if_icmp .ge 7, [123]), (119, none, .iconst 1, []), (120, none, .goto 4, [124]), (123, none, .iconst 0, []), (124, none, .iadd, []), (125, none, .istore 4, []), (127, none, .iinc 5 1, []), (130, none, .goto (-82), [48]), (133, none, .iload 4, []), (135, none, .iload_n 2, []), (136, none, .if_icmp .ne 10, [146]), (139, none, .aload_n 0, []), (140, none, .iload_n 1, []), (141, none, .iload_n 3, []), (142, none, .invokevirtual 165, []), (145, none, .ireturn, []), (146, none, .iinc 3 1, []), (149, none, .goto (-129), [20]), (152, none, .iconst (-1), []), (153, none, .ireturn, [])]
def P_Model_top : Nat → Option (List Nat) × Instr × List Nat := plk tb_Model_top
theorem r_Model_top_0 : P_Model_top 0 = (none, .iload_n 1, []) := by decide +kernel
theorem r_Model_top_1 : P_Model_top 1 = (none, .invokestatic 161, []) := by decide +kernel
theorem r_Model_top_4 : P_Model_top 4 = (none, .ifCond .eq 7, [11]) := by decide +kernel
theorem r_Model_top_7 : P_Model_top 7 = (none, .iload_n 2, []) := by decide +kernel
theorem r_Model_top_8 : P_Model_top 8 = (none, .ifCond .ge 5, [13]) := by decide +kernel
theorem r_Model_top_11 : P_Model_top 11 = (none, .iconst (-1), []) := by decide +kernel
theorem r_Model_top_12 : P_Model_top 12 = (none, .ireturn, []) := by decide +kernel
theorem r_Model_top_13 : P_Model_top 13 = (none, .aload_n 0, []) := by decide +kernel
theorem r_Model_top_14 : P_Model_top 14 = (none, .iload_n 1, []) := by decide +kernel
theorem r_Model_top_15 : P_Model_top 15 = (none, .invokevirtual 188, []) := by decide +kernel
theorem r_Model_top_18 : P_Model_top 18 = (none, .iconst 0, []) := by decide +kernel
theorem r_Model_top_19 : P_Model_top 19 = (none, .istore_n 3, []) := by decide +kernel
theorem r_Model_top_20 : P_Model_top 20 = (some [0, 1, 2, 3], .iload_n 3, []) := by decide +kernel
theorem r_Model_top_21 : P_Model_top 21 = (none, .aload_n 0, []) := by decide +kernel
theorem r_Model_top_22 : P_Model_top 22 = (none, .getfield 50, []) := by decide +kernel
theorem r_Model_top_25 : P_Model_top 25 = (none, .iload_n 1, []) := by decide +kernel
theorem r_Model_top_26 : P_Model_top 26 = (none, .iaload, []) := by decide +kernel
theorem r_Model_top_27 : P_Model_top 27 = (none, .if_icmp .ge 125, [152]) := by decide +kernel
theorem r_Model_top_30 : P_Model_top 30 = (none, .aload_n 0, []) := by decide +kernel
theorem r_Model_top_31 : P_Model_top 31 = (none, .getfield 62, []) := by decide +kernel
theorem r_Model_top_34 : P_Model_top 34 = (none, .iload_n 3, []) := by decide +kernel
theorem r_Model_top_35 : P_Model_top 35 = (none, .baload, []) := by decide +kernel
theorem r_Model_top_36 : P_Model_top 36 = (none, .ifCond .ne 6, [42]) := by decide +kernel
theorem r_Model_top_39 : P_Model_top 39 = (none, .goto 107, [146]) := by decide +kernel
theorem r_Model_top_42 : P_Model_top 42 = (none, .iconst 0, []) := by decide +kernel
theorem r_Model_top_43 : P_Model_top 43 = (none, .istore 4, []) := by decide +kernel
theorem r_Model_top_45 : P_Model_top 45 = (none, .iconst 0, []) := by decide +kernel
theorem r_Model_top_46 : P_Model_top 46 = (none, .istore 5, []) := by decide +kernel
theorem r_Model_top_48 : P_Model_top 48 = (some [0, 1, 2, 3, 4, 5], .iload 5, []) := by decide +kernel
theorem r_Model_top_50 : P_Model_top 50 = (none, .aload_n 0, []) := by decide +kernel
theorem r_Model_top_51 : P_Model_top 51 = (none, .getfield 50, []) := by decide +kernel
theorem r_Model_top_54 : P_Model_top 54 = (none, .iload_n 1, []) := by decide +kernel
theorem r_Model_top_55 : P_Model_top 55 = (none, .iaload, []) := by decide +kernel
theorem r_Model_top_56 : P_Model_top 56 = (none, .if_icmp .ge 77, [133]) := by decide +kernel
theorem r_Model_top_59 : P_Model_top 59 = (none, .iload 4, []) := by decide +kernel
theorem r_Model_top_61 : P_Model_top 61 = (none, .aload_n 0, []) := by decide +kernel
theorem r_Model_top_62 : P_Model_top 62 = (none, .getfield 62, []) := by decide +kernel
theorem r_Model_top_65 : P_Model_top 65 = (none, .iload 5, []) := by decide +kernel
theorem r_Model_top_67 : P_Model_top 67 = (none, .baload, []) := by decide +kernel
theorem r_Model_top_68 : P_Model_top 68 = (none, .ifCond .eq 55, [123]) := by decide +kernel
theorem r_Model_top_71 : P_Model_top 71 = (none, .aload_n 0, []) := by decide +kernel
theorem r_Model_top_72 : P_Model_top 72 = (none, .getfield 81, []) := by decide +kernel
theorem r_Model_top_75 : P_Model_top 75 = (none, .iload 5, []) := by decide +kernel
theorem r_Model_top_77 : P_Model_top 77 = (none, .iaload, []) := by decide +kernel
theorem r_Model_top_78 : P_Model_top 78 = (none, .aload_n 0, []) := by decide +kernel
theorem r_Model_top_79 : P_Model_top 79 = (none, .getfield 81, []) := by decide +kernel
theorem r_Model_top_82 : P_Model_top 82 = (none, .iload_n 3, []) := by decide +kernel
theorem r_Model_top_83 : P_Model_top 83 = (none, .iaload, []) := by decide +kernel
theorem r_Model_top_84 : P_Model_top 84 = (none, .if_icmp .gt 35, [119]) := by decide +kernel
theorem r_Model_top_87 : P_Model_top 87 = (none, .aload_n 0, []) := by decide +kernel
theorem r_Model_top_88 : P_Model_top 88 = (none, .getfield 81, []) := by decide +kernel
theorem r_Model_top_91 : P_Model_top 91 = (none, .iload 5, []) := by decide +kernel
theorem r_Model_top_93 : P_Model_top 93 = (none, .iaload, []) := by decide +kernel
theorem r_Model_top_94 : P_Model_top 94 = (none, .aload_n 0, []) := by decide +kernel
theorem r_Model_top_95 : P_Model_top 95 = (none, .getfield 81, []) := by decide +kernel
theorem r_Model_top_98 : P_Model_top 98 = (none, .iload_n 3, []) := by decide +kernel
theorem r_Model_top_99 : P_Model_top 99 = (none, .iaload, []) := by decide +kernel
theorem r_Model_top_100 : P_Model_top 100 = (none, .if_icmp .ne 23, [123]) := by decide +kernel
theorem r_Model_top_103 : P_Model_top 103 = (none, .aload_n 0, []) := by decide +kernel
theorem r_Model_top_104 : P_Model_top 104 = (none, .iload_n 1, []) := by decide +kernel
theorem r_Model_top_105 : P_Model_top 105 = (none, .iload 5, []) := by decide +kernel
theorem r_Model_top_107 : P_Model_top 107 = (none, .invokevirtual 165, []) := by decide +kernel
theorem r_Model_top_110 : P_Model_top 110 = (none, .aload_n 0, []) := by decide +kernel
theorem r_Model_top_111 : P_Model_top 111 = (none, .iload_n 1, []) := by decide +kernel
theorem r_Model_top_112 : P_Model_top 112 = (none, .iload_n 3, []) := by decide +kernel
theorem r_Model_top_113 : P_Model_top 113 = (none, .invokevirtual 165, []) := by decide +kernel
theorem r_Model_top_116 : P_Model_top 116 = (none, .if_icmp .ge 7, [123]) := by decide +kernel
theorem r_Model_top_119 : P_Model_top 119 = (none, .iconst 1, []) := by decide +kernel
theorem r_Model_top_120 : P_Model_top 120 = (none, .goto 4, [124]) := by decide +kernel
theorem r_Model_top_123 : P_Model_top 123 = (none, .iconst 0, []) := by decide +kernel
theorem r_Model_top_124 : P_Model_top 124 = (none, .iadd, []) := by decide +kernel
theorem r_Model_top_125 : P_Model_top 125 = (none, .istore 4, []) := by decide +kernel
theorem r_Model_top_127 : P_Model_top 127 = (none, .iinc 5 1, []) := by decide +kernel
theorem r_Model_top_130 : P_Model_top 130 = (none, .goto (-82), [48]) := by decide +kernel
theorem r_Model_top_133 : P_Model_top 133 = (none, .iload 4, []) := by decide +kernel
theorem r_Model_top_135 : P_Model_top 135 = (none, .iload_n 2, []) := by decide +kernel
theorem r_Model_top_136 : P_Model_top 136 = (none, .if_icmp .ne 10, [146]) := by decide +kernel
theorem r_Model_top_139 : P_Model_top 139 = (none, .aload_n 0, []) := by decide +kernel
theorem r_Model_top_140 : P_Model_top 140 = (none, .iload_n 1, []) := by decide +kernel
theorem r_Model_top_141 : P_Model_top 141 = (none, .iload_n 3, []) := by decide +kernel
theorem r_Model_top_142 : P_Model_top 142 = (none, .invokevirtual 165, []) := by decide +kernel
theorem r_Model_top_145 : P_Model_top 145 = (none, .ireturn, []) := by decide +kernel
theorem r_Model_top_146 : P_Model_top 146 = (none, .iinc 3 1, []) := by decide +kernel
theorem r_Model_top_149 : P_Model_top 149 = (none, .goto (-129), [20]) := by decide +kernel
theorem r_Model_top_152 : P_Model_top 152 = (none, .iconst (-1), []) := by decide +kernel
theorem r_Model_top_153 : P_Model_top 153 = (none, .ireturn, []) := by decide +kernel
def E_Model_top : List (Nat × Ent) := [(646, (1, 0, 0, 0, T_Model_isPicture)), (660, (3, 2, 0, 0, T_Model_numberOf)), (752, (2, 8, 0, 0, T_Model_weigh))]
def X_Model_top : Cx := (llk (0, 0, 9) ftX11, llk 99 ntX11, llk none kcX11, llk none klX11, llk dEnt E_Model_top, 9, 0, false)
theorem xok_Model_top : Xok RX11 X_Model_top := xok_of ftX11_ok ntX11_ok kcX11_ok klX11_ok (E := E_Model_top) (List.forall_mem_cons.mpr ⟨co_X11_646, List.forall_mem_cons.mpr ⟨co_X11_660, List.forall_mem_cons.mpr ⟨co_X11_752, fun _ h => absurd h List.not_mem_nil⟩⟩⟩)
theorem xf_Model_top_50 : xfl X_Model_top 50 = (11, 14, 1) := by decide +kernel
theorem xf_Model_top_62 : xfl X_Model_top 62 = (11, 18, 1) := by decide +kernel
theorem xf_Model_top_81 : xfl X_Model_top 81 = (11, 25, 1) := by decide +kernel
theorem xe_Model_top_646 : xE X_Model_top (4 * 161 + 2) = (1, 0, 0, 0, T_Model_isPicture) := rfl
theorem xe_Model_top_660 : xE X_Model_top (4 * 165 + 0) = (3, 2, 0, 0, T_Model_numberOf) := rfl
theorem xe_Model_top_752 : xE X_Model_top (4 * 188 + 0) = (2, 8, 0, 0, T_Model_weigh) := rfl
theorem xd_Model_top : xd X_Model_top = 9 := rfl
theorem xrb_Model_top : xrb X_Model_top = 0 := rfl
theorem xin_Model_top : xin X_Model_top = false := rfl
set_option maxHeartbeats 4000000 in
set_option maxRecDepth 100000 in
theorem S_Model_top : Snd yX11_top cX11_top 6 (some .int) T_Model_top 9 0 0 := by
  refine snd_of (X := X_Model_top) (P := P_Model_top) (tb := tb_Model_top) (own := RX11) (by decide) rfl rfl (by decide +kernel) xok_Model_top rfl rk0 (fun h => by first | rfl | cases h) ?_
  intro as M k has hM hT0
  obtain ⟨sz, sl, lay, ρ, σ, τ⟩ := M
  obtain ⟨o, as1, e, hlo, hT1⟩ := mkT_r hT0
  clear hT0
  subst e
  obtain ⟨p, as2, e, hT2⟩ := pI_x hT1
  clear hT1
  subst e
  obtain ⟨i, as3, e, hT3⟩ := pI_x hT2
  clear hT2
  subst e
  obtain ⟨e, hT⟩ := hT3
  subst e
  replace hlo : lay o = (21, 0) := hlo
  have r_p : -2147483648 ≤ p ∧ p ≤ 2147483647 := has (vI p) (by simp)
  have r_i : -2147483648 ≤ i ∧ i ≤ 2147483647 := has (vI i) (by simp)
  clear has
  replace hM : ∀ a i, -2147483648 ≤ σ a i ∧ σ a i ≤ 2147483647 := hM
  replace hT : TF_Model_top o p i sz sl lay ρ σ τ k := hT
  unfold TF_Model_top at hT
  obtain ⟨hL, U, len, st, hMP, h1, h0⟩ := hT
  obtain ⟨J, hJd⟩ : ∃ J : Nat → List AV → Mm → Prop, J = (fun c vs M1 => (0 ≤ p ∧ p < 3) ∧ ((c = 20 ∧ 0 ≤ i ∧ ∃ (a : Nat) (σ1 : Nat → Int → Int), QF σ σ1 o ∧ (∀ x, 0 ≤ x ∧ x < st 0 7 → (σ1 (o + 18) x = 0 ∨ σ1 (o + 18) x = 1) ∧ (σ1 (o + 18) x = 1 ↔ lvP U st x)) ∧ (∀ z, 0 ≤ z ∧ z < st 0 7 → lvP U st z → σ1 (o + 24) z = ktP U st z) ∧ (a : Int) ≤ st 0 7 ∧ (∀ y : Int, 0 ≤ y ∧ y < a → lvP U st y → ¬ cntP (fun z => lvP U st z ∧ Ahd (numA U (st 2)) (ktP U st) z y) (st 0 7).toNat = i) ∧ vs = [vR o, vI p, vI i, vI (a : Int)] ∧ M1 = (sz, sl, lay, ρ, σ1, τ)) ∨ (c = 48 ∧ 0 ≤ i ∧ ∃ (a b : Nat) (σ1 : Nat → Int → Int), QF σ σ1 o ∧ (∀ x, 0 ≤ x ∧ x < st 0 7 → (σ1 (o + 18) x = 0 ∨ σ1 (o + 18) x = 1) ∧ (σ1 (o + 18) x = 1 ↔ lvP U st x)) ∧ (∀ z, 0 ≤ z ∧ z < st 0 7 → lvP U st z → σ1 (o + 24) z = ktP U st z) ∧ ((a : Int) < st 0 7 ∧ (b : Int) ≤ st 0 7) ∧ lvP U st a ∧ (∀ y : Int, 0 ≤ y ∧ y < a → lvP U st y → ¬ cntP (fun z => lvP U st z ∧ Ahd (numA U (st 2)) (ktP U st) z y) (st 0 7).toNat = i) ∧ vs = [vR o, vI p, vI i, vI (a : Int), vI (cntP (fun z => lvP U st z ∧ Ahd (numA U (st 2)) (ktP U st) z a) b), vI (b : Int)] ∧ M1 = (sz, sl, lay, ρ, σ1, τ)))) := ⟨_, rfl⟩
  obtain ⟨μ, hμ⟩ : ∃ μ : Nat → List AV → Mm → Nat, μ = (fun c vs _ => if c = 20 then (1000 * (1000 - gI (vs.getD 3 vN))).toNat else (1000 * (1000 - gI (vs.getD 3 vN)) - 1 - gI (vs.getD 5 vN)).toNat) := ⟨_, rfl⟩
  refine ⟨Nat.le_of_ble_eq_true rfl, J, μ, 94, ?_, ?_⟩
  · skip
    by_cases hp : 0 ≤ p ∧ p < 3
    · have hpE : (0 ≤ p ∧ p < 3) = True := eq_true hp
      replace h1 := h1 hp
      obtain ⟨hS, hR⟩ := hMP hp
      obtain ⟨hB, hl3, ⟨m4, m5, m6⟩, ⟨m7, m8, m9⟩, m12, ⟨m14, m13⟩, m15, ⟨m17, m16⟩, m26⟩ := (show MR σ o p U len st from hR)
      obtain ⟨b1, b2, b3, b4, b5, b6, b7⟩ := (show MB σ o p U len (st 1) from hB)
      obtain ⟨w0, w1, w2, w3, w4, w5, w6, w7, w8, w9, w10, w11, w12, w13, w14⟩ := (show SW U len st from hS)
      (obtain ⟨mh, mp0, mp2, mp3, mp4, mp5, mp6, mp7, mp8, mp9, mp10, mp11, mp12, mp13, mp14, mp15, mp16, mp17, mp18, mp19, mp20, mp21, mp22, mp24, mp25, mp26, mp27, mq0, mq2, mq3, mq4, mq5, mq6, mq7, mq8, mq9, mq10, mq11, mq12, mq13, mq14, mq15, mq16, mq17, mq18, mq19, mq20, mq21, mq22, mq24, mq25, mq26, mq27⟩ := (show LModel lay ρ _ from hL); unfold wps; simp only [hpE, find_e hL hS hR, si_iload_n0, si_iload_n1, si_iload_n2, si_iload_n3, si_iload, si_lload_n0, si_lload_n1, si_lload_n2, si_lload_n3, si_lload, si_aload_n0, si_aload_n1, si_aload_n2, si_aload_n3, si_aload, si_istore_n0, si_istore_n1, si_istore_n2, si_istore_n3, si_istore, si_astore_n0, si_astore_n1, si_astore_n2, si_astore_n3, si_astore, si_lstore_n0, si_lstore_n1, si_lstore_n2, si_lstore_n3, si_lstore, si_iconst, si_bipush, si_sipush, si_ldc, si_ldc2_w, si_lconst0, si_lconst1, si_aconst_null, si_iinc, si_dup, si_dup2, si_iadd, si_isub, si_imul, si_idiv, si_irem, si_iand, si_ior, si_ishl, si_ishr, si_ladd, si_lmul, si_lor, si_lxor, si_lshl, si_lushr, si_lcmp, si_i2b, si_i2l, si_l2i, si_icmp_eq, si_icmp_ne, si_icmp_lt, si_icmp_ge, si_icmp_gt, si_icmp_le, si_if_eq, si_if_ne, si_if_lt, si_if_ge, si_if_gt, si_if_le, si_ifnull, si_ifnonnull, si_goto, si_tableswitch, si_lookupswitch, si_getfield, si_putfield, si_getstatic, si_iaload, si_baload, si_laload, si_aaload, si_iastore, si_bastore, si_lastore, si_aastore, si_arraylength, si_new, si_newarray, si_anewarray, si_invokevirtual, si_invokespecial, si_invokestatic, si_ireturn, si_lreturn, si_areturn, si_return_, pI_e, pL_e, pR_e, pA_r, pA_n, pN_n, pN_r, oI_e, oL_e, oA_r, oA_n, lget_e, lrm1_0, lrm2_0, lrm1_i, lrm1_r, lrm1_n, lrm1_l, lrm2_i, lrm2_r, lrm2_n, lrm2_l, popN_0, popN_s, acat_i, acat_l, acat_r, acat_n, stw_0, stw_s, psh_s, psh_n, wgf_r, wgf_i, wgf_b, wgf_n, wgf_m, wpf_i, wpf_r, wpf_b, wnew_e, callE_e, rbk_0, rbk_1, tsw_0, tsw_s, lsw_0, lsw_s, wp_s, wq_t, wq_f, oV_e, pick_0, pick_s, oZ_e, oY_e, r_Model_top_0, r_Model_top_1, r_Model_top_4, r_Model_top_7, r_Model_top_8, r_Model_top_11, r_Model_top_12, r_Model_top_13, r_Model_top_14, r_Model_top_15, r_Model_top_18, r_Model_top_19, r_Model_top_20, r_Model_top_21, r_Model_top_22, r_Model_top_25, r_Model_top_26, r_Model_top_27, r_Model_top_30, r_Model_top_31, r_Model_top_34, r_Model_top_35, r_Model_top_36, r_Model_top_39, r_Model_top_42, r_Model_top_43, r_Model_top_45, r_Model_top_46, r_Model_top_48, r_Model_top_50, r_Model_top_51, r_Model_top_54, r_Model_top_55, r_Model_top_56, r_Model_top_59, r_Model_top_61, r_Model_top_62, r_Model_top_65, r_Model_top_67, r_Model_top_68, r_Model_top_71, r_Model_top_72, r_Model_top_75, r_Model_top_77, r_Model_top_78, r_Model_top_79, r_Model_top_82, r_Model_top_83, r_Model_top_84, r_Model_top_87, r_Model_top_88, r_Model_top_91, r_Model_top_93, r_Model_top_94, r_Model_top_95, r_Model_top_98, r_Model_top_99, r_Model_top_100, r_Model_top_103, r_Model_top_104, r_Model_top_105, r_Model_top_107, r_Model_top_110, r_Model_top_111, r_Model_top_112, r_Model_top_113, r_Model_top_116, r_Model_top_119, r_Model_top_120, r_Model_top_123, r_Model_top_124, r_Model_top_125, r_Model_top_127, r_Model_top_130, r_Model_top_133, r_Model_top_135, r_Model_top_136, r_Model_top_139, r_Model_top_140, r_Model_top_141, r_Model_top_142, r_Model_top_145, r_Model_top_146, r_Model_top_149, r_Model_top_152, r_Model_top_153, xf_Model_top_50, xf_Model_top_62, xf_Model_top_81, xe_Model_top_646, xe_Model_top_660, xe_Model_top_752, xd_Model_top, xrb_Model_top, xin_Model_top, T_Model_isPicture_e, TF_Model_isPicture, T_Model_numberOf_e, TF_Model_numberOf, T_Model_weigh_e, TF_Model_weigh, mh, mp0, mp2, mp3, mp4, mp5, mp6, mp7, mp8, mp9, mp10, mp11, mp12, mp13, mp14, mp15, mp16, mp17, mp18, mp19, mp20, mp21, mp22, mp24, mp25, mp26, mp27, mq0, mq2, mq3, mq4, mq5, mq6, mq7, mq8, mq9, mq10, mq11, mq12, mq13, mq14, mq15, mq16, mq17, mq18, mq19, mq20, mq21, mq22, mq24, mq25, mq26, mq27, Nat.reduceAdd, Nat.reduceMul, Nat.reduceEqDiff, reduceIte, Int.reduceNeg, Int.reduceLE, Int.reduceLT, Int.reduceAdd, Int.reduceSub, Int.reduceToNat, true_and, and_true, inR_e, Nat.reduceLT, Nat.reduceLeDiff, reduceCtorEq, Nat.add_zero, Nat.zero_add, or_false, false_or, or_true, true_or, not_true_eq_false, not_false_eq_true, Classical.not_not, Nat.add_eq_zero_iff, and_false, false_and, Int.reduceEq, List.mem_cons, List.not_mem_nil, forall_eq_or_imp, forall_eq, false_implies, implies_true, forall_const, aargs_0, aargs_i, aargs_r, aargs_l, aargs_n, nfT_e, eq_self, and_self, Nat.le_refl, fu_s, fu_fu, iu_iu, iu_s, fu_am, fu_a0, fu_0a, iu_l, Nat.reduceBEq, Int.reduceBEq, T_objInit_e]; clear mp0 mp2 mp3 mp4 mp5 mp6 mp7 mp8 mp9 mp10 mp11 mp12 mp13 mp14 mp15 mp16 mp17 mp18 mp19 mp20 mp21 mp22 mp24 mp25 mp26 mp27)
      refine ⟨fun a => ⟨hL, U, len, st, hS, hR, fun σ2 c1 c2 c3 c4 => ?_⟩, fun a => h1.2 (fun y hy hl => ?_) σ QF.rf⟩
      · rw [hJd]
        exact ⟨hp, Or.inl ⟨rfl, a, 0, σ2, c1, c2, c3, by omega, fun y hy => by omega, rfl, rfl⟩⟩
      · have := cntP_R (P := fun z => lvP U st z ∧ Ahd (numA U (st 2)) (ktP U st) z y) (N := (st 0 7).toNat)
        omega
    · have hpE : (0 ≤ p ∧ p < 3) = False := eq_false hp
      (obtain ⟨mh, mp0, mp2, mp3, mp4, mp5, mp6, mp7, mp8, mp9, mp10, mp11, mp12, mp13, mp14, mp15, mp16, mp17, mp18, mp19, mp20, mp21, mp22, mp24, mp25, mp26, mp27, mq0, mq2, mq3, mq4, mq5, mq6, mq7, mq8, mq9, mq10, mq11, mq12, mq13, mq14, mq15, mq16, mq17, mq18, mq19, mq20, mq21, mq22, mq24, mq25, mq26, mq27⟩ := (show LModel lay ρ _ from hL); unfold wps; simp only [hpE, si_iload_n0, si_iload_n1, si_iload_n2, si_iload_n3, si_iload, si_lload_n0, si_lload_n1, si_lload_n2, si_lload_n3, si_lload, si_aload_n0, si_aload_n1, si_aload_n2, si_aload_n3, si_aload, si_istore_n0, si_istore_n1, si_istore_n2, si_istore_n3, si_istore, si_astore_n0, si_astore_n1, si_astore_n2, si_astore_n3, si_astore, si_lstore_n0, si_lstore_n1, si_lstore_n2, si_lstore_n3, si_lstore, si_iconst, si_bipush, si_sipush, si_ldc, si_ldc2_w, si_lconst0, si_lconst1, si_aconst_null, si_iinc, si_dup, si_dup2, si_iadd, si_isub, si_imul, si_idiv, si_irem, si_iand, si_ior, si_ishl, si_ishr, si_ladd, si_lmul, si_lor, si_lxor, si_lshl, si_lushr, si_lcmp, si_i2b, si_i2l, si_l2i, si_icmp_eq, si_icmp_ne, si_icmp_lt, si_icmp_ge, si_icmp_gt, si_icmp_le, si_if_eq, si_if_ne, si_if_lt, si_if_ge, si_if_gt, si_if_le, si_ifnull, si_ifnonnull, si_goto, si_tableswitch, si_lookupswitch, si_getfield, si_putfield, si_getstatic, si_iaload, si_baload, si_laload, si_aaload, si_iastore, si_bastore, si_lastore, si_aastore, si_arraylength, si_new, si_newarray, si_anewarray, si_invokevirtual, si_invokespecial, si_invokestatic, si_ireturn, si_lreturn, si_areturn, si_return_, pI_e, pL_e, pR_e, pA_r, pA_n, pN_n, pN_r, oI_e, oL_e, oA_r, oA_n, lget_e, lrm1_0, lrm2_0, lrm1_i, lrm1_r, lrm1_n, lrm1_l, lrm2_i, lrm2_r, lrm2_n, lrm2_l, popN_0, popN_s, acat_i, acat_l, acat_r, acat_n, stw_0, stw_s, psh_s, psh_n, wgf_r, wgf_i, wgf_b, wgf_n, wgf_m, wpf_i, wpf_r, wpf_b, wnew_e, callE_e, rbk_0, rbk_1, tsw_0, tsw_s, lsw_0, lsw_s, wp_s, wq_t, wq_f, oV_e, pick_0, pick_s, oZ_e, oY_e, r_Model_top_0, r_Model_top_1, r_Model_top_4, r_Model_top_7, r_Model_top_8, r_Model_top_11, r_Model_top_12, r_Model_top_13, r_Model_top_14, r_Model_top_15, r_Model_top_18, r_Model_top_19, r_Model_top_20, r_Model_top_21, r_Model_top_22, r_Model_top_25, r_Model_top_26, r_Model_top_27, r_Model_top_30, r_Model_top_31, r_Model_top_34, r_Model_top_35, r_Model_top_36, r_Model_top_39, r_Model_top_42, r_Model_top_43, r_Model_top_45, r_Model_top_46, r_Model_top_48, r_Model_top_50, r_Model_top_51, r_Model_top_54, r_Model_top_55, r_Model_top_56, r_Model_top_59, r_Model_top_61, r_Model_top_62, r_Model_top_65, r_Model_top_67, r_Model_top_68, r_Model_top_71, r_Model_top_72, r_Model_top_75, r_Model_top_77, r_Model_top_78, r_Model_top_79, r_Model_top_82, r_Model_top_83, r_Model_top_84, r_Model_top_87, r_Model_top_88, r_Model_top_91, r_Model_top_93, r_Model_top_94, r_Model_top_95, r_Model_top_98, r_Model_top_99, r_Model_top_100, r_Model_top_103, r_Model_top_104, r_Model_top_105, r_Model_top_107, r_Model_top_110, r_Model_top_111, r_Model_top_112, r_Model_top_113, r_Model_top_116, r_Model_top_119, r_Model_top_120, r_Model_top_123, r_Model_top_124, r_Model_top_125, r_Model_top_127, r_Model_top_130, r_Model_top_133, r_Model_top_135, r_Model_top_136, r_Model_top_139, r_Model_top_140, r_Model_top_141, r_Model_top_142, r_Model_top_145, r_Model_top_146, r_Model_top_149, r_Model_top_152, r_Model_top_153, xf_Model_top_50, xf_Model_top_62, xf_Model_top_81, xe_Model_top_646, xe_Model_top_660, xe_Model_top_752, xd_Model_top, xrb_Model_top, xin_Model_top, T_Model_isPicture_e, TF_Model_isPicture, T_Model_numberOf_e, TF_Model_numberOf, T_Model_weigh_e, TF_Model_weigh, mh, mp0, mp2, mp3, mp4, mp5, mp6, mp7, mp8, mp9, mp10, mp11, mp12, mp13, mp14, mp15, mp16, mp17, mp18, mp19, mp20, mp21, mp22, mp24, mp25, mp26, mp27, mq0, mq2, mq3, mq4, mq5, mq6, mq7, mq8, mq9, mq10, mq11, mq12, mq13, mq14, mq15, mq16, mq17, mq18, mq19, mq20, mq21, mq22, mq24, mq25, mq26, mq27, Nat.reduceAdd, Nat.reduceMul, Nat.reduceEqDiff, reduceIte, Int.reduceNeg, Int.reduceLE, Int.reduceLT, Int.reduceAdd, Int.reduceSub, Int.reduceToNat, true_and, and_true, inR_e, Nat.reduceLT, Nat.reduceLeDiff, reduceCtorEq, Nat.add_zero, Nat.zero_add, or_false, false_or, or_true, true_or, not_true_eq_false, not_false_eq_true, Classical.not_not, Nat.add_eq_zero_iff, and_false, false_and, Int.reduceEq, List.mem_cons, List.not_mem_nil, forall_eq_or_imp, forall_eq, false_implies, implies_true, forall_const, aargs_0, aargs_i, aargs_r, aargs_l, aargs_n, nfT_e, eq_self, and_self, Nat.le_refl, fu_s, fu_fu, iu_iu, iu_s, fu_am, fu_a0, fu_0a, iu_l, Nat.reduceBEq, Int.reduceBEq, T_objInit_e]; clear mp0 mp2 mp3 mp4 mp5 mp6 mp7 mp8 mp9 mp10 mp11 mp12 mp13 mp14 mp15 mp16 mp17 mp18 mp19 mp20 mp21 mp22 mp24 mp25 mp26 mp27)
      exact h0 hp
  · intro cp vs M1 hvs hM1 hlen hJ
    rw [hJd] at hJ
    obtain ⟨hp, hJ⟩ := hJ
    have hpE : (0 ≤ p ∧ p < 3) = True := eq_true hp
    replace h1 := h1 hp
    obtain ⟨hS, hR⟩ := hMP hp
    obtain ⟨w0, w1, w2, w3, w4, w5, w6, w7, w8, w9, w10, w11, w12, w13, w14⟩ := (show SW U len st from hS)
    rcases hJ with ⟨rfl, hi, a, σ1, g1, g2, g3, g4, g5, rfl, rfl⟩ | ⟨rfl, hi, a, b, σ1, g1, g2, g3, g4, g5, g6, rfl, rfl⟩
    · have hR1 := (g1.mr hR)
      obtain ⟨hB, hl3, ⟨m4, m5, m6⟩, ⟨m7, m8, m9⟩, m12, ⟨m14, m13⟩, m15, ⟨m17, m16⟩, m26⟩ := (show MR σ1 o p U len st from hR1)
      obtain ⟨b1, b2, b3, b4, b5, b6, b7⟩ := (show MB σ1 o p U len (st 1) from hB)
      (obtain ⟨mh, mp0, mp2, mp3, mp4, mp5, mp6, mp7, mp8, mp9, mp10, mp11, mp12, mp13, mp14, mp15, mp16, mp17, mp18, mp19, mp20, mp21, mp22, mp24, mp25, mp26, mp27, mq0, mq2, mq3, mq4, mq5, mq6, mq7, mq8, mq9, mq10, mq11, mq12, mq13, mq14, mq15, mq16, mq17, mq18, mq19, mq20, mq21, mq22, mq24, mq25, mq26, mq27⟩ := (show LModel lay ρ _ from hL); unfold wps; simp only [Option.getD_some, List.zip_cons_cons, List.zip_nil_left, List.zip_nil_right, List.zip_nil_right, si_iload_n0, si_iload_n1, si_iload_n2, si_iload_n3, si_iload, si_lload_n0, si_lload_n1, si_lload_n2, si_lload_n3, si_lload, si_aload_n0, si_aload_n1, si_aload_n2, si_aload_n3, si_aload, si_istore_n0, si_istore_n1, si_istore_n2, si_istore_n3, si_istore, si_astore_n0, si_astore_n1, si_astore_n2, si_astore_n3, si_astore, si_lstore_n0, si_lstore_n1, si_lstore_n2, si_lstore_n3, si_lstore, si_iconst, si_bipush, si_sipush, si_ldc, si_ldc2_w, si_lconst0, si_lconst1, si_aconst_null, si_iinc, si_dup, si_dup2, si_iadd, si_isub, si_imul, si_idiv, si_irem, si_iand, si_ior, si_ishl, si_ishr, si_ladd, si_lmul, si_lor, si_lxor, si_lshl, si_lushr, si_lcmp, si_i2b, si_i2l, si_l2i, si_icmp_eq, si_icmp_ne, si_icmp_lt, si_icmp_ge, si_icmp_gt, si_icmp_le, si_if_eq, si_if_ne, si_if_lt, si_if_ge, si_if_gt, si_if_le, si_ifnull, si_ifnonnull, si_goto, si_tableswitch, si_lookupswitch, si_getfield, si_putfield, si_getstatic, si_iaload, si_baload, si_laload, si_aaload, si_iastore, si_bastore, si_lastore, si_aastore, si_arraylength, si_new, si_newarray, si_anewarray, si_invokevirtual, si_invokespecial, si_invokestatic, si_ireturn, si_lreturn, si_areturn, si_return_, pI_e, pL_e, pR_e, pA_r, pA_n, pN_n, pN_r, oI_e, oL_e, oA_r, oA_n, lget_e, lrm1_0, lrm2_0, lrm1_i, lrm1_r, lrm1_n, lrm1_l, lrm2_i, lrm2_r, lrm2_n, lrm2_l, popN_0, popN_s, acat_i, acat_l, acat_r, acat_n, stw_0, stw_s, psh_s, psh_n, wgf_r, wgf_i, wgf_b, wgf_n, wgf_m, wpf_i, wpf_r, wpf_b, wnew_e, callE_e, rbk_0, rbk_1, tsw_0, tsw_s, lsw_0, lsw_s, wp_s, wq_t, wq_f, oV_e, pick_0, pick_s, oZ_e, oY_e, r_Model_top_0, r_Model_top_1, r_Model_top_4, r_Model_top_7, r_Model_top_8, r_Model_top_11, r_Model_top_12, r_Model_top_13, r_Model_top_14, r_Model_top_15, r_Model_top_18, r_Model_top_19, r_Model_top_20, r_Model_top_21, r_Model_top_22, r_Model_top_25, r_Model_top_26, r_Model_top_27, r_Model_top_30, r_Model_top_31, r_Model_top_34, r_Model_top_35, r_Model_top_36, r_Model_top_39, r_Model_top_42, r_Model_top_43, r_Model_top_45, r_Model_top_46, r_Model_top_48, r_Model_top_50, r_Model_top_51, r_Model_top_54, r_Model_top_55, r_Model_top_56, r_Model_top_59, r_Model_top_61, r_Model_top_62, r_Model_top_65, r_Model_top_67, r_Model_top_68, r_Model_top_71, r_Model_top_72, r_Model_top_75, r_Model_top_77, r_Model_top_78, r_Model_top_79, r_Model_top_82, r_Model_top_83, r_Model_top_84, r_Model_top_87, r_Model_top_88, r_Model_top_91, r_Model_top_93, r_Model_top_94, r_Model_top_95, r_Model_top_98, r_Model_top_99, r_Model_top_100, r_Model_top_103, r_Model_top_104, r_Model_top_105, r_Model_top_107, r_Model_top_110, r_Model_top_111, r_Model_top_112, r_Model_top_113, r_Model_top_116, r_Model_top_119, r_Model_top_120, r_Model_top_123, r_Model_top_124, r_Model_top_125, r_Model_top_127, r_Model_top_130, r_Model_top_133, r_Model_top_135, r_Model_top_136, r_Model_top_139, r_Model_top_140, r_Model_top_141, r_Model_top_142, r_Model_top_145, r_Model_top_146, r_Model_top_149, r_Model_top_152, r_Model_top_153, xf_Model_top_50, xf_Model_top_62, xf_Model_top_81, xe_Model_top_646, xe_Model_top_660, xe_Model_top_752, xd_Model_top, xrb_Model_top, xin_Model_top, T_Model_isPicture_e, TF_Model_isPicture, T_Model_numberOf_e, TF_Model_numberOf, T_Model_weigh_e, TF_Model_weigh, mh, mp0, mp2, mp3, mp4, mp5, mp6, mp7, mp8, mp9, mp10, mp11, mp12, mp13, mp14, mp15, mp16, mp17, mp18, mp19, mp20, mp21, mp22, mp24, mp25, mp26, mp27, mq0, mq2, mq3, mq4, mq5, mq6, mq7, mq8, mq9, mq10, mq11, mq12, mq13, mq14, mq15, mq16, mq17, mq18, mq19, mq20, mq21, mq22, mq24, mq25, mq26, mq27, Nat.reduceAdd, Nat.reduceMul, Nat.reduceEqDiff, reduceIte, Int.reduceNeg, Int.reduceLE, Int.reduceLT, Int.reduceAdd, Int.reduceSub, Int.reduceToNat, true_and, and_true, inR_e, Nat.reduceLT, Nat.reduceLeDiff, reduceCtorEq, Nat.add_zero, Nat.zero_add, or_false, false_or, or_true, true_or, not_true_eq_false, not_false_eq_true, Classical.not_not, Nat.add_eq_zero_iff, and_false, false_and, Int.reduceEq, List.mem_cons, List.not_mem_nil, forall_eq_or_imp, forall_eq, false_implies, implies_true, forall_const, aargs_0, aargs_i, aargs_r, aargs_l, aargs_n, nfT_e, eq_self, and_self, Nat.le_refl, fu_s, fu_fu, iu_iu, iu_s, fu_am, fu_a0, fu_0a, iu_l, Nat.reduceBEq, Int.reduceBEq, T_objInit_e]; clear mp0 mp2 mp3 mp4 mp5 mp6 mp7 mp8 mp9 mp10 mp11 mp12 mp13 mp14 mp15 mp16 mp17 mp18 mp19 mp20 mp21 mp22 mp24 mp25 mp26 mp27)
      rw [m14]
      refine ⟨by omega, by omega, fun z => h1.2 (fun y hy hl => g5 y (by omega) hl) σ1 g1, fun z => ⟨by omega, by omega, ?_⟩⟩
      have ga := g2 (a : Int) (by omega)
      refine ⟨fun h => ⟨?_, (by rw [hμ]; simp only [gI_e, List.getD_cons_succ, List.getD_cons_zero, Nat.reduceEqDiff, reduceIte]; omega)⟩, fun h => ⟨by omega, ?_, (by rw [hμ]; simp only [gI_e, List.getD_cons_succ, List.getD_cons_zero, Nat.reduceEqDiff, reduceIte]; omega)⟩⟩
      · rw [hJd]
        refine ⟨hp, Or.inr ⟨rfl, hi, a, 0, σ1, g1, g2, g3, by omega, ?_, g5, rfl, rfl⟩⟩
        rcases ga.1 with q | q
        · exact absurd q h
        · exact ga.2.mp q
      · rw [hJd]
        refine ⟨hp, Or.inl ⟨rfl, hi, a + 1, σ1, g1, g2, g3, by omega, fun y hy hl => ?_, rfl, rfl⟩⟩
        by_cases e : y = a
        · rw [e] at hl
          have := ga.2.mpr hl
          omega
        · exact g5 y (by omega) hl
    · have hR1 := (g1.mr hR)
      obtain ⟨hB, hl3, ⟨m4, m5, m6⟩, ⟨m7, m8, m9⟩, m12, ⟨m14, m13⟩, m15, ⟨m17, m16⟩, m26⟩ := (show MR σ1 o p U len st from hR1)
      obtain ⟨b1, b2, b3, b4, b5, b6, b7⟩ := (show MB σ1 o p U len (st 1) from hB)
      have tva := hS.tv (i := (a : Int)) (by omega)
      have ta0 := tva.1.2.1
      have ta4 := tva.1.2.2.1
      have cR := cntP_R (P := fun z => lvP U st z ∧ Ahd (numA U (st 2)) (ktP U st) z a) (N := b)
      have na : two2 U (st 2 a + 1) = numA U (st 2) a := rfl
      (obtain ⟨mh, mp0, mp2, mp3, mp4, mp5, mp6, mp7, mp8, mp9, mp10, mp11, mp12, mp13, mp14, mp15, mp16, mp17, mp18, mp19, mp20, mp21, mp22, mp24, mp25, mp26, mp27, mq0, mq2, mq3, mq4, mq5, mq6, mq7, mq8, mq9, mq10, mq11, mq12, mq13, mq14, mq15, mq16, mq17, mq18, mq19, mq20, mq21, mq22, mq24, mq25, mq26, mq27⟩ := (show LModel lay ρ _ from hL); unfold wps; simp only [Option.getD_some, List.zip_cons_cons, List.zip_nil_left, List.zip_nil_right, List.zip_nil_right, si_iload_n0, si_iload_n1, si_iload_n2, si_iload_n3, si_iload, si_lload_n0, si_lload_n1, si_lload_n2, si_lload_n3, si_lload, si_aload_n0, si_aload_n1, si_aload_n2, si_aload_n3, si_aload, si_istore_n0, si_istore_n1, si_istore_n2, si_istore_n3, si_istore, si_astore_n0, si_astore_n1, si_astore_n2, si_astore_n3, si_astore, si_lstore_n0, si_lstore_n1, si_lstore_n2, si_lstore_n3, si_lstore, si_iconst, si_bipush, si_sipush, si_ldc, si_ldc2_w, si_lconst0, si_lconst1, si_aconst_null, si_iinc, si_dup, si_dup2, si_iadd, si_isub, si_imul, si_idiv, si_irem, si_iand, si_ior, si_ishl, si_ishr, si_ladd, si_lmul, si_lor, si_lxor, si_lshl, si_lushr, si_lcmp, si_i2b, si_i2l, si_l2i, si_icmp_eq, si_icmp_ne, si_icmp_lt, si_icmp_ge, si_icmp_gt, si_icmp_le, si_if_eq, si_if_ne, si_if_lt, si_if_ge, si_if_gt, si_if_le, si_ifnull, si_ifnonnull, si_goto, si_tableswitch, si_lookupswitch, si_getfield, si_putfield, si_getstatic, si_iaload, si_baload, si_laload, si_aaload, si_iastore, si_bastore, si_lastore, si_aastore, si_arraylength, si_new, si_newarray, si_anewarray, si_invokevirtual, si_invokespecial, si_invokestatic, si_ireturn, si_lreturn, si_areturn, si_return_, pI_e, pL_e, pR_e, pA_r, pA_n, pN_n, pN_r, oI_e, oL_e, oA_r, oA_n, lget_e, lrm1_0, lrm2_0, lrm1_i, lrm1_r, lrm1_n, lrm1_l, lrm2_i, lrm2_r, lrm2_n, lrm2_l, popN_0, popN_s, acat_i, acat_l, acat_r, acat_n, stw_0, stw_s, psh_s, psh_n, wgf_r, wgf_i, wgf_b, wgf_n, wgf_m, wpf_i, wpf_r, wpf_b, wnew_e, callE_e, rbk_0, rbk_1, tsw_0, tsw_s, lsw_0, lsw_s, wp_s, wq_t, wq_f, oV_e, pick_0, pick_s, oZ_e, oY_e, r_Model_top_0, r_Model_top_1, r_Model_top_4, r_Model_top_7, r_Model_top_8, r_Model_top_11, r_Model_top_12, r_Model_top_13, r_Model_top_14, r_Model_top_15, r_Model_top_18, r_Model_top_19, r_Model_top_20, r_Model_top_21, r_Model_top_22, r_Model_top_25, r_Model_top_26, r_Model_top_27, r_Model_top_30, r_Model_top_31, r_Model_top_34, r_Model_top_35, r_Model_top_36, r_Model_top_39, r_Model_top_42, r_Model_top_43, r_Model_top_45, r_Model_top_46, r_Model_top_48, r_Model_top_50, r_Model_top_51, r_Model_top_54, r_Model_top_55, r_Model_top_56, r_Model_top_59, r_Model_top_61, r_Model_top_62, r_Model_top_65, r_Model_top_67, r_Model_top_68, r_Model_top_71, r_Model_top_72, r_Model_top_75, r_Model_top_77, r_Model_top_78, r_Model_top_79, r_Model_top_82, r_Model_top_83, r_Model_top_84, r_Model_top_87, r_Model_top_88, r_Model_top_91, r_Model_top_93, r_Model_top_94, r_Model_top_95, r_Model_top_98, r_Model_top_99, r_Model_top_100, r_Model_top_103, r_Model_top_104, r_Model_top_105, r_Model_top_107, r_Model_top_110, r_Model_top_111, r_Model_top_112, r_Model_top_113, r_Model_top_116, r_Model_top_119, r_Model_top_120, r_Model_top_123, r_Model_top_124, r_Model_top_125, r_Model_top_127, r_Model_top_130, r_Model_top_133, r_Model_top_135, r_Model_top_136, r_Model_top_139, r_Model_top_140, r_Model_top_141, r_Model_top_142, r_Model_top_145, r_Model_top_146, r_Model_top_149, r_Model_top_152, r_Model_top_153, xf_Model_top_50, xf_Model_top_62, xf_Model_top_81, xe_Model_top_646, xe_Model_top_660, xe_Model_top_752, xd_Model_top, xrb_Model_top, xin_Model_top, T_Model_isPicture_e, TF_Model_isPicture, T_Model_numberOf_e, TF_Model_numberOf, T_Model_weigh_e, TF_Model_weigh, mh, mp0, mp2, mp3, mp4, mp5, mp6, mp7, mp8, mp9, mp10, mp11, mp12, mp13, mp14, mp15, mp16, mp17, mp18, mp19, mp20, mp21, mp22, mp24, mp25, mp26, mp27, mq0, mq2, mq3, mq4, mq5, mq6, mq7, mq8, mq9, mq10, mq11, mq12, mq13, mq14, mq15, mq16, mq17, mq18, mq19, mq20, mq21, mq22, mq24, mq25, mq26, mq27, Nat.reduceAdd, Nat.reduceMul, Nat.reduceEqDiff, reduceIte, Int.reduceNeg, Int.reduceLE, Int.reduceLT, Int.reduceAdd, Int.reduceSub, Int.reduceToNat, true_and, and_true, inR_e, Nat.reduceLT, Nat.reduceLeDiff, reduceCtorEq, Nat.add_zero, Nat.zero_add, or_false, false_or, or_true, true_or, not_true_eq_false, not_false_eq_true, Classical.not_not, Nat.add_eq_zero_iff, and_false, false_and, Int.reduceEq, List.mem_cons, List.not_mem_nil, forall_eq_or_imp, forall_eq, false_implies, implies_true, forall_const, aargs_0, aargs_i, aargs_r, aargs_l, aargs_n, nfT_e, eq_self, and_self, Nat.le_refl, fu_s, fu_fu, iu_iu, iu_s, fu_am, fu_a0, fu_0a, iu_l, Nat.reduceBEq, Int.reduceBEq, T_objInit_e]; clear mp0 mp2 mp3 mp4 mp5 mp6 mp7 mp8 mp9 mp10 mp11 mp12 mp13 mp14 mp15 mp16 mp17 mp18 mp19 mp20 mp21 mp22 mp24 mp25 mp26 mp27)
      rw [m14, m13 a (by omega)]
      refine ⟨by omega, by omega, fun z => ?_, fun z => ⟨by omega, by omega, ?_⟩⟩
      · rw [show b = (st 0 7).toNat by omega]
        refine ⟨fun h => ⟨by omega, ?_, (by rw [hμ]; simp only [gI_e, List.getD_cons_succ, List.getD_cons_zero, Nat.reduceEqDiff, reduceIte]; omega)⟩, fun h => ⟨hL, U, len, st 1, hB, by omega, by omega, ?_⟩⟩
        · rw [hJd]
          refine ⟨hp, Or.inl ⟨rfl, hi, a + 1, σ1, g1, g2, g3, by omega, fun y hy hl => ?_, rfl, rfl⟩⟩
          by_cases e : y = a
          · rw [e]; exact h
          · exact g6 y (by omega) hl
        · exact h1.1 a (by omega) g5 h σ1 g1
      · have gb := g2 (b : Int) (by omega)
        have tvb := hS.tv (i := (b : Int)) (by omega)
        have tb0 := tvb.1.2.1
        have tb4 := tvb.1.2.2.1
        have nb : two2 U (st 2 b + 1) = numA U (st 2) b := rfl
        have no : ¬ (lvP U st b ∧ Ahd (numA U (st 2)) (ktP U st) b a) → J 48 [vR o, vI p, vI i, vI (a : Int), vI (cntP (fun z => lvP U st z ∧ Ahd (numA U (st 2)) (ktP U st) z a) b + 0), vI ((b : Int) + 1)] (sz, sl, lay, ρ, σ1, τ) := by
          intro h
          rw [hJd]
          refine ⟨hp, Or.inr ⟨rfl, hi, a, b + 1, σ1, g1, g2, g3, by omega, g5, g6, ?_, rfl⟩⟩
          rw [cntP_sf h, Int.add_zero]
          rfl
        have yes : (lvP U st b ∧ Ahd (numA U (st 2)) (ktP U st) b a) → J 48 [vR o, vI p, vI i, vI (a : Int), vI (cntP (fun z => lvP U st z ∧ Ahd (numA U (st 2)) (ktP U st) z a) b + 1), vI ((b : Int) + 1)] (sz, sl, lay, ρ, σ1, τ) := by
          intro h
          rw [hJd]
          refine ⟨hp, Or.inr ⟨rfl, hi, a, b + 1, σ1, g1, g2, g3, by omega, g5, g6, ?_, rfl⟩⟩
          rw [cntP_st (P := fun z => lvP U st z ∧ Ahd (numA U (st 2)) (ktP U st) z a) h]
          rfl
        rw [m13 b (by omega)]
        refine ⟨fun h => ⟨by omega, by omega, no (fun q => by have := gb.2.mpr q.1; omega), (by rw [hμ]; simp only [gI_e, List.getD_cons_succ, List.getD_cons_zero, Nat.reduceEqDiff, reduceIte]; omega)⟩, fun h => ?_⟩
        have lvb : lvP U st b := by
          rcases gb.1 with q | q
          · exact absurd q h
          · exact gb.2.mp q
        rw [g3 b (by omega) lvb, g3 a (by omega) g5]
        refine ⟨by omega, by omega, by omega, by omega, fun h2 => ⟨by omega, by omega, yes ⟨lvb, Or.inl h2⟩, (by rw [hμ]; simp only [gI_e, List.getD_cons_succ, List.getD_cons_zero, Nat.reduceEqDiff, reduceIte]; omega)⟩, fun h2 => ⟨by omega, by omega, by omega, by omega, fun h3 => ⟨by omega, by omega, no (fun q => ?_), (by rw [hμ]; simp only [gI_e, List.getD_cons_succ, List.getD_cons_zero, Nat.reduceEqDiff, reduceIte]; omega)⟩, fun h3 => ⟨hL, U, len, st 1, hB, by omega, by omega, hL, U, len, st 1, hB, by omega, by omega, ?_⟩⟩⟩
        · rcases q.2 with q | q
          · omega
          · omega
        · rw [na, nb]
          refine ⟨fun h4 => ⟨by omega, by omega, no (fun q => ?_), (by rw [hμ]; simp only [gI_e, List.getD_cons_succ, List.getD_cons_zero, Nat.reduceEqDiff, reduceIte]; omega)⟩, fun h4 => ⟨by omega, by omega, yes ⟨lvb, Or.inr ⟨h3, by omega⟩⟩, (by rw [hμ]; simp only [gI_e, List.getD_cons_succ, List.getD_cons_zero, Nat.reduceEqDiff, reduceIte]; omega)⟩⟩
          rcases q.2 with q | q
          · omega
          · omega

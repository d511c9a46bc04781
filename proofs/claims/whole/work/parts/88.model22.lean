def TF_Model_unknown (o : Nat) (p : Int) (sz sl : Nat) (lay : Nat → Nat × Int) (ρ : Nat → Int → Nat) (σ : Nat → Int → Int) (τ : Nat → Int → Int64) (k : Option AV → Mm → Prop) : Prop := LModel lay ρ o ∧ ∃ (U : Int → Int) (len : Int) (st : Nat → Int → Int), SW U len st ∧ MR σ o p U len st ∧ ∀ c : Int → Int, k (some (vI (unP U st + cntZ (fun r => decide (fn U st (st 3 r) = -1)) (st 0 9).toNat))) (sz, sl, lay, ρ, fu σ (o + 23) c, τ)
def T_Model_unknown : Tr := mkT 11 fun o as M k => pI as fun p as => as = [] ∧ TF_Model_unknown o p M.1 M.2.1 M.2.2.1 M.2.2.2.1 M.2.2.2.2.1 M.2.2.2.2.2 k
theorem T_Model_unknown_e {o : Nat} {p : Int} {sz sl : Nat} {lay : Nat → Nat × Int} {ρ : Nat → Int → Nat} {σ : Nat → Int → Int} {τ : Nat → Int → Int64} {k : Option AV → Mm → Prop} : T_Model_unknown [vR o, vI p] (sz, sl, lay, ρ, σ, τ) k = (lay o = (21, 0) ∧ TF_Model_unknown o p sz sl lay ρ σ τ k) := by simp [T_Model_unknown, mkT_e, pI_e, pR_e, pL_e]
theorem T_Model_unknown_r (as : List AV) (M : Mm) (k : Option AV → Mm → Prop) (h : T_Model_unknown as M k) : ∃ b As, as = vR b :: As ∧ M.2.2.1 b = (10 + 11, 0) := by
  obtain ⟨b, As, h1, h2, -⟩ := mkT_r h
  exact ⟨b, As, h1, h2⟩
def tb_Model_unknown : List (Nat × Option (List Nat) × Instr × List Nat) := [(0, none, .iconst 0, []), (1, none, .istore_n 2, []), (2, none, .iconst 0, []), (3, none, .istore_n 3, []), (4, some [0, 1, 2, 3], .iload_n 3, []), (5, none, .aload_n 0, []), (6, none, .getfield 50, []), (9, none, .iload_n 1, []), (10, none, .iaload, []), (11, none, .if_icmp .ge 94, [105]), (14, none, .aload_n 0, []), (15, none, .getfield 47, []), (18, none, .sipush 600, []), (21, none, .iload_n 1, []), (22, none, .imul, []), (23, none, .iload_n 3, []), (24, none, .iadd, []), (25, none, .iaload, []), (26, none, .istore 4, []), (28, none, .aload_n 0, []), (29, none, .iload_n 1, []), (30, none, .iload 4, []), (32, none, .invokevirtual 131, []), (35, none, .istore 5, []), (37, none, .iconst 0, []), (38, none, .istore 6, []), (40, some [0, 1, 2, 3, 4, 5, 6], .iload 6, []), (42, none, .iload 5, []), (44, none, .if_icmp .ge 55, [99]), (47, none, .iload_n 2, []), (48, none, .aload_n 0, []), (49, none, .iload_n 1, []), (50, none, .iload 4, []), (52, none, .iload 6, []), (54, none, .invokevirtual 121, []), (57, none, .iconst 5, []), (58, none, .if_icmp .ne 32, [90]), (61, none, .aload_n 0, []), (62, none, .iload_n 1, []), (63, none, .iload 4, []), (65, none, .iload 6, []), (67, none, .invokevirtual 137, []), (70, none, .lconst 0, []), (71, none, .lcmp, []), (72, none, .ifCond .eq 18, [90]), (75, none, .aload_n 0, []), (76, none, .iload_n 1, []), (77, none, .iload_n 3, []), (78, none, .iload 6, []), (80, none, .invokevirtual 175, []), (83, none, .ifCond .ge 7, [90]), (86, none, .iconst 1, []), (87, none, .goto 4, [91]), (90, none, .iconst 0, []), (91, none, .iadd, []), (92, none, .istore_n 2, []), (93, none, .iinc 6 1, []), (96, none, .goto (-56), [40]), (99, none, .iinc 3 1, []), (102, none, .goto (-98), [4]), (105, none, .iconst 0, []), (106, none, .istore_n 3, []), (107, some [0, 1, 2, 3], .iload_n 3, []), (108, none, .aload_n 0, []), (109, none, .getfield 59, []), (112, none, .iload_n 1, []), (113, none, .iaload, []), (114, none, .if_icmp .ge 36, [150]), (117, none, .iload_n 2, []), (118, none, .aload_n 0, []), (119, none, .iload_n 1, []), (120, none, .aload_n 0, []), (121, none, .getfield 56, []), (124, none, .bipush 100, []), (126, none, .iload_n 1, []), (127, none, .imul, []), (128, none, .iload_n 3, []), (129, none, .iadd, []), (130, none, .iaload, []), (131, none, .invokevirtual 152, []), (134, none, .ifCond .ge 7, [141]), (137, none, .iconst 1, []), (138, none, .goto 4, [142]), (141, none, .iconst 0, []), (142, none, .iadd, []), (143, none, .istore_n 2, []), (144, none, .iinc 3 1, []), (147, none, .goto (-40), [107]), (150, none, .iload_n 2, []), (151, none, .ireturn, [])]
def P_Model_unknown : Nat → Option (List Nat) × Instr × List Nat := plk tb_Model_unknown
theorem r_Model_unknown_0 : P_Model_unknown 0 = (none, .iconst 0, []) := by decide +kernel
theorem r_Model_unknown_1 : P_Model_unknown 1 = (none, .istore_n 2, []) := by decide +kernel
theorem r_Model_unknown_2 : P_Model_unknown 2 = (none, .iconst 0, []) := by decide +kernel
theorem r_Model_unknown_3 : P_Model_unknown 3 = (none, .istore_n 3, []) := by decide +kernel
theorem r_Model_unknown_4 : P_Model_unknown 4 = (some [0, 1, 2, 3], .iload_n 3, []) := by decide +kernel
theorem r_Model_unknown_5 : P_Model_unknown 5 = (none, .aload_n 0, []) := by decide +kernel
theorem r_Model_unknown_6 : P_Model_unknown 6 = (none, .getfield 50, []) := by decide +kernel
theorem r_Model_unknown_9 : P_Model_unknown 9 = (none, .iload_n 1, []) := by decide +kernel
theorem r_Model_unknown_10 : P_Model_unknown 10 = (none, .iaload, []) := by decide +kernel
theorem r_Model_unknown_11 : P_Model_unknown 11 = (none, .if_icmp .ge 94, [105]) := by decide +kernel
theorem r_Model_unknown_14 : P_Model_unknown 14 = (none, .aload_n 0, []) := by decide +kernel
theorem r_Model_unknown_15 : P_Model_unknown 15 = (none, .getfield 47, []) := by decide +kernel
theorem r_Model_unknown_18 : P_Model_unknown 18 = (none, .sipush 600, []) := by decide +kernel
theorem r_Model_unknown_21 : P_Model_unknown 21 = (none, .iload_n 1, []) := by decide +kernel
theorem r_Model_unknown_22 : P_Model_unknown 22 = (none, .imul, []) := by decide +kernel
theorem r_Model_unknown_23 : P_Model_unknown 23 = (none, .iload_n 3, []) := by decide +kernel
theorem r_Model_unknown_24 : P_Model_unknown 24 = (none, .iadd, []) := by decide +kernel
theorem r_Model_unknown_25 : P_Model_unknown 25 = (none, .iaload, []) := by decide +kernel
theorem r_Model_unknown_26 : P_Model_unknown 26 = (none, .istore 4, []) := by decide +kernel
theorem r_Model_unknown_28 : P_Model_unknown 28 = (none, .aload_n 0, []) := by decide +kernel
theorem r_Model_unknown_29 : P_Model_unknown 29 = (none, .iload_n 1, []) := by decide +kernel
theorem r_Model_unknown_30 : P_Model_unknown 30 = (none, .iload 4, []) := by decide +kernel
theorem r_Model_unknown_32 : P_Model_unknown 32 = (none, .invokevirtual 131, []) := by decide +kernel
theorem r_Model_unknown_35 : P_Model_unknown 35 = (none, .istore 5, []) := by decide +kernel
theorem r_Model_unknown_37 : P_Model_unknown 37 = (none, .iconst 0, []) := by decide +kernel
theorem r_Model_unknown_38 : P_Model_unknown 38 = (none, .istore 6, []) := by decide +kernel
theorem r_Model_unknown_40 : P_Model_unknown 40 = (some [0, 1, 2, 3, 4, 5, 6], .iload 6, []) := by decide +kernel
theorem r_Model_unknown_42 : P_Model_unknown 42 = (none, .iload 5, []) := by decide +kernel
theorem r_Model_unknown_44 : P_Model_unknown 44 = (none, .if_icmp .ge 55, [99]) := by decide +kernel
theorem r_Model_unknown_47 : P_Model_unknown 47 = (none, .iload_n 2, []) := by decide +kernel
theorem r_Model_unknown_48 : P_Model_unknown 48 = (none, .aload_n 0, []) := by decide +kernel
theorem r_Model_unknown_49 : P_Model_unknown 49 = (none, .iload_n 1, []) := by decide +kernel
theorem r_Model_unknown_50 : P_Model_unknown 50 = (none, .iload 4, []) := by decide +kernel
theorem r_Model_unknown_52 : P_Model_unknown 52 = (none, .iload 6, []) := by decide +kernel
theorem r_Model_unknown_54 : P_Model_unknown 54 = (none, .invokevirtual 121, []) := by decide +kernel
theorem r_Model_unknown_57 : P_Model_unknown 57 = (none, .iconst 5, []) := by decide +kernel
theorem r_Model_unknown_58 : P_Model_unknown 58 = (none, .if_icmp .ne 32, [90]) := by decide +kernel
theorem r_Model_unknown_61 : P_Model_unknown 61 = (none, .aload_n 0, []) := by decide +kernel
theorem r_Model_unknown_62 : P_Model_unknown 62 = (none, .iload_n 1, []) := by decide +kernel
theorem r_Model_unknown_63 : P_Model_unknown 63 = (none, .iload 4, []) := by decide +kernel
theorem r_Model_unknown_65 : P_Model_unknown 65 = (none, .iload 6, []) := by decide +kernel
theorem r_Model_unknown_67 : P_Model_unknown 67 = (none, .invokevirtual 137, []) := by decide +kernel
theorem r_Model_unknown_70 : P_Model_unknown 70 = (none, .lconst 0, []) := by decide +kernel
theorem r_Model_unknown_71 : P_Model_unknown 71 = (none, .lcmp, []) := by decide +kernel
theorem r_Model_unknown_72 : P_Model_unknown 72 = (none, .ifCond .eq 18, [90]) := by decide +kernel
theorem r_Model_unknown_75 : P_Model_unknown 75 = (none, .aload_n 0, []) := by decide +kernel
theorem r_Model_unknown_76 : P_Model_unknown 76 = (none, .iload_n 1, []) := by decide +kernel
theorem r_Model_unknown_77 : P_Model_unknown 77 = (none, .iload_n 3, []) := by decide +kernel
theorem r_Model_unknown_78 : P_Model_unknown 78 = (none, .iload 6, []) := by decide +kernel
theorem r_Model_unknown_80 : P_Model_unknown 80 = (none, .invokevirtual 175, []) := by decide +kernel
theorem r_Model_unknown_83 : P_Model_unknown 83 = (none, .ifCond .ge 7, [90]) := by decide +kernel
theorem r_Model_unknown_86 : P_Model_unknown 86 = (none, .iconst 1, []) := by decide +kernel
theorem r_Model_unknown_87 : P_Model_unknown 87 = (none, .goto 4, [91]) := by decide +kernel
theorem r_Model_unknown_90 : P_Model_unknown 90 = (none, .iconst 0, []) := by decide +kernel
theorem r_Model_unknown_91 : P_Model_unknown 91 = (none, .iadd, []) := by decide +kernel
theorem r_Model_unknown_92 : P_Model_unknown 92 = (none, .istore_n 2, []) := by decide +kernel
theorem r_Model_unknown_93 : P_Model_unknown 93 = (none, .iinc 6 1, []) := by decide +kernel
theorem r_Model_unknown_96 : P_Model_unknown 96 = (none, .goto (-56), [40]) := by decide +kernel
theorem r_Model_unknown_99 : P_Model_unknown 99 = (none, .iinc 3 1, []) := by decide +kernel
theorem r_Model_unknown_102 : P_Model_unknown 102 = (none, .goto (-98), [4]) := by decide +kernel
theorem r_Model_unknown_105 : P_Model_unknown 105 = (none, .iconst 0, []) := by decide +kernel
theorem r_Model_unknown_106 : P_Model_unknown 106 = (none, .istore_n 3, []) := by decide +kernel
theorem r_Model_unknown_107 : P_Model_unknown 107 = (some [0, 1, 2, 3], .iload_n 3, []) := by decide +kernel
theorem r_Model_unknown_108 : P_Model_unknown 108 = (none, .aload_n 0, []) := by decide +kernel
theorem r_Model_unknown_109 : P_Model_unknown 109 = (none, .getfield 59, []) := by decide +kernel
theorem r_Model_unknown_112 : P_Model_unknown 112 = (none, .iload_n 1, []) := by decide +kernel
theorem r_Model_unknown_113 : P_Model_unknown 113 = (none, .iaload, []) := by decide +kernel
theorem r_Model_unknown_114 : P_Model_unknown 114 = (none, .if_icmp .ge 36, [150]) := by decide +kernel
theorem r_Model_unknown_117 : P_Model_unknown 117 = (none, .iload_n 2, []) := by decide +kernel
theorem r_Model_unknown_118 : P_Model_unknown 118 = (none, .aload_n 0, []) := by decide +kernel
theorem r_Model_unknown_119 : P_Model_unknown 119 = (none, .iload_n 1, []) := by decide +kernel
theorem r_Model_unknown_120 : P_Model_unknown 120 = (none, .aload_n 0, []) := by decide +kernel
theorem r_Model_unknown_121 : P_Model_unknown 121 = (none, .getfield 56, []) := by decide +kernel
theorem r_Model_unknown_124 : P_Model_unknown 124 = (none, .bipush 100, []) := by decide +kernel
theorem r_Model_unknown_126 : P_Model_unknown 126 = (none, .iload_n 1, []) := by decide +kernel
theorem r_Model_unknown_127 : P_Model_unknown 127 = (none, .imul, []) := by decide +kernel
theorem r_Model_unknown_128 : P_Model_unknown 128 = (none, .iload_n 3, []) := by decide +kernel
theorem r_Model_unknown_129 : P_Model_unknown 129 = (none, .iadd, []) := by decide +kernel
theorem r_Model_unknown_130 : P_Model_unknown 130 = (none, .iaload, []) := by decide +kernel
theorem r_Model_unknown_131 : P_Model_unknown 131 = (none, .invokevirtual 152, []) := by decide +kernel
theorem r_Model_unknown_134 : P_Model_unknown 134 = (none, .ifCond .ge 7, [141]) := by decide +kernel
theorem r_Model_unknown_137 : P_Model_unknown 137 = (none, .iconst 1, []) := by decide +kernel
theorem r_Model_unknown_138 : P_Model_unknown 138 = (none, .goto 4, [142]) := by decide +kernel
theorem r_Model_unknown_141 : P_Model_unknown 141 = (none, .iconst 0, []) := by decide +kernel
theorem r_Model_unknown_142 : P_Model_unknown 142 = (none, .iadd, []) := by decide +kernel
theorem r_Model_unknown_143 : P_Model_unknown 143 = (none, .istore_n 2, []) := by decide +kernel
theorem r_Model_unknown_144 : P_Model_unknown 144 = (none, .iinc 3 1, []) := by decide +kernel
theorem r_Model_unknown_147 : P_Model_unknown 147 = (none, .goto (-40), [107]) := by decide +kernel
theorem r_Model_unknown_150 : P_Model_unknown 150 = (none, .iload_n 2, []) := by decide +kernel
theorem r_Model_unknown_151 : P_Model_unknown 151 = (none, .ireturn, []) := by decide +kernel
def E_Model_unknown : List (Nat × Ent) := [(484, (4, 3, 0, 0, T_Model_sortAt)), (524, (3, 3, 0, 0, T_Model_valuesAt)), (548, (4, 5, 0, 0, T_Model_valueAt)), (608, (3, 0, 0, 0, T_Model_find)), (700, (4, 6, 0, 0, T_Model_target))]
def X_Model_unknown : Cx := (llk (0, 0, 9) ftX11, llk 99 ntX11, llk none kcX11, llk none klX11, llk dEnt E_Model_unknown, 7, 0, false)
theorem xok_Model_unknown : Xok RX11 X_Model_unknown := xok_of ftX11_ok ntX11_ok kcX11_ok klX11_ok (E := E_Model_unknown) (List.forall_mem_cons.mpr ⟨co_X11_484, List.forall_mem_cons.mpr ⟨co_X11_524, List.forall_mem_cons.mpr ⟨co_X11_548, List.forall_mem_cons.mpr ⟨co_X11_608, List.forall_mem_cons.mpr ⟨co_X11_700, fun _ h => absurd h List.not_mem_nil⟩⟩⟩⟩⟩)
theorem xf_Model_unknown_47 : xfl X_Model_unknown 47 = (11, 13, 1) := by decide +kernel
theorem xf_Model_unknown_50 : xfl X_Model_unknown 50 = (11, 14, 1) := by decide +kernel
theorem xf_Model_unknown_56 : xfl X_Model_unknown 56 = (11, 16, 1) := by decide +kernel
theorem xf_Model_unknown_59 : xfl X_Model_unknown 59 = (11, 17, 1) := by decide +kernel
theorem xe_Model_unknown_484 : xE X_Model_unknown (4 * 121 + 0) = (4, 3, 0, 0, T_Model_sortAt) := rfl
theorem xe_Model_unknown_524 : xE X_Model_unknown (4 * 131 + 0) = (3, 3, 0, 0, T_Model_valuesAt) := rfl
theorem xe_Model_unknown_548 : xE X_Model_unknown (4 * 137 + 0) = (4, 5, 0, 0, T_Model_valueAt) := rfl
theorem xe_Model_unknown_608 : xE X_Model_unknown (4 * 152 + 0) = (3, 0, 0, 0, T_Model_find) := rfl
theorem xe_Model_unknown_700 : xE X_Model_unknown (4 * 175 + 0) = (4, 6, 0, 0, T_Model_target) := rfl
theorem xd_Model_unknown : xd X_Model_unknown = 7 := rfl
theorem xrb_Model_unknown : xrb X_Model_unknown = 0 := rfl
theorem xin_Model_unknown : xin X_Model_unknown = false := rfl
set_option maxHeartbeats 4000000 in
set_option maxRecDepth 100000 in
theorem S_Model_unknown : Snd yX11_unknown cX11_unknown 7 (some .int) T_Model_unknown 7 0 0 := by
  refine snd_of (X := X_Model_unknown) (P := P_Model_unknown) (tb := tb_Model_unknown) (own := RX11) (by decide) rfl rfl (by decide +kernel) xok_Model_unknown rfl rk0 (fun h => by first | rfl | cases h) ?_
  intro as M k has hM hT0
  obtain ⟨sz, sl, lay, ρ, σ, τ⟩ := M
  obtain ⟨o, as1, e, hlo, hT1⟩ := mkT_r hT0
  clear hT0
  subst e
  obtain ⟨p, as2, e, hT2⟩ := pI_x hT1
  clear hT1
  subst e
  obtain ⟨e, hT⟩ := hT2
  subst e
  replace hlo : lay o = (21, 0) := hlo
  have r_p : -2147483648 ≤ p ∧ p ≤ 2147483647 := has (vI p) (by simp)
  clear has
  replace hM : ∀ a i, -2147483648 ≤ σ a i ∧ σ a i ≤ 2147483647 := hM
  replace hT : TF_Model_unknown o p sz sl lay ρ σ τ k := hT
  unfold TF_Model_unknown at hT
  obtain ⟨hL, U, len, st, hS, hR, hT⟩ := hT
  obtain ⟨hB, hl3, ⟨m4, m5, m6⟩, ⟨m7, m8, m9⟩, m12, ⟨m14, m13⟩, m15, ⟨m17, m16⟩, m26⟩ := (show MR σ o p U len st from hR)
  obtain ⟨b1, b2, b3, b4, b5, b6, b7⟩ := (show MB σ o p U len (st 1) from hB)
  obtain ⟨w0, w1, w2, w3, w4, w5, w6, w7, w8, w9, w10, w11, w12, w13, w14⟩ := (show SW U len st from hS)
  obtain ⟨J, hJd⟩ : ∃ J : Nat → List AV → Mm → Prop, J = (fun c vs M1 => (c = 4 ∧ ∃ (c : Int → Int) (i : Nat), (i : Int) ≤ st 0 7 ∧ vs = [vR o, vI p, vI (sumZ (fun j => cntZ (fun k => decide (sA U (st 1) (st 2 j) k = 5 ∧ ¬ vZ U (st 1) (st 2 j) k = 0 ∧ tgt U st j k = -1)) (nV U (st 1) (st 2 j)).toNat) i), vI (i : Int)] ∧ M1 = (sz, sl, lay, ρ, fu σ (o + 23) c, τ)) ∨ (c = 40 ∧ ∃ (c : Int → Int) (i j : Nat), ((i : Int) < st 0 7 ∧ (j : Int) ≤ nV U (st 1) (st 2 i)) ∧ vs = [vR o, vI p, vI (sumZ (fun j => cntZ (fun k => decide (sA U (st 1) (st 2 j) k = 5 ∧ ¬ vZ U (st 1) (st 2 j) k = 0 ∧ tgt U st j k = -1)) (nV U (st 1) (st 2 j)).toNat) i + cntZ (fun k => decide (sA U (st 1) (st 2 i) k = 5 ∧ ¬ vZ U (st 1) (st 2 i) k = 0 ∧ tgt U st i k = -1)) j), vI (i : Int), vI (st 2 i), vI (nV U (st 1) (st 2 i)), vI (j : Int)] ∧ M1 = (sz, sl, lay, ρ, fu σ (o + 23) c, τ)) ∨ (c = 107 ∧ ∃ (c : Int → Int) (i : Nat), (i : Int) ≤ st 0 9 ∧ vs = [vR o, vI p, vI (unP U st + cntZ (fun r => decide (fn U st (st 3 r) = -1)) i), vI (i : Int)] ∧ M1 = (sz, sl, lay, ρ, fu σ (o + 23) c, τ))) := ⟨_, rfl⟩
  obtain ⟨μ, hμ⟩ : ∃ μ : Nat → List AV → Mm → Nat, μ = (fun c vs _ => if c = 4 then (2000 * (2000 - gI (vs.getD 3 vN))).toNat else if c = 40 then (2000 * (2000 - gI (vs.getD 3 vN)) - 1 - gI (vs.getD 6 vN)).toNat else (200 - gI (vs.getD 3 vN)).toNat) := ⟨_, rfl⟩
  refine ⟨Nat.le_of_ble_eq_true rfl, J, μ, 98, ?_, ?_⟩
  · obtain ⟨mh, mp0, mp2, mp3, mp4, mp5, mp6, mp7, mp8, mp9, mp10, mp11, mp12, mp13, mp14, mp15, mp16, mp17, mp18, mp19, mp20, mp21, mp22, mp24, mp25, mp26, mp27, mq0, mq2, mq3, mq4, mq5, mq6, mq7, mq8, mq9, mq10, mq11, mq12, mq13, mq14, mq15, mq16, mq17, mq18, mq19, mq20, mq21, mq22, mq24, mq25, mq26, mq27⟩ := (show LModel lay ρ _ from hL)
    unfold wps
    simp only [si_iload_n0, si_iload_n1, si_iload_n2, si_iload_n3, si_iload, si_lload_n0, si_lload_n1, si_lload_n2, si_lload_n3, si_lload, si_aload_n0, si_aload_n1, si_aload_n2, si_aload_n3, si_aload, si_istore_n0, si_istore_n1, si_istore_n2, si_istore_n3, si_istore, si_astore_n0, si_astore_n1, si_astore_n2, si_astore_n3, si_astore, si_lstore_n0, si_lstore_n1, si_lstore_n2, si_lstore_n3, si_lstore, si_iconst, si_bipush, si_sipush, si_ldc, si_ldc2_w, si_lconst0, si_lconst1, si_aconst_null, si_iinc, si_dup, si_dup2, si_iadd, si_isub, si_imul, si_idiv, si_irem, si_iand, si_ior, si_ishl, si_ishr, si_ladd, si_lmul, si_lor, si_lxor, si_lshl, si_lushr, si_lcmp, si_i2b, si_i2l, si_l2i, si_icmp_eq, si_icmp_ne, si_icmp_lt, si_icmp_ge, si_icmp_gt, si_icmp_le, si_if_eq, si_if_ne, si_if_lt, si_if_ge, si_if_gt, si_if_le, si_ifnull, si_ifnonnull, si_goto, si_tableswitch, si_lookupswitch, si_getfield, si_putfield, si_getstatic, si_iaload, si_baload, si_laload, si_aaload, si_iastore, si_bastore, si_lastore, si_aastore, si_arraylength, si_new, si_newarray, si_anewarray, si_invokevirtual, si_invokespecial, si_invokestatic, si_ireturn, si_lreturn, si_areturn, si_return_, pI_e, pL_e, pR_e, pA_r, pA_n, pN_n, pN_r, oI_e, oL_e, oA_r, oA_n, lget_e, lrm1_0, lrm2_0, lrm1_i, lrm1_r, lrm1_n, lrm1_l, lrm2_i, lrm2_r, lrm2_n, lrm2_l, popN_0, popN_s, acat_i, acat_l, acat_r, acat_n, stw_0, stw_s, psh_s, psh_n, wgf_r, wgf_i, wgf_b, wgf_n, wgf_m, wpf_i, wpf_r, wpf_b, wnew_e, callE_e, rbk_0, rbk_1, tsw_0, tsw_s, lsw_0, lsw_s, wp_s, wq_t, wq_f, oV_e, pick_0, pick_s, oZ_e, oY_e, r_Model_unknown_0, r_Model_unknown_1, r_Model_unknown_2, r_Model_unknown_3, r_Model_unknown_4, r_Model_unknown_5, r_Model_unknown_6, r_Model_unknown_9, r_Model_unknown_10, r_Model_unknown_11, r_Model_unknown_14, r_Model_unknown_15, r_Model_unknown_18, r_Model_unknown_21, r_Model_unknown_22, r_Model_unknown_23, r_Model_unknown_24, r_Model_unknown_25, r_Model_unknown_26, r_Model_unknown_28, r_Model_unknown_29, r_Model_unknown_30, r_Model_unknown_32, r_Model_unknown_35, r_Model_unknown_37, r_Model_unknown_38, r_Model_unknown_40, r_Model_unknown_42, r_Model_unknown_44, r_Model_unknown_47, r_Model_unknown_48, r_Model_unknown_49, r_Model_unknown_50, r_Model_unknown_52, r_Model_unknown_54, r_Model_unknown_57, r_Model_unknown_58, r_Model_unknown_61, r_Model_unknown_62, r_Model_unknown_63, r_Model_unknown_65, r_Model_unknown_67, r_Model_unknown_70, r_Model_unknown_71, r_Model_unknown_72, r_Model_unknown_75, r_Model_unknown_76, r_Model_unknown_77, r_Model_unknown_78, r_Model_unknown_80, r_Model_unknown_83, r_Model_unknown_86, r_Model_unknown_87, r_Model_unknown_90, r_Model_unknown_91, r_Model_unknown_92, r_Model_unknown_93, r_Model_unknown_96, r_Model_unknown_99, r_Model_unknown_102, r_Model_unknown_105, r_Model_unknown_106, r_Model_unknown_107, r_Model_unknown_108, r_Model_unknown_109, r_Model_unknown_112, r_Model_unknown_113, r_Model_unknown_114, r_Model_unknown_117, r_Model_unknown_118, r_Model_unknown_119, r_Model_unknown_120, r_Model_unknown_121, r_Model_unknown_124, r_Model_unknown_126, r_Model_unknown_127, r_Model_unknown_128, r_Model_unknown_129, r_Model_unknown_130, r_Model_unknown_131, r_Model_unknown_134, r_Model_unknown_137, r_Model_unknown_138, r_Model_unknown_141, r_Model_unknown_142, r_Model_unknown_143, r_Model_unknown_144, r_Model_unknown_147, r_Model_unknown_150, r_Model_unknown_151, xf_Model_unknown_47, xf_Model_unknown_50, xf_Model_unknown_56, xf_Model_unknown_59, xe_Model_unknown_484, xe_Model_unknown_524, xe_Model_unknown_548, xe_Model_unknown_608, xe_Model_unknown_700, xd_Model_unknown, xrb_Model_unknown, xin_Model_unknown, T_Model_sortAt_e, TF_Model_sortAt, T_Model_valuesAt_e, TF_Model_valuesAt, T_Model_valueAt_e, TF_Model_valueAt, T_Model_find_e, T_Model_target_e, TF_Model_target, mh, mp0, mp2, mp3, mp4, mp5, mp6, mp7, mp8, mp9, mp10, mp11, mp12, mp13, mp14, mp15, mp16, mp17, mp18, mp19, mp20, mp21, mp22, mp24, mp25, mp26, mp27, mq0, mq2, mq3, mq4, mq5, mq6, mq7, mq8, mq9, mq10, mq11, mq12, mq13, mq14, mq15, mq16, mq17, mq18, mq19, mq20, mq21, mq22, mq24, mq25, mq26, mq27, Nat.reduceAdd, Nat.reduceMul, Nat.reduceEqDiff, reduceIte, Int.reduceNeg, Int.reduceLE, Int.reduceLT, Int.reduceAdd, Int.reduceSub, Int.reduceToNat, true_and, and_true, inR_e, Nat.reduceLT, Nat.reduceLeDiff, reduceCtorEq, Nat.add_zero, Nat.zero_add, or_false, false_or, or_true, true_or, not_true_eq_false, not_false_eq_true, Classical.not_not, Nat.add_eq_zero_iff, and_false, false_and, Int.reduceEq, List.mem_cons, List.not_mem_nil, forall_eq_or_imp, forall_eq, false_implies, implies_true, forall_const, aargs_0, aargs_i, aargs_r, aargs_l, aargs_n, nfT_e, eq_self, and_self, Nat.le_refl, fu_s, fu_fu, iu_iu, iu_s, fu_am, fu_a0, fu_0a, iu_l, Nat.reduceBEq, Int.reduceBEq, T_objInit_e]
    clear mp0 mp2 mp3 mp4 mp5 mp6 mp7 mp8 mp9 mp10 mp11 mp12 mp13 mp14 mp15 mp16 mp17 mp18 mp19 mp20 mp21 mp22 mp24 mp25 mp26 mp27
    rw [hJd]
    exact Or.inl ⟨rfl, σ (o + 23), 0, by omega, rfl, by rw [fu_self]⟩
  · intro cp vs M1 hvs hM1 hlen hJ
    rw [hJd] at hJ
    have sR : ∀ i : Nat, i ≤ st 0 7 → 0 ≤ sumZ (fun j => cntZ (fun k => decide (sA U (st 1) (st 2 j) k = 5 ∧ ¬ vZ U (st 1) (st 2 j) k = 0 ∧ tgt U st j k = -1)) (nV U (st 1) (st 2 j)).toNat) i ∧ sumZ (fun j => cntZ (fun k => decide (sA U (st 1) (st 2 j) k = 5 ∧ ¬ vZ U (st 1) (st 2 j) k = 0 ∧ tgt U st j k = -1)) (nV U (st 1) (st 2 j)).toNat) i ≤ i * 1000 := fun i hi => sumZ_R2 i (fun j hj => by
      have nv := (hS.tv (i := (j : Int)) (by omega)).1.1.nv b5
      have := cntZ_R (fun k => decide (sA U (st 1) (st 2 j) k = 5 ∧ ¬ vZ U (st 1) (st 2 j) k = 0 ∧ tgt U st j k = -1)) (nV U (st 1) (st 2 j)).toNat
      omega)
    have fe : ∀ (c : Int → Int) (x : Int) (k : Option AV → Mm → Prop), TF_Model_find o p x sz sl lay ρ (fu σ (o + 23) c) τ k = k (some (vI (fn U st x))) (sz, sl, lay, ρ, fu σ (o + 23) c, τ) := fun c x k => find_e hL hS (by rw [MR_fu (by omega) (by omega)]; exact hR)
    rcases hJ with ⟨rfl, c, i, hi, rfl, rfl⟩ | ⟨rfl, c, i, j, hj, rfl, rfl⟩ | ⟨rfl, c, i, hi, rfl, rfl⟩
    · have s1 := sR i hi
      (obtain ⟨mh, mp0, mp2, mp3, mp4, mp5, mp6, mp7, mp8, mp9, mp10, mp11, mp12, mp13, mp14, mp15, mp16, mp17, mp18, mp19, mp20, mp21, mp22, mp24, mp25, mp26, mp27, mq0, mq2, mq3, mq4, mq5, mq6, mq7, mq8, mq9, mq10, mq11, mq12, mq13, mq14, mq15, mq16, mq17, mq18, mq19, mq20, mq21, mq22, mq24, mq25, mq26, mq27⟩ := (show LModel lay ρ _ from hL); unfold wps; simp only [Option.getD_some, List.zip_cons_cons, List.zip_nil_left, List.zip_nil_right, List.zip_nil_right, MB_fu, MR_fu, fe, si_iload_n0, si_iload_n1, si_iload_n2, si_iload_n3, si_iload, si_lload_n0, si_lload_n1, si_lload_n2, si_lload_n3, si_lload, si_aload_n0, si_aload_n1, si_aload_n2, si_aload_n3, si_aload, si_istore_n0, si_istore_n1, si_istore_n2, si_istore_n3, si_istore, si_astore_n0, si_astore_n1, si_astore_n2, si_astore_n3, si_astore, si_lstore_n0, si_lstore_n1, si_lstore_n2, si_lstore_n3, si_lstore, si_iconst, si_bipush, si_sipush, si_ldc, si_ldc2_w, si_lconst0, si_lconst1, si_aconst_null, si_iinc, si_dup, si_dup2, si_iadd, si_isub, si_imul, si_idiv, si_irem, si_iand, si_ior, si_ishl, si_ishr, si_ladd, si_lmul, si_lor, si_lxor, si_lshl, si_lushr, si_lcmp, si_i2b, si_i2l, si_l2i, si_icmp_eq, si_icmp_ne, si_icmp_lt, si_icmp_ge, si_icmp_gt, si_icmp_le, si_if_eq, si_if_ne, si_if_lt, si_if_ge, si_if_gt, si_if_le, si_ifnull, si_ifnonnull, si_goto, si_tableswitch, si_lookupswitch, si_getfield, si_putfield, si_getstatic, si_iaload, si_baload, si_laload, si_aaload, si_iastore, si_bastore, si_lastore, si_aastore, si_arraylength, si_new, si_newarray, si_anewarray, si_invokevirtual, si_invokespecial, si_invokestatic, si_ireturn, si_lreturn, si_areturn, si_return_, pI_e, pL_e, pR_e, pA_r, pA_n, pN_n, pN_r, oI_e, oL_e, oA_r, oA_n, lget_e, lrm1_0, lrm2_0, lrm1_i, lrm1_r, lrm1_n, lrm1_l, lrm2_i, lrm2_r, lrm2_n, lrm2_l, popN_0, popN_s, acat_i, acat_l, acat_r, acat_n, stw_0, stw_s, psh_s, psh_n, wgf_r, wgf_i, wgf_b, wgf_n, wgf_m, wpf_i, wpf_r, wpf_b, wnew_e, callE_e, rbk_0, rbk_1, tsw_0, tsw_s, lsw_0, lsw_s, wp_s, wq_t, wq_f, oV_e, pick_0, pick_s, oZ_e, oY_e, r_Model_unknown_0, r_Model_unknown_1, r_Model_unknown_2, r_Model_unknown_3, r_Model_unknown_4, r_Model_unknown_5, r_Model_unknown_6, r_Model_unknown_9, r_Model_unknown_10, r_Model_unknown_11, r_Model_unknown_14, r_Model_unknown_15, r_Model_unknown_18, r_Model_unknown_21, r_Model_unknown_22, r_Model_unknown_23, r_Model_unknown_24, r_Model_unknown_25, r_Model_unknown_26, r_Model_unknown_28, r_Model_unknown_29, r_Model_unknown_30, r_Model_unknown_32, r_Model_unknown_35, r_Model_unknown_37, r_Model_unknown_38, r_Model_unknown_40, r_Model_unknown_42, r_Model_unknown_44, r_Model_unknown_47, r_Model_unknown_48, r_Model_unknown_49, r_Model_unknown_50, r_Model_unknown_52, r_Model_unknown_54, r_Model_unknown_57, r_Model_unknown_58, r_Model_unknown_61, r_Model_unknown_62, r_Model_unknown_63, r_Model_unknown_65, r_Model_unknown_67, r_Model_unknown_70, r_Model_unknown_71, r_Model_unknown_72, r_Model_unknown_75, r_Model_unknown_76, r_Model_unknown_77, r_Model_unknown_78, r_Model_unknown_80, r_Model_unknown_83, r_Model_unknown_86, r_Model_unknown_87, r_Model_unknown_90, r_Model_unknown_91, r_Model_unknown_92, r_Model_unknown_93, r_Model_unknown_96, r_Model_unknown_99, r_Model_unknown_102, r_Model_unknown_105, r_Model_unknown_106, r_Model_unknown_107, r_Model_unknown_108, r_Model_unknown_109, r_Model_unknown_112, r_Model_unknown_113, r_Model_unknown_114, r_Model_unknown_117, r_Model_unknown_118, r_Model_unknown_119, r_Model_unknown_120, r_Model_unknown_121, r_Model_unknown_124, r_Model_unknown_126, r_Model_unknown_127, r_Model_unknown_128, r_Model_unknown_129, r_Model_unknown_130, r_Model_unknown_131, r_Model_unknown_134, r_Model_unknown_137, r_Model_unknown_138, r_Model_unknown_141, r_Model_unknown_142, r_Model_unknown_143, r_Model_unknown_144, r_Model_unknown_147, r_Model_unknown_150, r_Model_unknown_151, xf_Model_unknown_47, xf_Model_unknown_50, xf_Model_unknown_56, xf_Model_unknown_59, xe_Model_unknown_484, xe_Model_unknown_524, xe_Model_unknown_548, xe_Model_unknown_608, xe_Model_unknown_700, xd_Model_unknown, xrb_Model_unknown, xin_Model_unknown, T_Model_sortAt_e, TF_Model_sortAt, T_Model_valuesAt_e, TF_Model_valuesAt, T_Model_valueAt_e, TF_Model_valueAt, T_Model_find_e, T_Model_target_e, TF_Model_target, mh, mp0, mp2, mp3, mp4, mp5, mp6, mp7, mp8, mp9, mp10, mp11, mp12, mp13, mp14, mp15, mp16, mp17, mp18, mp19, mp20, mp21, mp22, mp24, mp25, mp26, mp27, mq0, mq2, mq3, mq4, mq5, mq6, mq7, mq8, mq9, mq10, mq11, mq12, mq13, mq14, mq15, mq16, mq17, mq18, mq19, mq20, mq21, mq22, mq24, mq25, mq26, mq27, Nat.reduceAdd, Nat.reduceMul, Nat.reduceEqDiff, reduceIte, Int.reduceNeg, Int.reduceLE, Int.reduceLT, Int.reduceAdd, Int.reduceSub, Int.reduceToNat, true_and, and_true, inR_e, Nat.reduceLT, Nat.reduceLeDiff, reduceCtorEq, Nat.add_zero, Nat.zero_add, or_false, false_or, or_true, true_or, not_true_eq_false, not_false_eq_true, Classical.not_not, Nat.add_eq_zero_iff, and_false, false_and, Int.reduceEq, List.mem_cons, List.not_mem_nil, forall_eq_or_imp, forall_eq, false_implies, implies_true, forall_const, aargs_0, aargs_i, aargs_r, aargs_l, aargs_n, nfT_e, eq_self, and_self, Nat.le_refl, fu_s, fu_fu, iu_iu, iu_s, fu_am, fu_a0, fu_0a, iu_l, Nat.reduceBEq, Int.reduceBEq, T_objInit_e]; clear mp0 mp2 mp3 mp4 mp5 mp6 mp7 mp8 mp9 mp10 mp11 mp12 mp13 mp14 mp15 mp16 mp17 mp18 mp19 mp20 mp21 mp22 mp24 mp25 mp26 mp27)
      rw [m14]
      refine ⟨by omega, by omega, fun h => ⟨?_, (by rw [hμ]; simp only [gI_e, List.getD_cons_succ, List.getD_cons_zero, Nat.reduceEqDiff, reduceIte]; omega)⟩, fun h => ?_⟩
      · rw [hJd]
        refine Or.inr (Or.inr ⟨rfl, c, 0, by omega, ?_, rfl⟩)
        rw [show i = (st 0 7).toNat by omega, show cntZ (fun r => decide (fn U st (st 3 r) = -1)) 0 = 0 from rfl, Int.add_zero]
        rfl
      · have tv := hS.tv (i := (i : Int)) (by omega)
        have nv := tv.1.1.nv b5
        rw [m13 i (by omega)]
        refine ⟨by omega, by omega, by omega, by omega, hL, U, len, st 1, hB, tv.1, fun d => ⟨?_, (by rw [hμ]; simp only [gI_e, List.getD_cons_succ, List.getD_cons_zero, Nat.reduceEqDiff, reduceIte]; omega)⟩⟩
        rw [hJd]
        refine Or.inr (Or.inl ⟨rfl, d, i, 0, by omega, ?_, rfl⟩)
        rw [show cntZ (fun k => decide (sA U (st 1) (st 2 i) k = 5 ∧ ¬ vZ U (st 1) (st 2 i) k = 0 ∧ tgt U st i k = -1)) 0 = 0 from rfl, Int.add_zero]
        rfl
    · have s1 := sR i (by omega)
      have cR := cntZ_R (fun k => decide (sA U (st 1) (st 2 i) k = 5 ∧ ¬ vZ U (st 1) (st 2 i) k = 0 ∧ tgt U st i k = -1)) j
      have tv := hS.tv (i := (i : Int)) (by omega)
      have nv := tv.1.1.nv b5
      have tR := tgt_R (U := U) (st := st) w9.1 i j
      have no : (j : Int) < nV U (st 1) (st 2 i) → ¬ (sA U (st 1) (st 2 i) j = 5 ∧ ¬ vZ U (st 1) (st 2 i) j = 0 ∧ tgt U st i j = -1) → ∀ d : Int → Int, J 40 [vR o, vI p, vI (sumZ (fun j => cntZ (fun k => decide (sA U (st 1) (st 2 j) k = 5 ∧ ¬ vZ U (st 1) (st 2 j) k = 0 ∧ tgt U st j k = -1)) (nV U (st 1) (st 2 j)).toNat) i + cntZ (fun k => decide (sA U (st 1) (st 2 i) k = 5 ∧ ¬ vZ U (st 1) (st 2 i) k = 0 ∧ tgt U st i k = -1)) j + 0), vI (i : Int), vI (st 2 i), vI (nV U (st 1) (st 2 i)), vI ((j : Int) + 1)] (sz, sl, lay, ρ, fu σ (o + 23) d, τ) := by
        intro jn a d
        rw [hJd]
        refine Or.inr (Or.inl ⟨rfl, d, i, j + 1, by omega, ?_, rfl⟩)
        rw [cntZ_f (by rw [decide_eq_true_eq]; exact a), Int.add_zero]
        rfl
      (obtain ⟨mh, mp0, mp2, mp3, mp4, mp5, mp6, mp7, mp8, mp9, mp10, mp11, mp12, mp13, mp14, mp15, mp16, mp17, mp18, mp19, mp20, mp21, mp22, mp24, mp25, mp26, mp27, mq0, mq2, mq3, mq4, mq5, mq6, mq7, mq8, mq9, mq10, mq11, mq12, mq13, mq14, mq15, mq16, mq17, mq18, mq19, mq20, mq21, mq22, mq24, mq25, mq26, mq27⟩ := (show LModel lay ρ _ from hL); unfold wps; simp only [Option.getD_some, List.zip_cons_cons, List.zip_nil_left, List.zip_nil_right, List.zip_nil_right, MB_fu, MR_fu, fe, si_iload_n0, si_iload_n1, si_iload_n2, si_iload_n3, si_iload, si_lload_n0, si_lload_n1, si_lload_n2, si_lload_n3, si_lload, si_aload_n0, si_aload_n1, si_aload_n2, si_aload_n3, si_aload, si_istore_n0, si_istore_n1, si_istore_n2, si_istore_n3, si_istore, si_astore_n0, si_astore_n1, si_astore_n2, si_astore_n3, si_astore, si_lstore_n0, si_lstore_n1, si_lstore_n2, si_lstore_n3, si_lstore, si_iconst, si_bipush, si_sipush, si_ldc, si_ldc2_w, si_lconst0, si_lconst1, si_aconst_null, si_iinc, si_dup, si_dup2, si_iadd, si_isub, si_imul, si_idiv, si_irem, si_iand, si_ior, si_ishl, si_ishr, si_ladd, si_lmul, si_lor, si_lxor, si_lshl, si_lushr, si_lcmp, si_i2b, si_i2l, si_l2i, si_icmp_eq, si_icmp_ne, si_icmp_lt, si_icmp_ge, si_icmp_gt, si_icmp_le, si_if_eq, si_if_ne, si_if_lt, si_if_ge, si_if_gt, si_if_le, si_ifnull, si_ifnonnull, si_goto, si_tableswitch, si_lookupswitch, si_getfield, si_putfield, si_getstatic, si_iaload, si_baload, si_laload, si_aaload, si_iastore, si_bastore, si_lastore, si_aastore, si_arraylength, si_new, si_newarray, si_anewarray, si_invokevirtual, si_invokespecial, si_invokestatic, si_ireturn, si_lreturn, si_areturn, si_return_, pI_e, pL_e, pR_e, pA_r, pA_n, pN_n, pN_r, oI_e, oL_e, oA_r, oA_n, lget_e, lrm1_0, lrm2_0, lrm1_i, lrm1_r, lrm1_n, lrm1_l, lrm2_i, lrm2_r, lrm2_n, lrm2_l, popN_0, popN_s, acat_i, acat_l, acat_r, acat_n, stw_0, stw_s, psh_s, psh_n, wgf_r, wgf_i, wgf_b, wgf_n, wgf_m, wpf_i, wpf_r, wpf_b, wnew_e, callE_e, rbk_0, rbk_1, tsw_0, tsw_s, lsw_0, lsw_s, wp_s, wq_t, wq_f, oV_e, pick_0, pick_s, oZ_e, oY_e, r_Model_unknown_0, r_Model_unknown_1, r_Model_unknown_2, r_Model_unknown_3, r_Model_unknown_4, r_Model_unknown_5, r_Model_unknown_6, r_Model_unknown_9, r_Model_unknown_10, r_Model_unknown_11, r_Model_unknown_14, r_Model_unknown_15, r_Model_unknown_18, r_Model_unknown_21, r_Model_unknown_22, r_Model_unknown_23, r_Model_unknown_24, r_Model_unknown_25, r_Model_unknown_26, r_Model_unknown_28, r_Model_unknown_29, r_Model_unknown_30, r_Model_unknown_32, r_Model_unknown_35, r_Model_unknown_37, r_Model_unknown_38, r_Model_unknown_40, r_Model_unknown_42, r_Model_unknown_44, r_Model_unknown_47, r_Model_unknown_48, r_Model_unknown_49, r_Model_unknown_50, r_Model_unknown_52, r_Model_unknown_54, r_Model_unknown_57, r_Model_unknown_58, r_Model_unknown_61, r_Model_unknown_62, r_Model_unknown_63, r_Model_unknown_65, r_Model_unknown_67, r_Model_unknown_70, r_Model_unknown_71, r_Model_unknown_72, r_Model_unknown_75, r_Model_unknown_76, r_Model_unknown_77, r_Model_unknown_78, r_Model_unknown_80, r_Model_unknown_83, r_Model_unknown_86, r_Model_unknown_87, r_Model_unknown_90, r_Model_unknown_91, r_Model_unknown_92, r_Model_unknown_93, r_Model_unknown_96, r_Model_unknown_99, r_Model_unknown_102, r_Model_unknown_105, r_Model_unknown_106, r_Model_unknown_107, r_Model_unknown_108, r_Model_unknown_109, r_Model_unknown_112, r_Model_unknown_113, r_Model_unknown_114, r_Model_unknown_117, r_Model_unknown_118, r_Model_unknown_119, r_Model_unknown_120, r_Model_unknown_121, r_Model_unknown_124, r_Model_unknown_126, r_Model_unknown_127, r_Model_unknown_128, r_Model_unknown_129, r_Model_unknown_130, r_Model_unknown_131, r_Model_unknown_134, r_Model_unknown_137, r_Model_unknown_138, r_Model_unknown_141, r_Model_unknown_142, r_Model_unknown_143, r_Model_unknown_144, r_Model_unknown_147, r_Model_unknown_150, r_Model_unknown_151, xf_Model_unknown_47, xf_Model_unknown_50, xf_Model_unknown_56, xf_Model_unknown_59, xe_Model_unknown_484, xe_Model_unknown_524, xe_Model_unknown_548, xe_Model_unknown_608, xe_Model_unknown_700, xd_Model_unknown, xrb_Model_unknown, xin_Model_unknown, T_Model_sortAt_e, TF_Model_sortAt, T_Model_valuesAt_e, TF_Model_valuesAt, T_Model_valueAt_e, TF_Model_valueAt, T_Model_find_e, T_Model_target_e, TF_Model_target, mh, mp0, mp2, mp3, mp4, mp5, mp6, mp7, mp8, mp9, mp10, mp11, mp12, mp13, mp14, mp15, mp16, mp17, mp18, mp19, mp20, mp21, mp22, mp24, mp25, mp26, mp27, mq0, mq2, mq3, mq4, mq5, mq6, mq7, mq8, mq9, mq10, mq11, mq12, mq13, mq14, mq15, mq16, mq17, mq18, mq19, mq20, mq21, mq22, mq24, mq25, mq26, mq27, Nat.reduceAdd, Nat.reduceMul, Nat.reduceEqDiff, reduceIte, Int.reduceNeg, Int.reduceLE, Int.reduceLT, Int.reduceAdd, Int.reduceSub, Int.reduceToNat, true_and, and_true, inR_e, Nat.reduceLT, Nat.reduceLeDiff, reduceCtorEq, Nat.add_zero, Nat.zero_add, or_false, false_or, or_true, true_or, not_true_eq_false, not_false_eq_true, Classical.not_not, Nat.add_eq_zero_iff, and_false, false_and, Int.reduceEq, List.mem_cons, List.not_mem_nil, forall_eq_or_imp, forall_eq, false_implies, implies_true, forall_const, aargs_0, aargs_i, aargs_r, aargs_l, aargs_n, nfT_e, eq_self, and_self, Nat.le_refl, fu_s, fu_fu, iu_iu, iu_s, fu_am, fu_a0, fu_0a, iu_l, Nat.reduceBEq, Int.reduceBEq, T_objInit_e]; clear mp0 mp2 mp3 mp4 mp5 mp6 mp7 mp8 mp9 mp10 mp11 mp12 mp13 mp14 mp15 mp16 mp17 mp18 mp19 mp20 mp21 mp22 mp24 mp25 mp26 mp27)
      refine ⟨fun h => ⟨by omega, ?_, (by rw [hμ]; simp only [gI_e, List.getD_cons_succ, List.getD_cons_zero, Nat.reduceEqDiff, reduceIte]; omega)⟩, fun h => ⟨hL, U, len, st 1, hB, tv.1, by omega, fun d => ⟨fun a => ⟨by omega, by omega, no (by omega) (fun q => a q.1) d, (by rw [hμ]; simp only [gI_e, List.getD_cons_succ, List.getD_cons_zero, Nat.reduceEqDiff, reduceIte]; omega)⟩, fun a => ?_⟩⟩⟩
      · rw [hJd]
        refine Or.inl ⟨rfl, c, i + 1, by omega, ?_, rfl⟩
        rw [show j = (nV U (st 1) (st 2 i)).toNat by omega]
        rfl
      · refine ⟨hL, U, len, st 1, hB, tv, by omega, fun d2 => ?_⟩
        rw [cmp0 (vZ5 b5.1 a)]
        refine ⟨fun b => ⟨by omega, by omega, no (by omega) (fun q => q.2.1 b) d2, (by rw [hμ]; simp only [gI_e, List.getD_cons_succ, List.getD_cons_zero, Nat.reduceEqDiff, reduceIte]; omega)⟩, fun b => ⟨hL, U, len, st, hS, hR, by omega, by omega, fun d3 => ⟨fun e => ⟨by omega, by omega, no (by omega) (fun q => by omega) d3, (by rw [hμ]; simp only [gI_e, List.getD_cons_succ, List.getD_cons_zero, Nat.reduceEqDiff, reduceIte]; omega)⟩, fun e => ⟨by omega, by omega, ?_, (by rw [hμ]; simp only [gI_e, List.getD_cons_succ, List.getD_cons_zero, Nat.reduceEqDiff, reduceIte]; omega)⟩⟩⟩⟩
        rw [hJd]
        refine Or.inr (Or.inl ⟨rfl, d3, i, j + 1, by omega, ?_, rfl⟩)
        rw [cntZ_t (by rw [decide_eq_true_eq]; exact ⟨a, b, by omega⟩), Int.add_assoc]
        rfl
    · have s1 := sR (st 0 7).toNat (by omega)
      have s2 : 0 ≤ unP U st ∧ unP U st ≤ (st 0 7).toNat * 1000 := s1
      have cR := cntZ_R (fun r => decide (fn U st (st 3 r) = -1)) i
      have fR := hS.fnR (st 3 i)
      (obtain ⟨mh, mp0, mp2, mp3, mp4, mp5, mp6, mp7, mp8, mp9, mp10, mp11, mp12, mp13, mp14, mp15, mp16, mp17, mp18, mp19, mp20, mp21, mp22, mp24, mp25, mp26, mp27, mq0, mq2, mq3, mq4, mq5, mq6, mq7, mq8, mq9, mq10, mq11, mq12, mq13, mq14, mq15, mq16, mq17, mq18, mq19, mq20, mq21, mq22, mq24, mq25, mq26, mq27⟩ := (show LModel lay ρ _ from hL); unfold wps; simp only [Option.getD_some, List.zip_cons_cons, List.zip_nil_left, List.zip_nil_right, List.zip_nil_right, MB_fu, MR_fu, fe, si_iload_n0, si_iload_n1, si_iload_n2, si_iload_n3, si_iload, si_lload_n0, si_lload_n1, si_lload_n2, si_lload_n3, si_lload, si_aload_n0, si_aload_n1, si_aload_n2, si_aload_n3, si_aload, si_istore_n0, si_istore_n1, si_istore_n2, si_istore_n3, si_istore, si_astore_n0, si_astore_n1, si_astore_n2, si_astore_n3, si_astore, si_lstore_n0, si_lstore_n1, si_lstore_n2, si_lstore_n3, si_lstore, si_iconst, si_bipush, si_sipush, si_ldc, si_ldc2_w, si_lconst0, si_lconst1, si_aconst_null, si_iinc, si_dup, si_dup2, si_iadd, si_isub, si_imul, si_idiv, si_irem, si_iand, si_ior, si_ishl, si_ishr, si_ladd, si_lmul, si_lor, si_lxor, si_lshl, si_lushr, si_lcmp, si_i2b, si_i2l, si_l2i, si_icmp_eq, si_icmp_ne, si_icmp_lt, si_icmp_ge, si_icmp_gt, si_icmp_le, si_if_eq, si_if_ne, si_if_lt, si_if_ge, si_if_gt, si_if_le, si_ifnull, si_ifnonnull, si_goto, si_tableswitch, si_lookupswitch, si_getfield, si_putfield, si_getstatic, si_iaload, si_baload, si_laload, si_aaload, si_iastore, si_bastore, si_lastore, si_aastore, si_arraylength, si_new, si_newarray, si_anewarray, si_invokevirtual, si_invokespecial, si_invokestatic, si_ireturn, si_lreturn, si_areturn, si_return_, pI_e, pL_e, pR_e, pA_r, pA_n, pN_n, pN_r, oI_e, oL_e, oA_r, oA_n, lget_e, lrm1_0, lrm2_0, lrm1_i, lrm1_r, lrm1_n, lrm1_l, lrm2_i, lrm2_r, lrm2_n, lrm2_l, popN_0, popN_s, acat_i, acat_l, acat_r, acat_n, stw_0, stw_s, psh_s, psh_n, wgf_r, wgf_i, wgf_b, wgf_n, wgf_m, wpf_i, wpf_r, wpf_b, wnew_e, callE_e, rbk_0, rbk_1, tsw_0, tsw_s, lsw_0, lsw_s, wp_s, wq_t, wq_f, oV_e, pick_0, pick_s, oZ_e, oY_e, r_Model_unknown_0, r_Model_unknown_1, r_Model_unknown_2, r_Model_unknown_3, r_Model_unknown_4, r_Model_unknown_5, r_Model_unknown_6, r_Model_unknown_9, r_Model_unknown_10, r_Model_unknown_11, r_Model_unknown_14, r_Model_unknown_15, r_Model_unknown_18, r_Model_unknown_21, r_Model_unknown_22, r_Model_unknown_23, r_Model_unknown_24, r_Model_unknown_25, r_Model_unknown_26, r_Model_unknown_28, r_Model_unknown_29, r_Model_unknown_30, r_Model_unknown_32, r_Model_unknown_35, r_Model_unknown_37, r_Model_unknown_38, r_Model_unknown_40, r_Model_unknown_42, r_Model_unknown_44, r_Model_unknown_47, r_Model_unknown_48, r_Model_unknown_49, r_Model_unknown_50, r_Model_unknown_52, r_Model_unknown_54, r_Model_unknown_57, r_Model_unknown_58, r_Model_unknown_61, r_Model_unknown_62, r_Model_unknown_63, r_Model_unknown_65, r_Model_unknown_67, r_Model_unknown_70, r_Model_unknown_71, r_Model_unknown_72, r_Model_unknown_75, r_Model_unknown_76, r_Model_unknown_77, r_Model_unknown_78, r_Model_unknown_80, r_Model_unknown_83, r_Model_unknown_86, r_Model_unknown_87, r_Model_unknown_90, r_Model_unknown_91, r_Model_unknown_92, r_Model_unknown_93, r_Model_unknown_96, r_Model_unknown_99, r_Model_unknown_102, r_Model_unknown_105, r_Model_unknown_106, r_Model_unknown_107, r_Model_unknown_108, r_Model_unknown_109, r_Model_unknown_112, r_Model_unknown_113, r_Model_unknown_114, r_Model_unknown_117, r_Model_unknown_118, r_Model_unknown_119, r_Model_unknown_120, r_Model_unknown_121, r_Model_unknown_124, r_Model_unknown_126, r_Model_unknown_127, r_Model_unknown_128, r_Model_unknown_129, r_Model_unknown_130, r_Model_unknown_131, r_Model_unknown_134, r_Model_unknown_137, r_Model_unknown_138, r_Model_unknown_141, r_Model_unknown_142, r_Model_unknown_143, r_Model_unknown_144, r_Model_unknown_147, r_Model_unknown_150, r_Model_unknown_151, xf_Model_unknown_47, xf_Model_unknown_50, xf_Model_unknown_56, xf_Model_unknown_59, xe_Model_unknown_484, xe_Model_unknown_524, xe_Model_unknown_548, xe_Model_unknown_608, xe_Model_unknown_700, xd_Model_unknown, xrb_Model_unknown, xin_Model_unknown, T_Model_sortAt_e, TF_Model_sortAt, T_Model_valuesAt_e, TF_Model_valuesAt, T_Model_valueAt_e, TF_Model_valueAt, T_Model_find_e, T_Model_target_e, TF_Model_target, mh, mp0, mp2, mp3, mp4, mp5, mp6, mp7, mp8, mp9, mp10, mp11, mp12, mp13, mp14, mp15, mp16, mp17, mp18, mp19, mp20, mp21, mp22, mp24, mp25, mp26, mp27, mq0, mq2, mq3, mq4, mq5, mq6, mq7, mq8, mq9, mq10, mq11, mq12, mq13, mq14, mq15, mq16, mq17, mq18, mq19, mq20, mq21, mq22, mq24, mq25, mq26, mq27, Nat.reduceAdd, Nat.reduceMul, Nat.reduceEqDiff, reduceIte, Int.reduceNeg, Int.reduceLE, Int.reduceLT, Int.reduceAdd, Int.reduceSub, Int.reduceToNat, true_and, and_true, inR_e, Nat.reduceLT, Nat.reduceLeDiff, reduceCtorEq, Nat.add_zero, Nat.zero_add, or_false, false_or, or_true, true_or, not_true_eq_false, not_false_eq_true, Classical.not_not, Nat.add_eq_zero_iff, and_false, false_and, Int.reduceEq, List.mem_cons, List.not_mem_nil, forall_eq_or_imp, forall_eq, false_implies, implies_true, forall_const, aargs_0, aargs_i, aargs_r, aargs_l, aargs_n, nfT_e, eq_self, and_self, Nat.le_refl, fu_s, fu_fu, iu_iu, iu_s, fu_am, fu_a0, fu_0a, iu_l, Nat.reduceBEq, Int.reduceBEq, T_objInit_e]; clear mp0 mp2 mp3 mp4 mp5 mp6 mp7 mp8 mp9 mp10 mp11 mp12 mp13 mp14 mp15 mp16 mp17 mp18 mp19 mp20 mp21 mp22 mp24 mp25 mp26 mp27)
      rw [m17]
      refine ⟨by omega, by omega, fun h => ?_, fun h => ⟨by omega, by omega, by omega, by omega, ?_⟩⟩
      · rw [show i = (st 0 9).toNat by omega]
        exact hT c
      · rw [m16 i (by omega)]
        refine ⟨fun e => ⟨by omega, by omega, ?_, (by rw [hμ]; simp only [gI_e, List.getD_cons_succ, List.getD_cons_zero, Nat.reduceEqDiff, reduceIte]; omega)⟩, fun e => ⟨by omega, by omega, ?_, (by rw [hμ]; simp only [gI_e, List.getD_cons_succ, List.getD_cons_zero, Nat.reduceEqDiff, reduceIte]; omega)⟩⟩
        · rw [hJd]
          refine Or.inr (Or.inr ⟨rfl, c, i + 1, by omega, ?_, rfl⟩)
          rw [cntZ_f (q := fun r => decide (fn U st (st 3 r) = -1)) (by rw [decide_eq_true_eq]; omega), Int.add_zero]
          rfl
        · rw [hJd]
          refine Or.inr (Or.inr ⟨rfl, c, i + 1, by omega, ?_, rfl⟩)
          rw [cntZ_t (q := fun r => decide (fn U st (st 3 r) = -1)) (by rw [decide_eq_true_eq]; omega), Int.add_assoc]
          rfl
noncomputable def abW (U : Int → Int) (st : Nat → Int → Int) (w : Int) (i : Nat) : Int := if w = 10 then sumZ (szP U st) i else if w = 11 then cntP (fun x => lvP U st x) i else sumP (fun x => lvP U st x) (szP U st) i
theorem abW_R {U : Int → Int} {len : Int} {st : Nat → Int → Int} (h : SW U len st) {w : Int} {i : Nat} (hi : i ≤ st 0 7) : 0 ≤ abW U st w i ∧ abW U st w i ≤ i * 100000 := by
  unfold abW
  split
  · exact sumZ_R2 i (fun j hj => h.szR (by omega))
  · split
    · have := cntP_R (P := fun x => lvP U st x) (N := i)
      omega
    · exact sumP_R (by omega) (fun x hx => h.szR (by omega))
theorem abW_10 {U : Int → Int} {st : Nat → Int → Int} {i : Nat} : abW U st 10 (i + 1) = abW U st 10 i + szP U st i := by
  unfold abW
  rw [if_pos rfl, if_pos rfl]
  rfl
theorem abW_0 {U : Int → Int} {st : Nat → Int → Int} {i : Nat} {w : Int} (h : ¬ w = 10) (l : ¬ lvP U st i) : abW U st w (i + 1) = abW U st w i + 0 := by
  unfold abW
  rw [if_neg h, if_neg h, cntP_sf l, sumP_sf l, Int.add_zero]
theorem abW_11 {U : Int → Int} {st : Nat → Int → Int} {i : Nat} (l : lvP U st i) : abW U st 11 (i + 1) = abW U st 11 i + 1 := by
  unfold abW
  rw [if_neg (show ¬ (11 : Int) = 10 by omega), if_neg (show ¬ (11 : Int) = 10 by omega), if_pos rfl, if_pos rfl, cntP_st l]
theorem abW_12 {U : Int → Int} {st : Nat → Int → Int} {i : Nat} {w : Int} (h : ¬ w = 10) (h2 : ¬ w = 11) (l : lvP U st i) : abW U st w (i + 1) = abW U st w i + szP U st i := by
  unfold abW
  rw [if_neg h, if_neg h, if_neg h2, if_neg h2, sumP_st l]
theorem co_X11_836 : CallOK RX11 (.invokevirtual 209) (2, 7, 0, 0, T_Model_unknown) := call_V S_Model_unknown (by decide) (ci := 11) rfl (by decide +kernel) (by decide +kernel) (by decide +kernel) (by decide +kernel) (by decide +kernel) (by decide +kernel) T_Model_unknown_r
def TF_Model_about (o : Nat) (p : Int) (w : Int) (sz sl : Nat) (lay : Nat → Nat × Int) (ρ : Nat → Int → Nat) (σ : Nat → Int → Int) (τ : Nat → Int → Int64) (k : Option AV → Mm → Prop) : Prop := LModel lay ρ o ∧ ∃ (U : Int → Int) (len : Int) (st : Nat → Int → Int), MdP σ o p U len st ∧ (0 ≤ p ∧ p < 3 → ∀ σ2 : Nat → Int → Int, QF σ σ2 o → (w = 0 → k (some (vI (len))) (sz, sl, lay, ρ, σ2, τ)) ∧ (w = 1 → k (some (vI (st 0 1))) (sz, sl, lay, ρ, σ2, τ)) ∧ (w = 2 → k (some (vI (st 0 2))) (sz, sl, lay, ρ, σ2, τ)) ∧ (w = 3 → k (some (vI (st 0 3))) (sz, sl, lay, ρ, σ2, τ)) ∧ (w = 4 → k (some (vI (st 0 4))) (sz, sl, lay, ρ, σ2, τ)) ∧ (w = 5 → k (some (vI (st 0 5))) (sz, sl, lay, ρ, σ2, τ)) ∧ (w = 6 → k (some (vI (st 0 6))) (sz, sl, lay, ρ, σ2, τ)) ∧ (w = 7 → k (some (vI (st 0 7))) (sz, sl, lay, ρ, σ2, τ)) ∧ (w = 8 → k (some (vI (st 0 9))) (sz, sl, lay, ρ, σ2, τ)) ∧ (w = 9 → k (some (vI (unP U st + cntZ (fun r => decide (fn U st (st 3 r) = -1)) (st 0 9).toNat))) (sz, sl, lay, ρ, σ2, τ)) ∧ (w = 10 → k (some (vI (sumZ (szP U st) (st 0 7).toNat))) (sz, sl, lay, ρ, σ2, τ)) ∧ (w = 11 → k (some (vI (cntP (fun x => lvP U st x) (st 0 7).toNat))) (sz, sl, lay, ρ, σ2, τ)) ∧ (w = 12 → k (some (vI (sumP (fun x => lvP U st x) (szP U st) (st 0 7).toNat))) (sz, sl, lay, ρ, σ2, τ)) ∧ (¬ (0 ≤ w ∧ w ≤ 12) → k (some (vI (-1))) (sz, sl, lay, ρ, σ2, τ))) ∧ (¬ (0 ≤ p ∧ p < 3) → k (some (vI (-1))) (sz, sl, lay, ρ, σ, τ))
def T_Model_about : Tr := mkT 11 fun o as M k => pI as fun p as => pI as fun w as => as = [] ∧ TF_Model_about o p w M.1 M.2.1 M.2.2.1 M.2.2.2.1 M.2.2.2.2.1 M.2.2.2.2.2 k
theorem T_Model_about_e {o : Nat} {p : Int} {w : Int} {sz sl : Nat} {lay : Nat → Nat × Int} {ρ : Nat → Int → Nat} {σ : Nat → Int → Int} {τ : Nat → Int → Int64} {k : Option AV → Mm → Prop} : T_Model_about [vR o, vI p, vI w] (sz, sl, lay, ρ, σ, τ) k = (lay o = (21, 0) ∧ TF_Model_about o p w sz sl lay ρ σ τ k) := by simp [T_Model_about, mkT_e, pI_e, pR_e, pL_e]
theorem T_Model_about_r (as : List AV) (M : Mm) (k : Option AV → Mm → Prop) (h : T_Model_about as M k) : ∃ b As, as = vR b :: As ∧ M.2.2.1 b = (10 + 11, 0) := by
  obtain ⟨b, As, h1, h2, -⟩ := mkT_r h
  exact ⟨b, As, h1, h2⟩
def tb_Model_about : List (Nat × Option (List Nat) × Instr × List Nat) := [(0, none, .iload_n 1, []), (1, none, .invokestatic 161, []), (4, none, .ifCond .eq 13, [17]), (7, none, .iload_n 2, []), (8, none, .ifCond .lt 9, [17]), (11, none, .iload_n 2, []), (12, none, .bipush 12, []), (14, none, .if_icmp .le 5, [19]), (17, none, .iconst (-1), []), (18, none, .ireturn, []), (19, none, .iload_n 2, []), (20, none, .tableswitch 125 0 9 #[56, 63, 70, 77, 84, 91, 98, 105, 112, 119], [145, 76, 83, 90, 97, 104, 111, 118, 125, 132, 139]), (76, none, .aload_n 0, []), (77, none, .getfield 16, []), (80, none, .iload_n 1, []), (81, none, .iaload, []), (82, none, .ireturn, []), (83, none, .aload_n 0, []), (84, none, .getfield 20, []), (87, none, .iload_n 1, []), (88, none, .iaload, []), (89, none, .ireturn, []), (90, none, .aload_n 0, []), (91, none, .getfield 23, []), (94, none, .iload_n 1, []), (95, none, .iaload, []), (96, none, .ireturn, []), (97, none, .aload_n 0, []), (98, none, .getfield 26, []), (101, none, .iload_n 1, []), (102, none, .iaload, []), (103, none, .ireturn, []), (104, none, .aload_n 0, []), (105, none, .getfield 29, []), (108, none, .iload_n 1, []), (109, none, .iaload, []), (110, none, .ireturn, []), (111, none, .aload_n 0, []), (112, none, .getfield 32, []), (115, none, .iload_n 1, []), (116, none, .iaload, []), (117, none, .ireturn, []), (118, none, .aload_n 0, []), (119, none, .getfield 44, []), (122, none, .iload_n 1, []), (123, none, .iaload, []), (124, none, .ireturn, []), (125, none, .aload_n 0, []), (126, none, .getfield 50, []), (129, none, .iload_n 1, []), (130, none, .iaload, []), (131, none, .ireturn, []), (132, none, .aload_n 0, []), (133, none, .getfield 59, []), (136, none, .iload_n 1, []), (137, none, .iaload, []), (138, none, .ireturn, []), (139, none, .aload_n 0, []), (140, none, .iload_n 1, []), (141, none, .invokevirtual 209, []), (144, none, .ireturn, []), (145, none, .aload_n 0, []), (146, none, .iload_n 1, []), (147, none, .iconst (-1), []), (148, none, .aload_n 0, []), (149, none, .getfield 62, []), (152, none, .iconst 0, []), (153, none, .invokevirtual 178, []), (156, none, .iconst 0, []), (157, none, .istore_n 3, []), (158, none, .iconst 0, []), (159, none, .istore 4, []), (161, some [0, 1, 2, 3, 4], .iload 4, []), (163, none, .aload_n 0, []), (164, none, .getfield 50, []), (167, none, .iload_n 1, []), (168, none, .iaload, []), (169, none, .if_icmp .ge 59, [228]), (172, none, .iload_n 3, []), (173, none, .iload_n 2, []), (174, none, .bipush 10, []), (176, none, .if_icmp .ne 13, [189]), (179, none, .aload_n 0, []), (180, none, .iload_n 1, []), (181, none, .iload 4, []), (183, none, .invokevirtual 182, []), (186, none, .goto 34, [220]), (189, none, .aload_n 0, []), (190, none, .getfield 62, []), (193, none, .iload 4, []), (195, none, .baload, []), (196, none, .ifCond .ne 7, [203]), (199, none, .iconst 0, []), (200, none, .goto 20, [220]), (203, none, .iload_n 2, []), (204, none, .bipush 11, []), (206, none, .if_icmp .ne 7, [213]), (209, none, .iconst 1, []), (210, none, .goto 10, [220]), (213, none, .aload_n 0, []), (214, none, .iload_n 1, []), (215, none, .iload 4, []), (217, none, .invokevirtual 182, []), (220, none, .iadd, []), (221, none, .istore_n 3, []), (222, none, .iinc 4 1, []), (225, none, .goto (-64), [161]), (228, none, .iload_n 3, []), (229, none, .ireturn, [])]
def P_Model_about : Nat → Option (List Nat) × Instr × List Nat := plk tb_Model_about
theorem r_Model_about_0 : P_Model_about 0 = (none, .iload_n 1, []) := by decide +kernel
theorem r_Model_about_1 : P_Model_about 1 = (none, .invokestatic 161, []) := by decide +kernel
theorem r_Model_about_4 : P_Model_about 4 = (none, .ifCond .eq 13, [17]) := by decide +kernel
theorem r_Model_about_7 : P_Model_about 7 = (none, .iload_n 2, []) := by decide +kernel
theorem r_Model_about_8 : P_Model_about 8 = (none, .ifCond .lt 9, [17]) := by decide +kernel
theorem r_Model_about_11 : P_Model_about 11 = (none, .iload_n 2, []) := by decide +kernel
theorem r_Model_about_12 : P_Model_about 12 = (none, .bipush 12, []) := by decide +kernel
theorem r_Model_about_14 : P_Model_about 14 = (none, .if_icmp .le 5, [19]) := by decide +kernel
theorem r_Model_about_17 : P_Model_about 17 = (none, .iconst (-1), []) := by decide +kernel
theorem r_Model_about_18 : P_Model_about 18 = (none, .ireturn, []) := by decide +kernel
theorem r_Model_about_19 : P_Model_about 19 = (none, .iload_n 2, []) := by decide +kernel
theorem r_Model_about_20 : P_Model_about 20 = (none, .tableswitch 125 0 9 #[56, 63, 70, 77, 84, 91, 98, 105, 112, 119], [145, 76, 83, 90, 97, 104, 111, 118, 125, 132, 139]) := by decide +kernel
theorem r_Model_about_76 : P_Model_about 76 = (none, .aload_n 0, []) := by decide +kernel
theorem r_Model_about_77 : P_Model_about 77 = (none, .getfield 16, []) := by decide +kernel
theorem r_Model_about_80 : P_Model_about 80 = (none, .iload_n 1, []) := by decide +kernel
theorem r_Model_about_81 : P_Model_about 81 = (none, .iaload, []) := by decide +kernel
theorem r_Model_about_82 : P_Model_about 82 = (none, .ireturn, []) := by decide +kernel
theorem r_Model_about_83 : P_Model_about 83 = (none, .aload_n 0, []) := by decide +kernel
theorem r_Model_about_84 : P_Model_about 84 = (none, .getfield 20, []) := by decide +kernel
theorem r_Model_about_87 : P_Model_about 87 = (none, .iload_n 1, []) := by decide +kernel
theorem r_Model_about_88 : P_Model_about 88 = (none, .iaload, []) := by decide +kernel
theorem r_Model_about_89 : P_Model_about 89 = (none, .ireturn, []) := by decide +kernel
theorem r_Model_about_90 : P_Model_about 90 = (none, .aload_n 0, []) := by decide +kernel
theorem r_Model_about_91 : P_Model_about 91 = (none, .getfield 23, []) := by decide +kernel
theorem r_Model_about_94 : P_Model_about 94 = (none, .iload_n 1, []) := by decide +kernel
theorem r_Model_about_95 : P_Model_about 95 = (none, .iaload, []) := by decide +kernel
theorem r_Model_about_96 : P_Model_about 96 = (none, .ireturn, []) := by decide +kernel
theorem r_Model_about_97 : P_Model_about 97 = (none, .aload_n 0, []) := by decide +kernel
theorem r_Model_about_98 : P_Model_about 98 = (none, .getfield 26, []) := by decide +kernel
theorem r_Model_about_101 : P_Model_about 101 = (none, .iload_n 1, []) := by decide +kernel
theorem r_Model_about_102 : P_Model_about 102 = (none, .iaload, []) := by decide +kernel
theorem r_Model_about_103 : P_Model_about 103 = (none, .ireturn, []) := by decide +kernel
theorem r_Model_about_104 : P_Model_about 104 = (none, .aload_n 0, []) := by decide +kernel
theorem r_Model_about_105 : P_Model_about 105 = (none, .getfield 29, []) := by decide +kernel
theorem r_Model_about_108 : P_Model_about 108 = (none, .iload_n 1, []) := by decide +kernel
theorem r_Model_about_109 : P_Model_about 109 = (none, .iaload, []) := by decide +kernel
theorem r_Model_about_110 : P_Model_about 110 = (none, .ireturn, []) := by decide +kernel
theorem r_Model_about_111 : P_Model_about 111 = (none, .aload_n 0, []) := by decide +kernel
theorem r_Model_about_112 : P_Model_about 112 = (none, .getfield 32, []) := by decide +kernel
theorem r_Model_about_115 : P_Model_about 115 = (none, .iload_n 1, []) := by decide +kernel
theorem r_Model_about_116 : P_Model_about 116 = (none, .iaload, []) := by decide +kernel
theorem r_Model_about_117 : P_Model_about 117 = (none, .ireturn, []) := by decide +kernel
theorem r_Model_about_118 : P_Model_about 118 = (none, .aload_n 0, []) := by decide +kernel
theorem r_Model_about_119 : P_Model_about 119 = (none, .getfield 44, []) := by decide +kernel
theorem r_Model_about_122 : P_Model_about 122 = (none, .iload_n 1, []) := by decide +kernel
theorem r_Model_about_123 : P_Model_about 123 = (none, .iaload, []) := by decide +kernel
theorem r_Model_about_124 : P_Model_about 124 = (none, .ireturn, []) := by decide +kernel
theorem r_Model_about_125 : P_Model_about 125 = (none, .aload_n 0, []) := by decide +kernel
theorem r_Model_about_126 : P_Model_about 126 = (none, .getfield 50, []) := by decide +kernel
theorem r_Model_about_129 : P_Model_about 129 = (none, .iload_n 1, []) := by decide +kernel
theorem r_Model_about_130 : P_Model_about 130 = (none, .iaload, []) := by decide +kernel
theorem r_Model_about_131 : P_Model_about 131 = (none, .ireturn, []) := by decide +kernel
theorem r_Model_about_132 : P_Model_about 132 = (none, .aload_n 0, []) := by decide +kernel
theorem r_Model_about_133 : P_Model_about 133 = (none, .getfield 59, []) := by decide +kernel
theorem r_Model_about_136 : P_Model_about 136 = (none, .iload_n 1, []) := by decide +kernel
theorem r_Model_about_137 : P_Model_about 137 = (none, .iaload, []) := by decide +kernel
theorem r_Model_about_138 : P_Model_about 138 = (none, .ireturn, []) := by decide +kernel
theorem r_Model_about_139 : P_Model_about 139 = (none, .aload_n 0, []) := by decide +kernel
theorem r_Model_about_140 : P_Model_about 140 = (none, .iload_n 1, []) := by decide +kernel
theorem r_Model_about_141 : P_Model_about 141 = (none, .invokevirtual 209, []) := by decide +kernel
theorem r_Model_about_144 : P_Model_about 144 = (none, .ireturn, []) := by decide +kernel
theorem r_Model_about_145 : P_Model_about 145 = (none, .aload_n 0, []) := by decide +kernel
theorem r_Model_about_146 : P_Model_about 146 = (none, .iload_n 1, []) := by decide +kernel
theorem r_Model_about_147 : P_Model_about 147 = (none, .iconst (-1), []) := by decide +kernel
theorem r_Model_about_148 : P_Model_about 148 = (none, .aload_n 0, []) := by decide +kernel
theorem r_Model_about_149 : P_Model_about 149 = (none, .getfield 62, []) := by decide +kernel
theorem r_Model_about_152 : P_Model_about 152 = (none, .iconst 0, []) := by decide +kernel
theorem r_Model_about_153 : P_Model_about 153 = (none, .invokevirtual 178, []) := by decide +kernel
theorem r_Model_about_156 : P_Model_about 156 = (none, .iconst 0, []) := by decide +kernel
theorem r_Model_about_157 : P_Model_about 157 = (none, .istore_n 3, []) := by decide +kernel
theorem r_Model_about_158 : P_Model_about 158 = (none, .iconst 0, []) := by decide +kernel
theorem r_Model_about_159 : P_Model_about 159 = (none, .istore 4, []) := by decide +kernel
theorem r_Model_about_161 : P_Model_about 161 = (some [0, 1, 2, 3, 4], .iload 4, []) := by decide +kernel
theorem r_Model_about_163 : P_Model_about 163 = (none, .aload_n 0, []) := by decide +kernel
theorem r_Model_about_164 : P_Model_about 164 = (none, .getfield 50, []) := by decide +kernel
theorem r_Model_about_167 : P_Model_about 167 = (none, .iload_n 1, []) := by decide +kernel
theorem r_Model_about_168 : P_Model_about 168 = (none, .iaload, []) := by decide +kernel
theorem r_Model_about_169 : P_Model_about 169 = (none, .if_icmp .ge 59, [228]) := by decide +kernel
theorem r_Model_about_172 : P_Model_about 172 = (none, .iload_n 3, []) := by decide +kernel
theorem r_Model_about_173 : P_Model_about 173 = (none, .iload_n 2, []) := by decide +kernel
theorem r_Model_about_174 : P_Model_about 174 = (none, .bipush 10, []) := by decide +kernel
theorem r_Model_about_176 : P_Model_about 176 = (none, .if_icmp .ne 13, [189]) := by decide +kernel
theorem r_Model_about_179 : P_Model_about 179 = (none, .aload_n 0, []) := by decide +kernel
theorem r_Model_about_180 : P_Model_about 180 = (none, .iload_n 1, []) := by decide +kernel
theorem r_Model_about_181 : P_Model_about 181 = (none, .iload 4, []) := by decide +kernel
theorem r_Model_about_183 : P_Model_about 183 = (none, .invokevirtual 182, []) := by decide +kernel
theorem r_Model_about_186 : P_Model_about 186 = (none, .goto 34, [220]) := by decide +kernel
theorem r_Model_about_189 : P_Model_about 189 = (none, .aload_n 0, []) := by decide +kernel
theorem r_Model_about_190 : P_Model_about 190 = (none, .getfield 62, []) := by decide +kernel
theorem r_Model_about_193 : P_Model_about 193 = (none, .iload 4, []) := by decide +kernel
theorem r_Model_about_195 : P_Model_about 195 = (none, .baload, []) := by decide +kernel
theorem r_Model_about_196 : P_Model_about 196 = (none, .ifCond .ne 7, [203]) := by decide +kernel
theorem r_Model_about_199 : P_Model_about 199 = (none, .iconst 0, []) := by decide +kernel
theorem r_Model_about_200 : P_Model_about 200 = (none, .goto 20, [220]) := by decide +kernel
theorem r_Model_about_203 : P_Model_about 203 = (none, .iload_n 2, []) := by decide +kernel
theorem r_Model_about_204 : P_Model_about 204 = (none, .bipush 11, []) := by decide +kernel
theorem r_Model_about_206 : P_Model_about 206 = (none, .if_icmp .ne 7, [213]) := by decide +kernel
theorem r_Model_about_209 : P_Model_about 209 = (none, .iconst 1, []) := by decide +kernel
theorem r_Model_about_210 : P_Model_about 210 = (none, .goto 10, [220]) := by decide +kernel
theorem r_Model_about_213 : P_Model_about 213 = (none, .aload_n 0, []) := by decide +kernel
theorem r_Model_about_214 : P_Model_about 214 = (none, .iload_n 1, []) := by decide +kernel
theorem r_Model_about_215 : P_Model_about 215 = (none, .iload 4, []) := by decide +kernel
theorem r_Model_about_217 : P_Model_about 217 = (none, .invokevirtual 182, []) := by decide +kernel
theorem r_Model_about_220 : P_Model_about 220 = (none, .iadd, []) := by decide +kernel
theorem r_Model_about_221 : P_Model_about 221 = (none, .istore_n 3, []) := by decide +kernel
theorem r_Model_about_222 : P_Model_about 222 = (none, .iinc 4 1, []) := by decide +kernel
theorem r_Model_about_225 : P_Model_about 225 = (none, .goto (-64), [161]) := by decide +kernel
theorem r_Model_about_228 : P_Model_about 228 = (none, .iload_n 3, []) := by decide +kernel
theorem r_Model_about_229 : P_Model_about 229 = (none, .ireturn, []) := by decide +kernel
def E_Model_about : List (Nat × Ent) := [(646, (1, 0, 0, 0, T_Model_isPicture)), (712, (5, 7, 0, 0, T_Model_live)), (728, (3, 5, 0, 0, T_Model_sizeOf)), (836, (2, 7, 0, 0, T_Model_unknown))]
def X_Model_about : Cx := (llk (0, 0, 9) ftX11, llk 99 ntX11, llk none kcX11, llk none klX11, llk dEnt E_Model_about, 8, 0, false)
theorem xok_Model_about : Xok RX11 X_Model_about := xok_of ftX11_ok ntX11_ok kcX11_ok klX11_ok (E := E_Model_about) (List.forall_mem_cons.mpr ⟨co_X11_646, List.forall_mem_cons.mpr ⟨co_X11_712, List.forall_mem_cons.mpr ⟨co_X11_728, List.forall_mem_cons.mpr ⟨co_X11_836, fun _ h => absurd h List.not_mem_nil⟩⟩⟩⟩)
theorem xf_Model_about_16 : xfl X_Model_about 16 = (11, 3, 1) := by decide +kernel
theorem xf_Model_about_20 : xfl X_Model_about 20 = (11, 4, 1) := by decide +kernel
theorem xf_Model_about_23 : xfl X_Model_about 23 = (11, 5, 1) := by decide +kernel
theorem xf_Model_about_26 : xfl X_Model_about 26 = (11, 6, 1) := by decide +kernel
theorem xf_Model_about_29 : xfl X_Model_about 29 = (11, 7, 1) := by decide +kernel
theorem xf_Model_about_32 : xfl X_Model_about 32 = (11, 8, 1) := by decide +kernel
theorem xf_Model_about_44 : xfl X_Model_about 44 = (11, 12, 1) := by decide +kernel
theorem xf_Model_about_50 : xfl X_Model_about 50 = (11, 14, 1) := by decide +kernel
theorem xf_Model_about_59 : xfl X_Model_about 59 = (11, 17, 1) := by decide +kernel
theorem xf_Model_about_62 : xfl X_Model_about 62 = (11, 18, 1) := by decide +kernel
theorem xe_Model_about_646 : xE X_Model_about (4 * 161 + 2) = (1, 0, 0, 0, T_Model_isPicture) := rfl
theorem xe_Model_about_712 : xE X_Model_about (4 * 178 + 0) = (5, 7, 0, 0, T_Model_live) := rfl
theorem xe_Model_about_728 : xE X_Model_about (4 * 182 + 0) = (3, 5, 0, 0, T_Model_sizeOf) := rfl
theorem xe_Model_about_836 : xE X_Model_about (4 * 209 + 0) = (2, 7, 0, 0, T_Model_unknown) := rfl
theorem xd_Model_about : xd X_Model_about = 8 := rfl
theorem xrb_Model_about : xrb X_Model_about = 0 := rfl
theorem xin_Model_about : xin X_Model_about = false := rfl
set_option maxHeartbeats 4000000 in
set_option maxRecDepth 100000 in
theorem S_Model_about : Snd yX11_about cX11_about 5 (some .int) T_Model_about 8 0 0 := by
  refine snd_of (X := X_Model_about) (P := P_Model_about) (tb := tb_Model_about) (own := RX11) (by decide) rfl rfl (by decide +kernel) xok_Model_about rfl rk0 (fun h => by first | rfl | cases h) ?_
  intro as M k has hM hT0
  obtain ⟨sz, sl, lay, ρ, σ, τ⟩ := M
  obtain ⟨o, as1, e, hlo, hT1⟩ := mkT_r hT0
  clear hT0
  subst e
  obtain ⟨p, as2, e, hT2⟩ := pI_x hT1
  clear hT1
  subst e
  obtain ⟨w, as3, e, hT3⟩ := pI_x hT2
  clear hT2
  subst e
  obtain ⟨e, hT⟩ := hT3
  subst e
  replace hlo : lay o = (21, 0) := hlo
  have r_p : -2147483648 ≤ p ∧ p ≤ 2147483647 := has (vI p) (by simp)
  have r_w : -2147483648 ≤ w ∧ w ≤ 2147483647 := has (vI w) (by simp)
  clear has
  replace hM : ∀ a i, -2147483648 ≤ σ a i ∧ σ a i ≤ 2147483647 := hM
  replace hT : TF_Model_about o p w sz sl lay ρ σ τ k := hT
  unfold TF_Model_about at hT
  obtain ⟨hL, U, len, st, hMP, h1, h0⟩ := hT
  obtain ⟨J, hJd⟩ : ∃ J : Nat → List AV → Mm → Prop, J = (fun c vs M1 => (0 ≤ p ∧ p < 3) ∧ (c = 161 ∧ (10 ≤ w ∧ w ≤ 12) ∧ ∃ (i : Nat) (σ1 : Nat → Int → Int), QF σ σ1 o ∧ (∀ x, 0 ≤ x ∧ x < st 0 7 → (σ1 (o + 18) x = 0 ∨ σ1 (o + 18) x = 1) ∧ (σ1 (o + 18) x = 1 ↔ lvP U st x)) ∧ (i : Int) ≤ st 0 7 ∧ vs = [vR o, vI p, vI w, vI (abW U st w i), vI (i : Int)] ∧ M1 = (sz, sl, lay, ρ, σ1, τ))) := ⟨_, rfl⟩
  obtain ⟨μ, hμ⟩ : ∃ μ : Nat → List AV → Mm → Nat, μ = (fun _ vs _ => (1000 - gI (vs.getD 4 vN)).toNat) := ⟨_, rfl⟩
  refine ⟨Nat.le_of_ble_eq_true rfl, J, μ, 117, ?_, ?_⟩
  · skip
    by_cases hp : 0 ≤ p ∧ p < 3
    · have hpE : (0 ≤ p ∧ p < 3) = True := eq_true hp
      replace h1 := h1 hp
      obtain ⟨hS, hR⟩ := hMP hp
      obtain ⟨hB, hl3, ⟨m4, m5, m6⟩, ⟨m7, m8, m9⟩, m12, ⟨m14, m13⟩, m15, ⟨m17, m16⟩, m26⟩ := (show MR σ o p U len st from hR)
      obtain ⟨b1, b2, b3, b4, b5, b6, b7⟩ := (show MB σ o p U len (st 1) from hB)
      obtain ⟨w0, w1, w2, w3, w4, w5, w6, w7, w8, w9, w10, w11, w12, w13, w14⟩ := (show SW U len st from hS)
      (obtain ⟨mh, mp0, mp2, mp3, mp4, mp5, mp6, mp7, mp8, mp9, mp10, mp11, mp12, mp13, mp14, mp15, mp16, mp17, mp18, mp19, mp20, mp21, mp22, mp24, mp25, mp26, mp27, mq0, mq2, mq3, mq4, mq5, mq6, mq7, mq8, mq9, mq10, mq11, mq12, mq13, mq14, mq15, mq16, mq17, mq18, mq19, mq20, mq21, mq22, mq24, mq25, mq26, mq27⟩ := (show LModel lay ρ _ from hL); unfold wps; simp only [hpE, find_e hL hS hR, si_iload_n0, si_iload_n1, si_iload_n2, si_iload_n3, si_iload, si_lload_n0, si_lload_n1, si_lload_n2, si_lload_n3, si_lload, si_aload_n0, si_aload_n1, si_aload_n2, si_aload_n3, si_aload, si_istore_n0, si_istore_n1, si_istore_n2, si_istore_n3, si_istore, si_astore_n0, si_astore_n1, si_astore_n2, si_astore_n3, si_astore, si_lstore_n0, si_lstore_n1, si_lstore_n2, si_lstore_n3, si_lstore, si_iconst, si_bipush, si_sipush, si_ldc, si_ldc2_w, si_lconst0, si_lconst1, si_aconst_null, si_iinc, si_dup, si_dup2, si_iadd, si_isub, si_imul, si_idiv, si_irem, si_iand, si_ior, si_ishl, si_ishr, si_ladd, si_lmul, si_lor, si_lxor, si_lshl, si_lushr, si_lcmp, si_i2b, si_i2l, si_l2i, si_icmp_eq, si_icmp_ne, si_icmp_lt, si_icmp_ge, si_icmp_gt, si_icmp_le, si_if_eq, si_if_ne, si_if_lt, si_if_ge, si_if_gt, si_if_le, si_ifnull, si_ifnonnull, si_goto, si_tableswitch, si_lookupswitch, si_getfield, si_putfield, si_getstatic, si_iaload, si_baload, si_laload, si_aaload, si_iastore, si_bastore, si_lastore, si_aastore, si_arraylength, si_new, si_newarray, si_anewarray, si_invokevirtual, si_invokespecial, si_invokestatic, si_ireturn, si_lreturn, si_areturn, si_return_, pI_e, pL_e, pR_e, pA_r, pA_n, pN_n, pN_r, oI_e, oL_e, oA_r, oA_n, lget_e, lrm1_0, lrm2_0, lrm1_i, lrm1_r, lrm1_n, lrm1_l, lrm2_i, lrm2_r, lrm2_n, lrm2_l, popN_0, popN_s, acat_i, acat_l, acat_r, acat_n, stw_0, stw_s, psh_s, psh_n, wgf_r, wgf_i, wgf_b, wgf_n, wgf_m, wpf_i, wpf_r, wpf_b, wnew_e, callE_e, rbk_0, rbk_1, tsw_0, tsw_s, lsw_0, lsw_s, wp_s, wq_t, wq_f, oV_e, pick_0, pick_s, oZ_e, oY_e, r_Model_about_0, r_Model_about_1, r_Model_about_4, r_Model_about_7, r_Model_about_8, r_Model_about_11, r_Model_about_12, r_Model_about_14, r_Model_about_17, r_Model_about_18, r_Model_about_19, r_Model_about_20, r_Model_about_76, r_Model_about_77, r_Model_about_80, r_Model_about_81, r_Model_about_82, r_Model_about_83, r_Model_about_84, r_Model_about_87, r_Model_about_88, r_Model_about_89, r_Model_about_90, r_Model_about_91, r_Model_about_94, r_Model_about_95, r_Model_about_96, r_Model_about_97, r_Model_about_98, r_Model_about_101, r_Model_about_102, r_Model_about_103, r_Model_about_104, r_Model_about_105, r_Model_about_108, r_Model_about_109, r_Model_about_110, r_Model_about_111, r_Model_about_112, r_Model_about_115, r_Model_about_116, r_Model_about_117, r_Model_about_118, r_Model_about_119, r_Model_about_122, r_Model_about_123, r_Model_about_124, r_Model_about_125, r_Model_about_126, r_Model_about_129, r_Model_about_130, r_Model_about_131, r_Model_about_132, r_Model_about_133, r_Model_about_136, r_Model_about_137, r_Model_about_138, r_Model_about_139, r_Model_about_140, r_Model_about_141, r_Model_about_144, r_Model_about_145, r_Model_about_146, r_Model_about_147, r_Model_about_148, r_Model_about_149, r_Model_about_152, r_Model_about_153, r_Model_about_156, r_Model_about_157, r_Model_about_158, r_Model_about_159, r_Model_about_161, r_Model_about_163, r_Model_about_164, r_Model_about_167, r_Model_about_168, r_Model_about_169, r_Model_about_172, r_Model_about_173, r_Model_about_174, r_Model_about_176, r_Model_about_179, r_Model_about_180, r_Model_about_181, r_Model_about_183, r_Model_about_186, r_Model_about_189, r_Model_about_190, r_Model_about_193, r_Model_about_195, r_Model_about_196, r_Model_about_199, r_Model_about_200, r_Model_about_203, r_Model_about_204, r_Model_about_206, r_Model_about_209, r_Model_about_210, r_Model_about_213, r_Model_about_214, r_Model_about_215, r_Model_about_217, r_Model_about_220, r_Model_about_221, r_Model_about_222, r_Model_about_225, r_Model_about_228, r_Model_about_229, xf_Model_about_16, xf_Model_about_20, xf_Model_about_23, xf_Model_about_26, xf_Model_about_29, xf_Model_about_32, xf_Model_about_44, xf_Model_about_50, xf_Model_about_59, xf_Model_about_62, xe_Model_about_646, xe_Model_about_712, xe_Model_about_728, xe_Model_about_836, xd_Model_about, xrb_Model_about, xin_Model_about, T_Model_isPicture_e, TF_Model_isPicture, T_Model_live_e, TF_Model_live, T_Model_sizeOf_e, TF_Model_sizeOf, T_Model_unknown_e, TF_Model_unknown, mh, mp0, mp2, mp3, mp4, mp5, mp6, mp7, mp8, mp9, mp10, mp11, mp12, mp13, mp14, mp15, mp16, mp17, mp18, mp19, mp20, mp21, mp22, mp24, mp25, mp26, mp27, mq0, mq2, mq3, mq4, mq5, mq6, mq7, mq8, mq9, mq10, mq11, mq12, mq13, mq14, mq15, mq16, mq17, mq18, mq19, mq20, mq21, mq22, mq24, mq25, mq26, mq27, Nat.reduceAdd, Nat.reduceMul, Nat.reduceEqDiff, reduceIte, Int.reduceNeg, Int.reduceLE, Int.reduceLT, Int.reduceAdd, Int.reduceSub, Int.reduceToNat, true_and, and_true, inR_e, Nat.reduceLT, Nat.reduceLeDiff, reduceCtorEq, Nat.add_zero, Nat.zero_add, or_false, false_or, or_true, true_or, not_true_eq_false, not_false_eq_true, Classical.not_not, Nat.add_eq_zero_iff, and_false, false_and, Int.reduceEq, List.mem_cons, List.not_mem_nil, forall_eq_or_imp, forall_eq, false_implies, implies_true, forall_const, aargs_0, aargs_i, aargs_r, aargs_l, aargs_n, nfT_e, eq_self, and_self, Nat.le_refl, fu_s, fu_fu, iu_iu, iu_s, fu_am, fu_a0, fu_0a, iu_l, Nat.reduceBEq, Int.reduceBEq, T_objInit_e]; clear mp0 mp2 mp3 mp4 mp5 mp6 mp7 mp8 mp9 mp10 mp11 mp12 mp13 mp14 mp15 mp16 mp17 mp18 mp19 mp20 mp21 mp22 mp24 mp25 mp26 mp27)
      obtain ⟨z0, z1, z2, z3, z4, z5, z6, z7, z8, z9, z10, z11, z12, zn⟩ := h1 σ QF.rf
      refine ⟨fun a => zn (by omega), fun a => ⟨fun b => ⟨⟨fun e => ⟨by omega, by omega, by rw [hl3]; exact z0 e⟩, fun e => ⟨by omega, by omega, by rw [m4]; exact z1 e⟩, fun e => ⟨by omega, by omega, by rw [m5]; exact z2 e⟩, fun e => ⟨by omega, by omega, by rw [m6]; exact z3 e⟩, fun e => ⟨by omega, by omega, by rw [m7]; exact z4 e⟩, fun e => ⟨by omega, by omega, by rw [m8]; exact z5 e⟩, fun e => ⟨by omega, by omega, by rw [m12]; exact z6 e⟩, fun e => ⟨by omega, by omega, by rw [m14]; exact z7 e⟩, fun e => ⟨by omega, by omega, by rw [m17]; exact z8 e⟩, fun e => ⟨hL, U, len, st, hS, hR, fun c => (h1 _ QF.ch).2.2.2.2.2.2.2.2.2.1 e⟩⟩, fun e => ⟨hL, U, len, st, hS, hR, fun σ2 f1 f2 => ?_⟩⟩, fun b => zn (by omega)⟩⟩
      rw [hJd]
      refine ⟨hp, rfl, by omega, 0, σ2, f1.qf (Or.inl rfl), f2, by omega, ?_, rfl⟩
      unfold abW
      split
      · rfl
      · split
        · rfl
        · rfl
    · have hpE : (0 ≤ p ∧ p < 3) = False := eq_false hp
      (obtain ⟨mh, mp0, mp2, mp3, mp4, mp5, mp6, mp7, mp8, mp9, mp10, mp11, mp12, mp13, mp14, mp15, mp16, mp17, mp18, mp19, mp20, mp21, mp22, mp24, mp25, mp26, mp27, mq0, mq2, mq3, mq4, mq5, mq6, mq7, mq8, mq9, mq10, mq11, mq12, mq13, mq14, mq15, mq16, mq17, mq18, mq19, mq20, mq21, mq22, mq24, mq25, mq26, mq27⟩ := (show LModel lay ρ _ from hL); unfold wps; simp only [hpE, si_iload_n0, si_iload_n1, si_iload_n2, si_iload_n3, si_iload, si_lload_n0, si_lload_n1, si_lload_n2, si_lload_n3, si_lload, si_aload_n0, si_aload_n1, si_aload_n2, si_aload_n3, si_aload, si_istore_n0, si_istore_n1, si_istore_n2, si_istore_n3, si_istore, si_astore_n0, si_astore_n1, si_astore_n2, si_astore_n3, si_astore, si_lstore_n0, si_lstore_n1, si_lstore_n2, si_lstore_n3, si_lstore, si_iconst, si_bipush, si_sipush, si_ldc, si_ldc2_w, si_lconst0, si_lconst1, si_aconst_null, si_iinc, si_dup, si_dup2, si_iadd, si_isub, si_imul, si_idiv, si_irem, si_iand, si_ior, si_ishl, si_ishr, si_ladd, si_lmul, si_lor, si_lxor, si_lshl, si_lushr, si_lcmp, si_i2b, si_i2l, si_l2i, si_icmp_eq, si_icmp_ne, si_icmp_lt, si_icmp_ge, si_icmp_gt, si_icmp_le, si_if_eq, si_if_ne, si_if_lt, si_if_ge, si_if_gt, si_if_le, si_ifnull, si_ifnonnull, si_goto, si_tableswitch, si_lookupswitch, si_getfield, si_putfield, si_getstatic, si_iaload, si_baload, si_laload, si_aaload, si_iastore, si_bastore, si_lastore, si_aastore, si_arraylength, si_new, si_newarray, si_anewarray, si_invokevirtual, si_invokespecial, si_invokestatic, si_ireturn, si_lreturn, si_areturn, si_return_, pI_e, pL_e, pR_e, pA_r, pA_n, pN_n, pN_r, oI_e, oL_e, oA_r, oA_n, lget_e, lrm1_0, lrm2_0, lrm1_i, lrm1_r, lrm1_n, lrm1_l, lrm2_i, lrm2_r, lrm2_n, lrm2_l, popN_0, popN_s, acat_i, acat_l, acat_r, acat_n, stw_0, stw_s, psh_s, psh_n, wgf_r, wgf_i, wgf_b, wgf_n, wgf_m, wpf_i, wpf_r, wpf_b, wnew_e, callE_e, rbk_0, rbk_1, tsw_0, tsw_s, lsw_0, lsw_s, wp_s, wq_t, wq_f, oV_e, pick_0, pick_s, oZ_e, oY_e, r_Model_about_0, r_Model_about_1, r_Model_about_4, r_Model_about_7, r_Model_about_8, r_Model_about_11, r_Model_about_12, r_Model_about_14, r_Model_about_17, r_Model_about_18, r_Model_about_19, r_Model_about_20, r_Model_about_76, r_Model_about_77, r_Model_about_80, r_Model_about_81, r_Model_about_82, r_Model_about_83, r_Model_about_84, r_Model_about_87, r_Model_about_88, r_Model_about_89, r_Model_about_90, r_Model_about_91, r_Model_about_94, r_Model_about_95, r_Model_about_96, r_Model_about_97, r_Model_about_98, r_Model_about_101, r_Model_about_102, r_Model_about_103, r_Model_about_104, r_Model_about_105, r_Model_about_108, r_Model_about_109, r_Model_about_110, r_Model_about_111, r_Model_about_112, r_Model_about_115, r_Model_about_116, r_Model_about_117, r_Model_about_118, r_Model_about_119, r_Model_about_122, r_Model_about_123, r_Model_about_124, r_Model_about_125, r_Model_about_126, r_Model_about_129, r_Model_about_130, r_Model_about_131, r_Model_about_132, r_Model_about_133, r_Model_about_136, r_Model_about_137, r_Model_about_138, r_Model_about_139, r_Model_about_140, r_Model_about_141, r_Model_about_144, r_Model_about_145, r_Model_about_146, r_Model_about_147, r_Model_about_148, r_Model_about_149, r_Model_about_152, r_Model_about_153, r_Model_about_156, r_Model_about_157, r_Model_about_158, r_Model_about_159, r_Model_about_161, r_Model_about_163, r_Model_about_164, r_Model_about_167, r_Model_about_168, r_Model_about_169, r_Model_about_172, r_Model_about_173, r_Model_about_174, r_Model_about_176, r_Model_about_179, r_Model_about_180, r_Model_about_181, r_Model_about_183, r_Model_about_186, r_Model_about_189, r_Model_about_190, r_Model_about_193, r_Model_about_195, r_Model_about_196, r_Model_about_199, r_Model_about_200, r_Model_about_203, r_Model_about_204, r_Model_about_206, r_Model_about_209, r_Model_about_210, r_Model_about_213, r_Model_about_214, r_Model_about_215, r_Model_about_217, r_Model_about_220, r_Model_about_221, r_Model_about_222, r_Model_about_225, r_Model_about_228, r_Model_about_229, xf_Model_about_16, xf_Model_about_20, xf_Model_about_23, xf_Model_about_26, xf_Model_about_29, xf_Model_about_32, xf_Model_about_44, xf_Model_about_50, xf_Model_about_59, xf_Model_about_62, xe_Model_about_646, xe_Model_about_712, xe_Model_about_728, xe_Model_about_836, xd_Model_about, xrb_Model_about, xin_Model_about, T_Model_isPicture_e, TF_Model_isPicture, T_Model_live_e, TF_Model_live, T_Model_sizeOf_e, TF_Model_sizeOf, T_Model_unknown_e, TF_Model_unknown, mh, mp0, mp2, mp3, mp4, mp5, mp6, mp7, mp8, mp9, mp10, mp11, mp12, mp13, mp14, mp15, mp16, mp17, mp18, mp19, mp20, mp21, mp22, mp24, mp25, mp26, mp27, mq0, mq2, mq3, mq4, mq5, mq6, mq7, mq8, mq9, mq10, mq11, mq12, mq13, mq14, mq15, mq16, mq17, mq18, mq19, mq20, mq21, mq22, mq24, mq25, mq26, mq27, Nat.reduceAdd, Nat.reduceMul, Nat.reduceEqDiff, reduceIte, Int.reduceNeg, Int.reduceLE, Int.reduceLT, Int.reduceAdd, Int.reduceSub, Int.reduceToNat, true_and, and_true, inR_e, Nat.reduceLT, Nat.reduceLeDiff, reduceCtorEq, Nat.add_zero, Nat.zero_add, or_false, false_or, or_true, true_or, not_true_eq_false, not_false_eq_true, Classical.not_not, Nat.add_eq_zero_iff, and_false, false_and, Int.reduceEq, List.mem_cons, List.not_mem_nil, forall_eq_or_imp, forall_eq, false_implies, implies_true, forall_const, aargs_0, aargs_i, aargs_r, aargs_l, aargs_n, nfT_e, eq_self, and_self, Nat.le_refl, fu_s, fu_fu, iu_iu, iu_s, fu_am, fu_a0, fu_0a, iu_l, Nat.reduceBEq, Int.reduceBEq, T_objInit_e]; clear mp0 mp2 mp3 mp4 mp5 mp6 mp7 mp8 mp9 mp10 mp11 mp12 mp13 mp14 mp15 mp16 mp17 mp18 mp19 mp20 mp21 mp22 mp24 mp25 mp26 mp27)
      exact h0 hp
  · intro cp vs M1 hvs hM1 hlen hJ
    rw [hJd] at hJ
    obtain ⟨hp, hJ⟩ := hJ
    have hpE : (0 ≤ p ∧ p < 3) = True := eq_true hp
    replace h1 := h1 hp
    obtain ⟨hS, hR⟩ := hMP hp
    obtain ⟨w0, w1, w2, w3, w4, w5, w6, w7, w8, w9, w10, w11, w12, w13, w14⟩ := (show SW U len st from hS)
    obtain ⟨rfl, hw, i, σ1, g1, g2, g3, rfl, rfl⟩ := hJ
    have hR1 := (g1.mr hR)
    obtain ⟨hB, hl3, ⟨m4, m5, m6⟩, ⟨m7, m8, m9⟩, m12, ⟨m14, m13⟩, m15, ⟨m17, m16⟩, m26⟩ := (show MR σ1 o p U len st from hR1)
    obtain ⟨b1, b2, b3, b4, b5, b6, b7⟩ := (show MB σ1 o p U len (st 1) from hB)
    (obtain ⟨mh, mp0, mp2, mp3, mp4, mp5, mp6, mp7, mp8, mp9, mp10, mp11, mp12, mp13, mp14, mp15, mp16, mp17, mp18, mp19, mp20, mp21, mp22, mp24, mp25, mp26, mp27, mq0, mq2, mq3, mq4, mq5, mq6, mq7, mq8, mq9, mq10, mq11, mq12, mq13, mq14, mq15, mq16, mq17, mq18, mq19, mq20, mq21, mq22, mq24, mq25, mq26, mq27⟩ := (show LModel lay ρ _ from hL); unfold wps; simp only [Option.getD_some, List.zip_cons_cons, List.zip_nil_left, List.zip_nil_right, List.zip_nil_right, MB_fu, MR_fu, si_iload_n0, si_iload_n1, si_iload_n2, si_iload_n3, si_iload, si_lload_n0, si_lload_n1, si_lload_n2, si_lload_n3, si_lload, si_aload_n0, si_aload_n1, si_aload_n2, si_aload_n3, si_aload, si_istore_n0, si_istore_n1, si_istore_n2, si_istore_n3, si_istore, si_astore_n0, si_astore_n1, si_astore_n2, si_astore_n3, si_astore, si_lstore_n0, si_lstore_n1, si_lstore_n2, si_lstore_n3, si_lstore, si_iconst, si_bipush, si_sipush, si_ldc, si_ldc2_w, si_lconst0, si_lconst1, si_aconst_null, si_iinc, si_dup, si_dup2, si_iadd, si_isub, si_imul, si_idiv, si_irem, si_iand, si_ior, si_ishl, si_ishr, si_ladd, si_lmul, si_lor, si_lxor, si_lshl, si_lushr, si_lcmp, si_i2b, si_i2l, si_l2i, si_icmp_eq, si_icmp_ne, si_icmp_lt, si_icmp_ge, si_icmp_gt, si_icmp_le, si_if_eq, si_if_ne, si_if_lt, si_if_ge, si_if_gt, si_if_le, si_ifnull, si_ifnonnull, si_goto, si_tableswitch, si_lookupswitch, si_getfield, si_putfield, si_getstatic, si_iaload, si_baload, si_laload, si_aaload, si_iastore, si_bastore, si_lastore, si_aastore, si_arraylength, si_new, si_newarray, si_anewarray, si_invokevirtual, si_invokespecial, si_invokestatic, si_ireturn, si_lreturn, si_areturn, si_return_, pI_e, pL_e, pR_e, pA_r, pA_n, pN_n, pN_r, oI_e, oL_e, oA_r, oA_n, lget_e, lrm1_0, lrm2_0, lrm1_i, lrm1_r, lrm1_n, lrm1_l, lrm2_i, lrm2_r, lrm2_n, lrm2_l, popN_0, popN_s, acat_i, acat_l, acat_r, acat_n, stw_0, stw_s, psh_s, psh_n, wgf_r, wgf_i, wgf_b, wgf_n, wgf_m, wpf_i, wpf_r, wpf_b, wnew_e, callE_e, rbk_0, rbk_1, tsw_0, tsw_s, lsw_0, lsw_s, wp_s, wq_t, wq_f, oV_e, pick_0, pick_s, oZ_e, oY_e, r_Model_about_0, r_Model_about_1, r_Model_about_4, r_Model_about_7, r_Model_about_8, r_Model_about_11, r_Model_about_12, r_Model_about_14, r_Model_about_17, r_Model_about_18, r_Model_about_19, r_Model_about_20, r_Model_about_76, r_Model_about_77, r_Model_about_80, r_Model_about_81, r_Model_about_82, r_Model_about_83, r_Model_about_84, r_Model_about_87, r_Model_about_88, r_Model_about_89, r_Model_about_90, r_Model_about_91, r_Model_about_94, r_Model_about_95, r_Model_about_96, r_Model_about_97, r_Model_about_98, r_Model_about_101, r_Model_about_102, r_Model_about_103, r_Model_about_104, r_Model_about_105, r_Model_about_108, r_Model_about_109, r_Model_about_110, r_Model_about_111, r_Model_about_112, r_Model_about_115, r_Model_about_116, r_Model_about_117, r_Model_about_118, r_Model_about_119, r_Model_about_122, r_Model_about_123, r_Model_about_124, r_Model_about_125, r_Model_about_126, r_Model_about_129, r_Model_about_130, r_Model_about_131, r_Model_about_132, r_Model_about_133, r_Model_about_136, r_Model_about_137, r_Model_about_138, r_Model_about_139, r_Model_about_140, r_Model_about_141, r_Model_about_144, r_Model_about_145, r_Model_about_146, r_Model_about_147, r_Model_about_148, r_Model_about_149, r_Model_about_152, r_Model_about_153, r_Model_about_156, r_Model_about_157, r_Model_about_158, r_Model_about_159, r_Model_about_161, r_Model_about_163, r_Model_about_164, r_Model_about_167, r_Model_about_168, r_Model_about_169, r_Model_about_172, r_Model_about_173, r_Model_about_174, r_Model_about_176, r_Model_about_179, r_Model_about_180, r_Model_about_181, r_Model_about_183, r_Model_about_186, r_Model_about_189, r_Model_about_190, r_Model_about_193, r_Model_about_195, r_Model_about_196, r_Model_about_199, r_Model_about_200, r_Model_about_203, r_Model_about_204, r_Model_about_206, r_Model_about_209, r_Model_about_210, r_Model_about_213, r_Model_about_214, r_Model_about_215, r_Model_about_217, r_Model_about_220, r_Model_about_221, r_Model_about_222, r_Model_about_225, r_Model_about_228, r_Model_about_229, xf_Model_about_16, xf_Model_about_20, xf_Model_about_23, xf_Model_about_26, xf_Model_about_29, xf_Model_about_32, xf_Model_about_44, xf_Model_about_50, xf_Model_about_59, xf_Model_about_62, xe_Model_about_646, xe_Model_about_712, xe_Model_about_728, xe_Model_about_836, xd_Model_about, xrb_Model_about, xin_Model_about, T_Model_isPicture_e, TF_Model_isPicture, T_Model_live_e, TF_Model_live, T_Model_sizeOf_e, TF_Model_sizeOf, T_Model_unknown_e, TF_Model_unknown, mh, mp0, mp2, mp3, mp4, mp5, mp6, mp7, mp8, mp9, mp10, mp11, mp12, mp13, mp14, mp15, mp16, mp17, mp18, mp19, mp20, mp21, mp22, mp24, mp25, mp26, mp27, mq0, mq2, mq3, mq4, mq5, mq6, mq7, mq8, mq9, mq10, mq11, mq12, mq13, mq14, mq15, mq16, mq17, mq18, mq19, mq20, mq21, mq22, mq24, mq25, mq26, mq27, Nat.reduceAdd, Nat.reduceMul, Nat.reduceEqDiff, reduceIte, Int.reduceNeg, Int.reduceLE, Int.reduceLT, Int.reduceAdd, Int.reduceSub, Int.reduceToNat, true_and, and_true, inR_e, Nat.reduceLT, Nat.reduceLeDiff, reduceCtorEq, Nat.add_zero, Nat.zero_add, or_false, false_or, or_true, true_or, not_true_eq_false, not_false_eq_true, Classical.not_not, Nat.add_eq_zero_iff, and_false, false_and, Int.reduceEq, List.mem_cons, List.not_mem_nil, forall_eq_or_imp, forall_eq, false_implies, implies_true, forall_const, aargs_0, aargs_i, aargs_r, aargs_l, aargs_n, nfT_e, eq_self, and_self, Nat.le_refl, fu_s, fu_fu, iu_iu, iu_s, fu_am, fu_a0, fu_0a, iu_l, Nat.reduceBEq, Int.reduceBEq, T_objInit_e]; clear mp0 mp2 mp3 mp4 mp5 mp6 mp7 mp8 mp9 mp10 mp11 mp12 mp13 mp14 mp15 mp16 mp17 mp18 mp19 mp20 mp21 mp22 mp24 mp25 mp26 mp27)
    have sR := abW_R hS (w := w) g3
    rw [m14]
    refine ⟨by omega, by omega, fun z => ?_, fun z => ?_⟩
    · obtain ⟨z0, z1, z2, z3, z4, z5, z6, z7, z8, z9, z10, z11, z12, zn⟩ := h1 σ1 g1
      rw [show i = (st 0 7).toNat by omega]
      unfold abW
      by_cases e10 : w = 10
      · rw [if_pos e10]; exact z10 e10
      · rw [if_neg e10]
        by_cases e11 : w = 11
        · rw [if_pos e11]; exact z11 e11
        · rw [if_neg e11]; exact z12 (by omega)
    · have gi := g2 (i : Int) (by omega)
      have tv := hS.tv (i := (i : Int)) (by omega)
      have sz1 := hS.szR (i := (i : Int)) (by omega)
      have nx : ∀ (v : Int) (c : Int → Int), abW U st w (i + 1) = abW U st w i + v → J 161 [vR o, vI p, vI w, vI (abW U st w i + v), vI ((i : Int) + 1)] (sz, sl, lay, ρ, fu σ1 (o + 23) c, τ) := by
        intro v c e
        rw [hJd, ← e]
        refine ⟨hp, rfl, hw, i + 1, _, g1.up (b := o + 23) (by omega), ?_, by omega, rfl, rfl⟩
        simp only [fu_am, Nat.reduceBEq]
        exact g2
      have nx0 : ∀ v : Int, abW U st w (i + 1) = abW U st w i + v → J 161 [vR o, vI p, vI w, vI (abW U st w i + v), vI ((i : Int) + 1)] (sz, sl, lay, ρ, σ1, τ) := by
        intro v e
        have := nx v (σ1 (o + 23)) e
        rw [fu_self] at this
        exact this
      rw [m13 i (by omega)]
      refine ⟨fun e10 => ⟨by omega, by omega, fun l => ?_, fun l => ⟨by omega, by omega, nx0 0 (abW_0 e10 (fun q => by have := gi.2.mpr q; omega)), (by rw [hμ]; simp only [gI_e, List.getD_cons_succ, List.getD_cons_zero]; omega)⟩⟩, fun e10 => ⟨hL, U, len, st 1, hB, by omega, tv, fun c => ?_⟩⟩
      · have lvi : lvP U st i := by
          rcases gi.1 with q | q
          · exact absurd q l
          · exact gi.2.mp q
        refine ⟨fun e11 => ⟨hL, U, len, st 1, hB, by omega, tv, fun c => ?_⟩, fun e11 => ⟨by omega, by omega, nx0 1 (by rw [e11]; exact abW_11 lvi), (by rw [hμ]; simp only [gI_e, List.getD_cons_succ, List.getD_cons_zero]; omega)⟩⟩
        rw [show szv U (st 1) (st 2 i) = szP U st i from rfl]
        exact ⟨by omega, by omega, nx _ c (abW_12 e10 e11 lvi), (by rw [hμ]; simp only [gI_e, List.getD_cons_succ, List.getD_cons_zero]; omega)⟩
      · rw [show szv U (st 1) (st 2 i) = szP U st i from rfl]
        exact ⟨by omega, by omega, nx _ c (by rw [e10]; exact abW_10), (by rw [hμ]; simp only [gI_e, List.getD_cons_succ, List.getD_cons_zero]; omega)⟩

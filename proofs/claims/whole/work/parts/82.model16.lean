/-- nothing has changed but what is scratch -/
def QF (σ σ2 : Nat → Int → Int) (o : Nat) : Prop := ∀ x, ¬ (o + 18 ≤ x ∧ x ≤ o + 21) → ¬ (o + 23 ≤ x ∧ x ≤ o + 25) → σ2 x = σ x
section
variable {σ σ1 σ2 : Nat → Int → Int} {o : Nat} {p : Int} {U : Int → Int} {len : Int} {st : Nat → Int → Int}
theorem QF.rf : QF σ σ o := fun _ _ _ => rfl
theorem QF.trans (h : QF σ σ1 o) (g : QF σ1 σ2 o) : QF σ σ2 o := fun x a b => (g x a b).trans (h x a b)
theorem QF.mr (h : QF σ σ1 o) (g : MR σ o p U len st) : MR σ1 o p U len st := g.cg (fun j _ _ => h _ (by omega) (by omega)) (h _ (by omega) (by omega))
theorem QF.up {b : Nat} {f : Int → Int} (h : QF σ σ1 o) (hb : (o + 18 ≤ b ∧ b ≤ o + 21) ∨ (o + 23 ≤ b ∧ b ≤ o + 25)) : QF σ (fu σ1 b f) o := fun x h1 h2 => (fu_n (by omega)).trans (h x h1 h2)
theorem LF.qf {a : Nat} (h : LF σ σ1 o a) (ha : a = o + 18 ∨ a = o + 19) : QF σ σ1 o := fun x h1 h2 => h x (by omega) (by omega) (by omega)
end
theorem sumP_st {P : Int → Prop} {f : Int → Int} {n : Nat} (h : P n) : sumP P f (n + 1) = sumP P f n + f n := by
  show sumP P f n + (if bP (P n) = true then f n else 0) = _
  rw [if_pos (bP_e.mpr h)]
theorem sumP_sf {P : Int → Prop} {f : Int → Int} {n : Nat} (h : ¬ P n) : sumP P f (n + 1) = sumP P f n := by
  show sumP P f n + (if bP (P n) = true then f n else 0) = _
  rw [if_neg (by rw [bP_e]; exact h)]
  omega
/-- a picture of the reference -/
def MdP (σ : Nat → Int → Int) (o : Nat) (p : Int) (U : Int → Int) (len : Int) (st : Nat → Int → Int) : Prop := 0 ≤ p ∧ p < 3 → SW U len st ∧ MR σ o p U len st
theorem find_e {o : Nat} {p x : Int} {sz sl : Nat} {lay : Nat → Nat × Int} {ρ : Nat → Int → Nat} {σ : Nat → Int → Int} {τ : Nat → Int → Int64} {k : Option AV → Mm → Prop} {U : Int → Int} {len : Int} {st : Nat → Int → Int} (hL : LModel lay ρ o) (hS : SW U len st) (hR : MR σ o p U len st) : TF_Model_find o p x sz sl lay ρ σ τ k = k (some (vI (fn U st x))) (sz, sl, lay, ρ, σ, τ) := by
  obtain ⟨hB, hl3, ⟨m4, m5, m6⟩, ⟨m7, m8, m9⟩, m12, ⟨m14, m13⟩, m15, ⟨m17, m16⟩, m26⟩ := hR
  have fR := hS.fnR x
  unfold TF_Model_find
  by_cases hx : 0 ≤ x ∧ x < 65536
  · rw [m26 x hx]
    rw [show fn U st x + 1 - 1 = fn U st x by omega]
    exact propext ⟨fun h => h.2.2.2.1 hx, fun h => ⟨hL, hB.1, fun _ => by omega, fun _ => h, fun z => absurd hx z⟩⟩
  · rw [hS.fn0 hx]
    exact propext ⟨fun h => h.2.2.2.2 hx, fun h => ⟨hL, hB.1, fun z => absurd z hx, fun z => absurd z hx, fun _ => h⟩⟩
theorem SW.szR {U : Int → Int} {len : Int} {st : Nat → Int → Int} (h : SW U len st) {i : Int} (hi : 0 ≤ i ∧ i < st 0 7) : 0 ≤ szP U st i ∧ szP U st i ≤ 100000 := by
  have tv := h.tv hi
  exact szv_R h.1 tv.1.1 tv.1.2.1 tv.2 h.2.1.2
theorem co_X11_712 : CallOK RX11 (.invokevirtual 178) (5, 7, 0, 0, T_Model_live) := call_V S_Model_live (by decide) (ci := 11) rfl (by decide +kernel) (by decide +kernel) (by decide +kernel) (by decide +kernel) (by decide +kernel) (by decide +kernel) T_Model_live_r
theorem co_X11_728 : CallOK RX11 (.invokevirtual 182) (3, 5, 0, 0, T_Model_sizeOf) := call_V S_Model_sizeOf (by decide) (ci := 11) rfl (by decide +kernel) (by decide +kernel) (by decide +kernel) (by decide +kernel) (by decide +kernel) (by decide +kernel) T_Model_sizeOf_r
def TF_Model_weigh (o : Nat) (p : Int) (sz sl : Nat) (lay : Nat → Nat × Int) (ρ : Nat → Int → Nat) (σ : Nat → Int → Int) (τ : Nat → Int → Int64) (k : Option AV → Mm → Prop) : Prop := LModel lay ρ o ∧ ∃ (U : Int → Int) (len : Int) (st : Nat → Int → Int), SW U len st ∧ MR σ o p U len st ∧ (∀ σ2 : Nat → Int → Int, QF σ σ2 o → (∀ x, 0 ≤ x ∧ x < st 0 7 → (σ2 (o + 18) x = 0 ∨ σ2 (o + 18) x = 1) ∧ (σ2 (o + 18) x = 1 ↔ lvP U st x)) → (∀ x, 0 ≤ x ∧ x < st 0 7 → lvP U st x → σ2 (o + 24) x = ktP U st x) → (∀ x, 0 ≤ x ∧ x < st 0 7 → lvP U st x → σ2 (o + 25) x = hgP U st x) → k none (sz, sl, lay, ρ, σ2, τ))
def T_Model_weigh : Tr := mkT 11 fun o as M k => pI as fun p as => as = [] ∧ TF_Model_weigh o p M.1 M.2.1 M.2.2.1 M.2.2.2.1 M.2.2.2.2.1 M.2.2.2.2.2 k
theorem T_Model_weigh_e {o : Nat} {p : Int} {sz sl : Nat} {lay : Nat → Nat × Int} {ρ : Nat → Int → Nat} {σ : Nat → Int → Int} {τ : Nat → Int → Int64} {k : Option AV → Mm → Prop} : T_Model_weigh [vR o, vI p] (sz, sl, lay, ρ, σ, τ) k = (lay o = (21, 0) ∧ TF_Model_weigh o p sz sl lay ρ σ τ k) := by simp [T_Model_weigh, mkT_e, pI_e, pR_e, pL_e]
theorem T_Model_weigh_r (as : List AV) (M : Mm) (k : Option AV → Mm → Prop) (h : T_Model_weigh as M k) : ∃ b As, as = vR b :: As ∧ M.2.2.1 b = (10 + 11, 0) := by
  obtain ⟨b, As, h1, h2, -⟩ := mkT_r h
  exact ⟨b, As, h1, h2⟩
def tb_Model_weigh : List (Nat × Option (List Nat) × Instr × List Nat) := [(0, none, .aload_n 0, []), (1, none, .iload_n 1, []), (2, none, .iconst (-1), []), (3, none, .aload_n 0, []), (4, none, .getfield 62, []), (7, none, .iconst 0, []), (8, none, .invokevirtual 178, []), (11, none, .iconst 0, []), (12, none, .istore_n 2, []), (13, some [0, 1, 2], .iload_n 2, []), (14, none, .aload_n 0, []), (15, none, .getfield 50, []), (18, none, .iload_n 1, []), (19, none, .iaload, []), (20, none, .if_icmp .ge 23, [43]), (23, none, .aload_n 0, []), (24, none, .getfield 81, []), (27, none, .iload_n 2, []), (28, none, .iconst 0, []), (29, none, .iastore, []), (30, none, .aload_n 0, []), (31, none, .getfield 84, []), (34, none, .iload_n 2, []), (35, none, .iconst 0, []), (36, none, .iastore, []), (37, none, .iinc 2 1, []), (40, none, .goto (-27), [13]), (43, none, .iconst 0, []), (44, none, .istore_n 2, []), (45, some [0, 1, 2], .iload_n 2, []), (46, none, .aload_n 0, []), (47, none, .getfield 50, []), (50, none, .iload_n 1, []), (51, none, .iaload, []), (52, none, .if_icmp .ge 93, [145]), (55, none, .aload_n 0, []), (56, none, .getfield 62, []), (59, none, .iload_n 2, []), (60, none, .baload, []), (61, none, .ifCond .ne 6, [67]), (64, none, .goto 75, [139]), (67, none, .aload_n 0, []), (68, none, .iload_n 1, []), (69, none, .iload_n 2, []), (70, none, .aload_n 0, []), (71, none, .getfield 66, []), (74, none, .iconst 0, []), (75, none, .invokevirtual 178, []), (78, none, .iconst 0, []), (79, none, .istore_n 3, []), (80, some [0, 1, 2, 3], .iload_n 3, []), (81, none, .aload_n 0, []), (82, none, .getfield 50, []), (85, none, .iload_n 1, []), (86, none, .iaload, []), (87, none, .if_icmp .ge 52, [139]), (90, none, .aload_n 0, []), (91, none, .getfield 62, []), (94, none, .iload_n 3, []), (95, none, .baload, []), (96, none, .ifCond .eq 37, [133]), (99, none, .aload_n 0, []), (100, none, .getfield 66, []), (103, none, .iload_n 3, []), (104, none, .baload, []), (105, none, .ifCond .ne 28, [133]), (108, none, .aload_n 0, []), (109, none, .getfield 81, []), (112, none, .iload_n 2, []), (113, none, .dup2, []), (114, none, .iaload, []), (115, none, .aload_n 0, []), (116, none, .iload_n 1, []), (117, none, .iload_n 3, []), (118, none, .invokevirtual 182, []), (121, none, .iadd, []), (122, none, .iastore, []), (123, none, .aload_n 0, []), (124, none, .getfield 84, []), (127, none, .iload_n 3, []), (128, none, .dup2, []), (129, none, .iaload, []), (130, none, .iconst 1, []), (131, none, .iadd, []), (132, none, .iastore, []), (133, none, .iinc 3 1, []), (136, none, .goto (-56), [80]), (139, none, .iinc 2 1, []), (142, none, .goto (-97), [45]), (145, none, .return_, [])]
def P_Model_weigh : Nat → Option (List Nat) × Instr × List Nat := plk tb_Model_weigh
theorem r_Model_weigh_0 : P_Model_weigh 0 = (none, .aload_n 0, []) := by decide +kernel
theorem r_Model_weigh_1 : P_Model_weigh 1 = (none, .iload_n 1, []) := by decide +kernel
theorem r_Model_weigh_2 : P_Model_weigh 2 = (none, .iconst (-1), []) := by decide +kernel
theorem r_Model_weigh_3 : P_Model_weigh 3 = (none, .aload_n 0, []) := by decide +kernel
theorem r_Model_weigh_4 : P_Model_weigh 4 = (none, .getfield 62, []) := by decide +kernel
theorem r_Model_weigh_7 : P_Model_weigh 7 = (none, .iconst 0, []) := by decide +kernel
theorem r_Model_weigh_8 : P_Model_weigh 8 = (none, .invokevirtual 178, []) := by decide +kernel
theorem r_Model_weigh_11 : P_Model_weigh 11 = (none, .iconst 0, []) := by decide +kernel
theorem r_Model_weigh_12 : P_Model_weigh 12 = (none, .istore_n 2, []) := by decide +kernel
theorem r_Model_weigh_13 : P_Model_weigh 13 = (some [0, 1, 2], .iload_n 2, []) := by decide +kernel
theorem r_Model_weigh_14 : P_Model_weigh 14 = (none, .aload_n 0, []) := by decide +kernel
theorem r_Model_weigh_15 : P_Model_weigh 15 = (none, .getfield 50, []) := by decide +kernel
theorem r_Model_weigh_18 : P_Model_weigh 18 = (none, .iload_n 1, []) := by decide +kernel
theorem r_Model_weigh_19 : P_Model_weigh 19 = (none, .iaload, []) := by decide +kernel
theorem r_Model_weigh_20 : P_Model_weigh 20 = (none, .if_icmp .ge 23, [43]) := by decide +kernel
theorem r_Model_weigh_23 : P_Model_weigh 23 = (none, .aload_n 0, []) := by decide +kernel
theorem r_Model_weigh_24 : P_Model_weigh 24 = (none, .getfield 81, []) := by decide +kernel
theorem r_Model_weigh_27 : P_Model_weigh 27 = (none, .iload_n 2, []) := by decide +kernel
theorem r_Model_weigh_28 : P_Model_weigh 28 = (none, .iconst 0, []) := by decide +kernel
theorem r_Model_weigh_29 : P_Model_weigh 29 = (none, .iastore, []) := by decide +kernel
theorem r_Model_weigh_30 : P_Model_weigh 30 = (none, .aload_n 0, []) := by decide +kernel
theorem r_Model_weigh_31 : P_Model_weigh 31 = (none, .getfield 84, []) := by decide +kernel
theorem r_Model_weigh_34 : P_Model_weigh 34 = (none, .iload_n 2, []) := by decide +kernel
theorem r_Model_weigh_35 : P_Model_weigh 35 = (none, .iconst 0, []) := by decide +kernel
theorem r_Model_weigh_36 : P_Model_weigh 36 = (none, .iastore, []) := by decide +kernel
theorem r_Model_weigh_37 : P_Model_weigh 37 = (none, .iinc 2 1, []) := by decide +kernel
theorem r_Model_weigh_40 : P_Model_weigh 40 = (none, .goto (-27), [13]) := by decide +kernel
theorem r_Model_weigh_43 : P_Model_weigh 43 = (none, .iconst 0, []) := by decide +kernel
theorem r_Model_weigh_44 : P_Model_weigh 44 = (none, .istore_n 2, []) := by decide +kernel
theorem r_Model_weigh_45 : P_Model_weigh 45 = (some [0, 1, 2], .iload_n 2, []) := by decide +kernel
theorem r_Model_weigh_46 : P_Model_weigh 46 = (none, .aload_n 0, []) := by decide +kernel
theorem r_Model_weigh_47 : P_Model_weigh 47 = (none, .getfield 50, []) := by decide +kernel
theorem r_Model_weigh_50 : P_Model_weigh 50 = (none, .iload_n 1, []) := by decide +kernel
theorem r_Model_weigh_51 : P_Model_weigh 51 = (none, .iaload, []) := by decide +kernel
theorem r_Model_weigh_52 : P_Model_weigh 52 = (none, .if_icmp .ge 93, [145]) := by decide +kernel
theorem r_Model_weigh_55 : P_Model_weigh 55 = (none, .aload_n 0, []) := by decide +kernel
theorem r_Model_weigh_56 : P_Model_weigh 56 = (none, .getfield 62, []) := by decide +kernel
theorem r_Model_weigh_59 : P_Model_weigh 59 = (none, .iload_n 2, []) := by decide +kernel
theorem r_Model_weigh_60 : P_Model_weigh 60 = (none, .baload, []) := by decide +kernel
theorem r_Model_weigh_61 : P_Model_weigh 61 = (none, .ifCond .ne 6, [67]) := by decide +kernel
theorem r_Model_weigh_64 : P_Model_weigh 64 = (none, .goto 75, [139]) := by decide +kernel
theorem r_Model_weigh_67 : P_Model_weigh 67 = (none, .aload_n 0, []) := by decide +kernel
theorem r_Model_weigh_68 : P_Model_weigh 68 = (none, .iload_n 1, []) := by decide +kernel
theorem r_Model_weigh_69 : P_Model_weigh 69 = (none, .iload_n 2, []) := by decide +kernel
theorem r_Model_weigh_70 : P_Model_weigh 70 = (none, .aload_n 0, []) := by decide +kernel
theorem r_Model_weigh_71 : P_Model_weigh 71 = (none, .getfield 66, []) := by decide +kernel
theorem r_Model_weigh_74 : P_Model_weigh 74 = (none, .iconst 0, []) := by decide +kernel
theorem r_Model_weigh_75 : P_Model_weigh 75 = (none, .invokevirtual 178, []) := by decide +kernel
theorem r_Model_weigh_78 : P_Model_weigh 78 = (none, .iconst 0, []) := by decide +kernel
theorem r_Model_weigh_79 : P_Model_weigh 79 = (none, .istore_n 3, []) := by decide +kernel
theorem r_Model_weigh_80 : P_Model_weigh 80 = (some [0, 1, 2, 3], .iload_n 3, []) := by decide +kernel
theorem r_Model_weigh_81 : P_Model_weigh 81 = (none, .aload_n 0, []) := by decide +kernel
theorem r_Model_weigh_82 : P_Model_weigh 82 = (none, .getfield 50, []) := by decide +kernel
theorem r_Model_weigh_85 : P_Model_weigh 85 = (none, .iload_n 1, []) := by decide +kernel
theorem r_Model_weigh_86 : P_Model_weigh 86 = (none, .iaload, []) := by decide +kernel
theorem r_Model_weigh_87 : P_Model_weigh 87 = (none, .if_icmp .ge 52, [139]) := by decide +kernel
theorem r_Model_weigh_90 : P_Model_weigh 90 = (none, .aload_n 0, []) := by decide +kernel
theorem r_Model_weigh_91 : P_Model_weigh 91 = (none, .getfield 62, []) := by decide +kernel
theorem r_Model_weigh_94 : P_Model_weigh 94 = (none, .iload_n 3, []) := by decide +kernel
theorem r_Model_weigh_95 : P_Model_weigh 95 = (none, .baload, []) := by decide +kernel
theorem r_Model_weigh_96 : P_Model_weigh 96 = (none, .ifCond .eq 37, [133]) := by decide +kernel
theorem r_Model_weigh_99 : P_Model_weigh 99 = (none, .aload_n 0, []) := by decide +kernel
theorem r_Model_weigh_100 : P_Model_weigh 100 = (none, .getfield 66, []) := by decide +kernel
theorem r_Model_weigh_103 : P_Model_weigh 103 = (none, .iload_n 3, []) := by decide +kernel
theorem r_Model_weigh_104 : P_Model_weigh 104 = (none, .baload, []) := by decide +kernel
theorem r_Model_weigh_105 : P_Model_weigh 105 = (none, .ifCond .ne 28, [133]) := by decide +kernel
theorem r_Model_weigh_108 : P_Model_weigh 108 = (none, .aload_n 0, []) := by decide +kernel
theorem r_Model_weigh_109 : P_Model_weigh 109 = (none, .getfield 81, []) := by decide +kernel
theorem r_Model_weigh_112 : P_Model_weigh 112 = (none, .iload_n 2, []) := by decide +kernel
theorem r_Model_weigh_113 : P_Model_weigh 113 = (none, .dup2, []) := by decide +kernel
theorem r_Model_weigh_114 : P_Model_weigh 114 = (none, .iaload, []) := by decide +kernel
theorem r_Model_weigh_115 : P_Model_weigh 115 = (none, .aload_n 0, []) := by decide +kernel
theorem r_Model_weigh_116 : P_Model_weigh 116 = (none, .iload_n 1, []) := by decide +kernel
theorem r_Model_weigh_117 : P_Model_weigh 117 = (none, .iload_n 3, []) := by decide +kernel
theorem r_Model_weigh_118 : P_Model_weigh 118 = (none, .invokevirtual 182, []) := by decide +kernel
theorem r_Model_weigh_121 : P_Model_weigh 121 = (none, .iadd, []) := by decide +kernel
theorem r_Model_weigh_122 : P_Model_weigh 122 = (none, .iastore, []) := by decide +kernel
theorem r_Model_weigh_123 : P_Model_weigh 123 = (none, .aload_n 0, []) := by decide +kernel
theorem r_Model_weigh_124 : P_Model_weigh 124 = (none, .getfield 84, []) := by decide +kernel
theorem r_Model_weigh_127 : P_Model_weigh 127 = (none, .iload_n 3, []) := by decide +kernel
theorem r_Model_weigh_128 : P_Model_weigh 128 = (none, .dup2, []) := by decide +kernel
theorem r_Model_weigh_129 : P_Model_weigh 129 = (none, .iaload, []) := by decide +kernel
theorem r_Model_weigh_130 : P_Model_weigh 130 = (none, .iconst 1, []) := by decide +kernel
theorem r_Model_weigh_131 : P_Model_weigh 131 = (none, .iadd, []) := by decide +kernel
theorem r_Model_weigh_132 : P_Model_weigh 132 = (none, .iastore, []) := by decide +kernel
theorem r_Model_weigh_133 : P_Model_weigh 133 = (none, .iinc 3 1, []) := by decide +kernel
theorem r_Model_weigh_136 : P_Model_weigh 136 = (none, .goto (-56), [80]) := by decide +kernel
theorem r_Model_weigh_139 : P_Model_weigh 139 = (none, .iinc 2 1, []) := by decide +kernel
theorem r_Model_weigh_142 : P_Model_weigh 142 = (none, .goto (-97), [45]) := by decide +kernel
theorem r_Model_weigh_145 : P_Model_weigh 145 = (none, .return_, []) := by decide +kernel
def E_Model_weigh : List (Nat × Ent) := [(712, (5, 7, 0, 0, T_Model_live)), (728, (3, 5, 0, 0, T_Model_sizeOf))]
def X_Model_weigh : Cx := (llk (0, 0, 9) ftX11, llk 99 ntX11, llk none kcX11, llk none klX11, llk dEnt E_Model_weigh, 8, 3, false)
theorem xok_Model_weigh : Xok RX11 X_Model_weigh := xok_of ftX11_ok ntX11_ok kcX11_ok klX11_ok (E := E_Model_weigh) (List.forall_mem_cons.mpr ⟨co_X11_712, List.forall_mem_cons.mpr ⟨co_X11_728, fun _ h => absurd h List.not_mem_nil⟩⟩)
theorem xf_Model_weigh_50 : xfl X_Model_weigh 50 = (11, 14, 1) := by decide +kernel
theorem xf_Model_weigh_62 : xfl X_Model_weigh 62 = (11, 18, 1) := by decide +kernel
theorem xf_Model_weigh_66 : xfl X_Model_weigh 66 = (11, 19, 1) := by decide +kernel
theorem xf_Model_weigh_81 : xfl X_Model_weigh 81 = (11, 25, 1) := by decide +kernel
theorem xf_Model_weigh_84 : xfl X_Model_weigh 84 = (11, 26, 1) := by decide +kernel
theorem xe_Model_weigh_712 : xE X_Model_weigh (4 * 178 + 0) = (5, 7, 0, 0, T_Model_live) := rfl
theorem xe_Model_weigh_728 : xE X_Model_weigh (4 * 182 + 0) = (3, 5, 0, 0, T_Model_sizeOf) := rfl
theorem xd_Model_weigh : xd X_Model_weigh = 8 := rfl
theorem xrb_Model_weigh : xrb X_Model_weigh = 3 := rfl
theorem xin_Model_weigh : xin X_Model_weigh = false := rfl
set_option maxHeartbeats 4000000 in
set_option maxRecDepth 100000 in
theorem S_Model_weigh : Snd yX11_weigh cX11_weigh 4 none T_Model_weigh 8 0 0 := by
  refine snd_of (X := X_Model_weigh) (P := P_Model_weigh) (tb := tb_Model_weigh) (own := RX11) (by decide) rfl rfl (by decide +kernel) xok_Model_weigh rfl rk3 (fun h => by first | rfl | cases h) ?_
  intro as M k has hM hT0
  obtain ⟨sz, sl, lay, ρ, σ, τ⟩ := M
  obtain ⟨o, as1, e, hlo, hT1⟩ := mkT_r hT0
  clear hT0
  subst e
  obtain ⟨p, as2, e, hT2⟩ := pI_x hT1
  clear hT1
  subst e
  obtain ⟨e, hT⟩ := hT2
  subst e
  replace hlo : lay o = (21, 0) := hlo
  have r_p : -2147483648 ≤ p ∧ p ≤ 2147483647 := has (vI p) (by simp)
  clear has
  replace hM : ∀ a i, -2147483648 ≤ σ a i ∧ σ a i ≤ 2147483647 := hM
  replace hT : TF_Model_weigh o p sz sl lay ρ σ τ k := hT
  unfold TF_Model_weigh at hT
  obtain ⟨hL, U, len, st, hS, hR, hT⟩ := hT
  obtain ⟨hB, hl3, ⟨m4, m5, m6⟩, ⟨m7, m8, m9⟩, m12, ⟨m14, m13⟩, m15, ⟨m17, m16⟩, m26⟩ := (show MR σ o p U len st from hR)
  obtain ⟨b1, b2, b3, b4, b5, b6, b7⟩ := (show MB σ o p U len (st 1) from hB)
  obtain ⟨w0, w1, w2, w3, w4, w5, w6, w7, w8, w9, w10, w11, w12, w13, w14⟩ := (show SW U len st from hS)
  obtain ⟨J, hJd⟩ : ∃ J : Nat → List AV → Mm → Prop, J = (fun c vs M1 => (c = 13 ∧ ∃ (i : Int) (σ1 : Nat → Int → Int), QF σ σ1 o ∧ (∀ x, 0 ≤ x ∧ x < st 0 7 → (σ1 (o + 18) x = 0 ∨ σ1 (o + 18) x = 1) ∧ (σ1 (o + 18) x = 1 ↔ lvP U st x)) ∧ (0 ≤ i ∧ i ≤ st 0 7) ∧ (∀ x : Int, 0 ≤ x ∧ x < i → σ1 (o + 24) x = 0 ∧ σ1 (o + 25) x = 0) ∧ vs = [vR o, vI p, vI i] ∧ M1 = (sz, sl, lay, ρ, σ1, τ)) ∨ (c = 45 ∧ ∃ (i : Nat) (σ1 : Nat → Int → Int), QF σ σ1 o ∧ (∀ x, 0 ≤ x ∧ x < st 0 7 → (σ1 (o + 18) x = 0 ∨ σ1 (o + 18) x = 1) ∧ (σ1 (o + 18) x = 1 ↔ lvP U st x)) ∧ (i : Int) ≤ st 0 7 ∧ (∀ x : Int, 0 ≤ x ∧ x < i → lvP U st x → σ1 (o + 24) x = ktP U st x) ∧ (∀ x : Int, (i : Int) ≤ x ∧ x < st 0 7 → σ1 (o + 24) x = 0) ∧ (∀ x : Int, 0 ≤ x ∧ x < st 0 7 → σ1 (o + 25) x = cntP (fun z => lvP U st z ∧ (lvP U st x ∧ dmP U st z x)) i) ∧ vs = [vR o, vI p, vI (i : Int)] ∧ M1 = (sz, sl, lay, ρ, σ1, τ)) ∨ (c = 80 ∧ ∃ (i j : Nat) (σ1 : Nat → Int → Int), QF σ σ1 o ∧ (∀ x, 0 ≤ x ∧ x < st 0 7 → (σ1 (o + 18) x = 0 ∨ σ1 (o + 18) x = 1) ∧ (σ1 (o + 18) x = 1 ↔ lvP U st x)) ∧ ((i : Int) < st 0 7 ∧ (j : Int) ≤ st 0 7) ∧ lvP U st i ∧ (∀ x, 0 ≤ x ∧ x < st 0 7 → (σ1 (o + 19) x = 0 ∨ σ1 (o + 19) x = 1) ∧ (σ1 (o + 19) x = 1 ↔ ¬ dmP U st i x)) ∧ (∀ x : Int, 0 ≤ x ∧ x < i → lvP U st x → σ1 (o + 24) x = ktP U st x) ∧ (∀ x : Int, (i : Int) + 1 ≤ x ∧ x < st 0 7 → σ1 (o + 24) x = 0) ∧ σ1 (o + 24) i = sumP (fun z => lvP U st z ∧ dmP U st i z) (szP U st) j ∧ (∀ x : Int, 0 ≤ x ∧ x < st 0 7 → σ1 (o + 25) x = cntP (fun z => lvP U st z ∧ (lvP U st x ∧ dmP U st z x)) (if x < j then i + 1 else i)) ∧ vs = [vR o, vI p, vI (i : Int), vI (j : Int)] ∧ M1 = (sz, sl, lay, ρ, σ1, τ))) := ⟨_, rfl⟩
  obtain ⟨μ, hμ⟩ : ∃ μ : Nat → List AV → Mm → Nat, μ = (fun c vs _ => if c = 13 then (5000000 - gI (vs.getD 2 vN)).toNat else if c = 45 then (1000 * (1000 - gI (vs.getD 2 vN))).toNat else (1000 * (1000 - gI (vs.getD 2 vN)) - 1 - gI (vs.getD 3 vN)).toNat) := ⟨_, rfl⟩
  refine ⟨Nat.le_of_ble_eq_true rfl, J, μ, 98, ?_, ?_⟩
  · obtain ⟨mh, mp0, mp2, mp3, mp4, mp5, mp6, mp7, mp8, mp9, mp10, mp11, mp12, mp13, mp14, mp15, mp16, mp17, mp18, mp19, mp20, mp21, mp22, mp24, mp25, mp26, mp27, mq0, mq2, mq3, mq4, mq5, mq6, mq7, mq8, mq9, mq10, mq11, mq12, mq13, mq14, mq15, mq16, mq17, mq18, mq19, mq20, mq21, mq22, mq24, mq25, mq26, mq27⟩ := (show LModel lay ρ _ from hL)
    unfold wps
    simp only [si_iload_n0, si_iload_n1, si_iload_n2, si_iload_n3, si_iload, si_lload_n0, si_lload_n1, si_lload_n2, si_lload_n3, si_lload, si_aload_n0, si_aload_n1, si_aload_n2, si_aload_n3, si_aload, si_istore_n0, si_istore_n1, si_istore_n2, si_istore_n3, si_istore, si_astore_n0, si_astore_n1, si_astore_n2, si_astore_n3, si_astore, si_lstore_n0, si_lstore_n1, si_lstore_n2, si_lstore_n3, si_lstore, si_iconst, si_bipush, si_sipush, si_ldc, si_ldc2_w, si_lconst0, si_lconst1, si_aconst_null, si_iinc, si_dup, si_dup2, si_iadd, si_isub, si_imul, si_idiv, si_irem, si_iand, si_ior, si_ishl, si_ishr, si_ladd, si_lmul, si_lor, si_lxor, si_lshl, si_lushr, si_lcmp, si_i2b, si_i2l, si_l2i, si_icmp_eq, si_icmp_ne, si_icmp_lt, si_icmp_ge, si_icmp_gt, si_icmp_le, si_if_eq, si_if_ne, si_if_lt, si_if_ge, si_if_gt, si_if_le, si_ifnull, si_ifnonnull, si_goto, si_tableswitch, si_lookupswitch, si_getfield, si_putfield, si_getstatic, si_iaload, si_baload, si_laload, si_aaload, si_iastore, si_bastore, si_lastore, si_aastore, si_arraylength, si_new, si_newarray, si_anewarray, si_invokevirtual, si_invokespecial, si_invokestatic, si_ireturn, si_lreturn, si_areturn, si_return_, pI_e, pL_e, pR_e, pA_r, pA_n, pN_n, pN_r, oI_e, oL_e, oA_r, oA_n, lget_e, lrm1_0, lrm2_0, lrm1_i, lrm1_r, lrm1_n, lrm1_l, lrm2_i, lrm2_r, lrm2_n, lrm2_l, popN_0, popN_s, acat_i, acat_l, acat_r, acat_n, stw_0, stw_s, psh_s, psh_n, wgf_r, wgf_i, wgf_b, wgf_n, wgf_m, wpf_i, wpf_r, wpf_b, wnew_e, callE_e, rbk_0, rbk_1, tsw_0, tsw_s, lsw_0, lsw_s, wp_s, wq_t, wq_f, oV_e, pick_0, pick_s, oZ_e, oY_e, r_Model_weigh_0, r_Model_weigh_1, r_Model_weigh_2, r_Model_weigh_3, r_Model_weigh_4, r_Model_weigh_7, r_Model_weigh_8, r_Model_weigh_11, r_Model_weigh_12, r_Model_weigh_13, r_Model_weigh_14, r_Model_weigh_15, r_Model_weigh_18, r_Model_weigh_19, r_Model_weigh_20, r_Model_weigh_23, r_Model_weigh_24, r_Model_weigh_27, r_Model_weigh_28, r_Model_weigh_29, r_Model_weigh_30, r_Model_weigh_31, r_Model_weigh_34, r_Model_weigh_35, r_Model_weigh_36, r_Model_weigh_37, r_Model_weigh_40, r_Model_weigh_43, r_Model_weigh_44, r_Model_weigh_45, r_Model_weigh_46, r_Model_weigh_47, r_Model_weigh_50, r_Model_weigh_51, r_Model_weigh_52, r_Model_weigh_55, r_Model_weigh_56, r_Model_weigh_59, r_Model_weigh_60, r_Model_weigh_61, r_Model_weigh_64, r_Model_weigh_67, r_Model_weigh_68, r_Model_weigh_69, r_Model_weigh_70, r_Model_weigh_71, r_Model_weigh_74, r_Model_weigh_75, r_Model_weigh_78, r_Model_weigh_79, r_Model_weigh_80, r_Model_weigh_81, r_Model_weigh_82, r_Model_weigh_85, r_Model_weigh_86, r_Model_weigh_87, r_Model_weigh_90, r_Model_weigh_91, r_Model_weigh_94, r_Model_weigh_95, r_Model_weigh_96, r_Model_weigh_99, r_Model_weigh_100, r_Model_weigh_103, r_Model_weigh_104, r_Model_weigh_105, r_Model_weigh_108, r_Model_weigh_109, r_Model_weigh_112, r_Model_weigh_113, r_Model_weigh_114, r_Model_weigh_115, r_Model_weigh_116, r_Model_weigh_117, r_Model_weigh_118, r_Model_weigh_121, r_Model_weigh_122, r_Model_weigh_123, r_Model_weigh_124, r_Model_weigh_127, r_Model_weigh_128, r_Model_weigh_129, r_Model_weigh_130, r_Model_weigh_131, r_Model_weigh_132, r_Model_weigh_133, r_Model_weigh_136, r_Model_weigh_139, r_Model_weigh_142, r_Model_weigh_145, xf_Model_weigh_50, xf_Model_weigh_62, xf_Model_weigh_66, xf_Model_weigh_81, xf_Model_weigh_84, xe_Model_weigh_712, xe_Model_weigh_728, xd_Model_weigh, xrb_Model_weigh, xin_Model_weigh, T_Model_live_e, TF_Model_live, T_Model_sizeOf_e, TF_Model_sizeOf, mh, mp0, mp2, mp3, mp4, mp5, mp6, mp7, mp8, mp9, mp10, mp11, mp12, mp13, mp14, mp15, mp16, mp17, mp18, mp19, mp20, mp21, mp22, mp24, mp25, mp26, mp27, mq0, mq2, mq3, mq4, mq5, mq6, mq7, mq8, mq9, mq10, mq11, mq12, mq13, mq14, mq15, mq16, mq17, mq18, mq19, mq20, mq21, mq22, mq24, mq25, mq26, mq27, Nat.reduceAdd, Nat.reduceMul, Nat.reduceEqDiff, reduceIte, Int.reduceNeg, Int.reduceLE, Int.reduceLT, Int.reduceAdd, Int.reduceSub, Int.reduceToNat, true_and, and_true, inR_e, Nat.reduceLT, Nat.reduceLeDiff, reduceCtorEq, Nat.add_zero, Nat.zero_add, or_false, false_or, or_true, true_or, not_true_eq_false, not_false_eq_true, Classical.not_not, Nat.add_eq_zero_iff, and_false, false_and, Int.reduceEq, List.mem_cons, List.not_mem_nil, forall_eq_or_imp, forall_eq, false_implies, implies_true, forall_const, aargs_0, aargs_i, aargs_r, aargs_l, aargs_n, nfT_e, eq_self, and_self, Nat.le_refl, fu_s, fu_fu, iu_iu, iu_s, fu_am, fu_a0, fu_0a, iu_l, Nat.reduceBEq, Int.reduceBEq, T_objInit_e]
    clear mp0 mp2 mp3 mp4 mp5 mp6 mp7 mp8 mp9 mp10 mp11 mp12 mp13 mp14 mp15 mp16 mp17 mp18 mp19 mp20 mp21 mp22 mp24 mp25 mp26 mp27
    refine ⟨hL, U, len, st, hS, hR, fun σ2 f1 f2 => ?_⟩
    rw [hJd]
    exact Or.inl ⟨rfl, 0, σ2, f1.qf (Or.inl rfl), f2, by omega, fun x hx => by omega, rfl, rfl⟩
  · intro cp vs M1 hvs hM1 hlen hJ
    rw [hJd] at hJ
    clear hB hl3 m4 m5 m6 m7 m8 m9 m12 m14 m13 m15 m17 m16 m26 b1 b2 b3 b4 b5 b6 b7
    rcases hJ with ⟨rfl, i, σ1, g1, g2, g3, g4, rfl, rfl⟩ | ⟨rfl, i, σ1, g1, g2, g3, g4, g5, g6, rfl, rfl⟩ | ⟨rfl, i, j, σ1, g1, g2, g3, g4, g5, g6, g7, g8, g9, rfl, rfl⟩
    · have hR1 := (g1.mr hR)
      obtain ⟨hB, hl3, ⟨m4, m5, m6⟩, ⟨m7, m8, m9⟩, m12, ⟨m14, m13⟩, m15, ⟨m17, m16⟩, m26⟩ := (show MR σ1 o p U len st from hR1)
      obtain ⟨b1, b2, b3, b4, b5, b6, b7⟩ := (show MB σ1 o p U len (st 1) from hB)
      (obtain ⟨mh, mp0, mp2, mp3, mp4, mp5, mp6, mp7, mp8, mp9, mp10, mp11, mp12, mp13, mp14, mp15, mp16, mp17, mp18, mp19, mp20, mp21, mp22, mp24, mp25, mp26, mp27, mq0, mq2, mq3, mq4, mq5, mq6, mq7, mq8, mq9, mq10, mq11, mq12, mq13, mq14, mq15, mq16, mq17, mq18, mq19, mq20, mq21, mq22, mq24, mq25, mq26, mq27⟩ := (show LModel lay ρ _ from hL); unfold wps; simp only [Option.getD_some, List.zip_cons_cons, List.zip_nil_left, List.zip_nil_right, List.zip_nil_right, MB_fu, MR_fu, si_iload_n0, si_iload_n1, si_iload_n2, si_iload_n3, si_iload, si_lload_n0, si_lload_n1, si_lload_n2, si_lload_n3, si_lload, si_aload_n0, si_aload_n1, si_aload_n2, si_aload_n3, si_aload, si_istore_n0, si_istore_n1, si_istore_n2, si_istore_n3, si_istore, si_astore_n0, si_astore_n1, si_astore_n2, si_astore_n3, si_astore, si_lstore_n0, si_lstore_n1, si_lstore_n2, si_lstore_n3, si_lstore, si_iconst, si_bipush, si_sipush, si_ldc, si_ldc2_w, si_lconst0, si_lconst1, si_aconst_null, si_iinc, si_dup, si_dup2, si_iadd, si_isub, si_imul, si_idiv, si_irem, si_iand, si_ior, si_ishl, si_ishr, si_ladd, si_lmul, si_lor, si_lxor, si_lshl, si_lushr, si_lcmp, si_i2b, si_i2l, si_l2i, si_icmp_eq, si_icmp_ne, si_icmp_lt, si_icmp_ge, si_icmp_gt, si_icmp_le, si_if_eq, si_if_ne, si_if_lt, si_if_ge, si_if_gt, si_if_le, si_ifnull, si_ifnonnull, si_goto, si_tableswitch, si_lookupswitch, si_getfield, si_putfield, si_getstatic, si_iaload, si_baload, si_laload, si_aaload, si_iastore, si_bastore, si_lastore, si_aastore, si_arraylength, si_new, si_newarray, si_anewarray, si_invokevirtual, si_invokespecial, si_invokestatic, si_ireturn, si_lreturn, si_areturn, si_return_, pI_e, pL_e, pR_e, pA_r, pA_n, pN_n, pN_r, oI_e, oL_e, oA_r, oA_n, lget_e, lrm1_0, lrm2_0, lrm1_i, lrm1_r, lrm1_n, lrm1_l, lrm2_i, lrm2_r, lrm2_n, lrm2_l, popN_0, popN_s, acat_i, acat_l, acat_r, acat_n, stw_0, stw_s, psh_s, psh_n, wgf_r, wgf_i, wgf_b, wgf_n, wgf_m, wpf_i, wpf_r, wpf_b, wnew_e, callE_e, rbk_0, rbk_1, tsw_0, tsw_s, lsw_0, lsw_s, wp_s, wq_t, wq_f, oV_e, pick_0, pick_s, oZ_e, oY_e, r_Model_weigh_0, r_Model_weigh_1, r_Model_weigh_2, r_Model_weigh_3, r_Model_weigh_4, r_Model_weigh_7, r_Model_weigh_8, r_Model_weigh_11, r_Model_weigh_12, r_Model_weigh_13, r_Model_weigh_14, r_Model_weigh_15, r_Model_weigh_18, r_Model_weigh_19, r_Model_weigh_20, r_Model_weigh_23, r_Model_weigh_24, r_Model_weigh_27, r_Model_weigh_28, r_Model_weigh_29, r_Model_weigh_30, r_Model_weigh_31, r_Model_weigh_34, r_Model_weigh_35, r_Model_weigh_36, r_Model_weigh_37, r_Model_weigh_40, r_Model_weigh_43, r_Model_weigh_44, r_Model_weigh_45, r_Model_weigh_46, r_Model_weigh_47, r_Model_weigh_50, r_Model_weigh_51, r_Model_weigh_52, r_Model_weigh_55, r_Model_weigh_56, r_Model_weigh_59, r_Model_weigh_60, r_Model_weigh_61, r_Model_weigh_64, r_Model_weigh_67, r_Model_weigh_68, r_Model_weigh_69, r_Model_weigh_70, r_Model_weigh_71, r_Model_weigh_74, r_Model_weigh_75, r_Model_weigh_78, r_Model_weigh_79, r_Model_weigh_80, r_Model_weigh_81, r_Model_weigh_82, r_Model_weigh_85, r_Model_weigh_86, r_Model_weigh_87, r_Model_weigh_90, r_Model_weigh_91, r_Model_weigh_94, r_Model_weigh_95, r_Model_weigh_96, r_Model_weigh_99, r_Model_weigh_100, r_Model_weigh_103, r_Model_weigh_104, r_Model_weigh_105, r_Model_weigh_108, r_Model_weigh_109, r_Model_weigh_112, r_Model_weigh_113, r_Model_weigh_114, r_Model_weigh_115, r_Model_weigh_116, r_Model_weigh_117, r_Model_weigh_118, r_Model_weigh_121, r_Model_weigh_122, r_Model_weigh_123, r_Model_weigh_124, r_Model_weigh_127, r_Model_weigh_128, r_Model_weigh_129, r_Model_weigh_130, r_Model_weigh_131, r_Model_weigh_132, r_Model_weigh_133, r_Model_weigh_136, r_Model_weigh_139, r_Model_weigh_142, r_Model_weigh_145, xf_Model_weigh_50, xf_Model_weigh_62, xf_Model_weigh_66, xf_Model_weigh_81, xf_Model_weigh_84, xe_Model_weigh_712, xe_Model_weigh_728, xd_Model_weigh, xrb_Model_weigh, xin_Model_weigh, T_Model_live_e, TF_Model_live, T_Model_sizeOf_e, TF_Model_sizeOf, mh, mp0, mp2, mp3, mp4, mp5, mp6, mp7, mp8, mp9, mp10, mp11, mp12, mp13, mp14, mp15, mp16, mp17, mp18, mp19, mp20, mp21, mp22, mp24, mp25, mp26, mp27, mq0, mq2, mq3, mq4, mq5, mq6, mq7, mq8, mq9, mq10, mq11, mq12, mq13, mq14, mq15, mq16, mq17, mq18, mq19, mq20, mq21, mq22, mq24, mq25, mq26, mq27, Nat.reduceAdd, Nat.reduceMul, Nat.reduceEqDiff, reduceIte, Int.reduceNeg, Int.reduceLE, Int.reduceLT, Int.reduceAdd, Int.reduceSub, Int.reduceToNat, true_and, and_true, inR_e, Nat.reduceLT, Nat.reduceLeDiff, reduceCtorEq, Nat.add_zero, Nat.zero_add, or_false, false_or, or_true, true_or, not_true_eq_false, not_false_eq_true, Classical.not_not, Nat.add_eq_zero_iff, and_false, false_and, Int.reduceEq, List.mem_cons, List.not_mem_nil, forall_eq_or_imp, forall_eq, false_implies, implies_true, forall_const, aargs_0, aargs_i, aargs_r, aargs_l, aargs_n, nfT_e, eq_self, and_self, Nat.le_refl, fu_s, fu_fu, iu_iu, iu_s, fu_am, fu_a0, fu_0a, iu_l, Nat.reduceBEq, Int.reduceBEq, T_objInit_e]; clear mp0 mp2 mp3 mp4 mp5 mp6 mp7 mp8 mp9 mp10 mp11 mp12 mp13 mp14 mp15 mp16 mp17 mp18 mp19 mp20 mp21 mp22 mp24 mp25 mp26 mp27)
      rw [m14]
      refine ⟨by omega, by omega, fun z => ⟨?_, (by rw [hμ]; simp only [gI_e, List.getD_cons_succ, List.getD_cons_zero, Nat.reduceEqDiff, reduceIte]; omega)⟩, fun z => ⟨by omega, by omega, by omega, by omega, by omega, ?_, (by rw [hμ]; simp only [gI_e, List.getD_cons_succ, List.getD_cons_zero, Nat.reduceEqDiff, reduceIte]; omega)⟩⟩
      · rw [hJd]
        refine Or.inr (Or.inl ⟨rfl, 0, σ1, g1, g2, by omega, fun x hx => by omega, fun x hx => (g4 x (by omega)).1, fun x hx => by rw [(g4 x (by omega)).2]; rfl, rfl, rfl⟩)
      · rw [hJd]
        refine Or.inl ⟨rfl, i + 1, _, (g1.up (by omega)).up (by omega), ?_, by omega, fun x hx => ?_, rfl, rfl⟩
        · simp only [fu_am, Nat.reduceBEq]; exact g2
        · simp only [fu_am, fu_s, Nat.reduceBEq]
          by_cases e : x = i
          · rw [e, iu_s, iu_s]; exact ⟨rfl, rfl⟩
          · rw [iu_n e, iu_n e]; exact g4 x (by omega)
    · have hR1 := (g1.mr hR)
      obtain ⟨hB, hl3, ⟨m4, m5, m6⟩, ⟨m7, m8, m9⟩, m12, ⟨m14, m13⟩, m15, ⟨m17, m16⟩, m26⟩ := (show MR σ1 o p U len st from hR1)
      obtain ⟨b1, b2, b3, b4, b5, b6, b7⟩ := (show MB σ1 o p U len (st 1) from hB)
      (obtain ⟨mh, mp0, mp2, mp3, mp4, mp5, mp6, mp7, mp8, mp9, mp10, mp11, mp12, mp13, mp14, mp15, mp16, mp17, mp18, mp19, mp20, mp21, mp22, mp24, mp25, mp26, mp27, mq0, mq2, mq3, mq4, mq5, mq6, mq7, mq8, mq9, mq10, mq11, mq12, mq13, mq14, mq15, mq16, mq17, mq18, mq19, mq20, mq21, mq22, mq24, mq25, mq26, mq27⟩ := (show LModel lay ρ _ from hL); unfold wps; simp only [Option.getD_some, List.zip_cons_cons, List.zip_nil_left, List.zip_nil_right, List.zip_nil_right, MB_fu, MR_fu, si_iload_n0, si_iload_n1, si_iload_n2, si_iload_n3, si_iload, si_lload_n0, si_lload_n1, si_lload_n2, si_lload_n3, si_lload, si_aload_n0, si_aload_n1, si_aload_n2, si_aload_n3, si_aload, si_istore_n0, si_istore_n1, si_istore_n2, si_istore_n3, si_istore, si_astore_n0, si_astore_n1, si_astore_n2, si_astore_n3, si_astore, si_lstore_n0, si_lstore_n1, si_lstore_n2, si_lstore_n3, si_lstore, si_iconst, si_bipush, si_sipush, si_ldc, si_ldc2_w, si_lconst0, si_lconst1, si_aconst_null, si_iinc, si_dup, si_dup2, si_iadd, si_isub, si_imul, si_idiv, si_irem, si_iand, si_ior, si_ishl, si_ishr, si_ladd, si_lmul, si_lor, si_lxor, si_lshl, si_lushr, si_lcmp, si_i2b, si_i2l, si_l2i, si_icmp_eq, si_icmp_ne, si_icmp_lt, si_icmp_ge, si_icmp_gt, si_icmp_le, si_if_eq, si_if_ne, si_if_lt, si_if_ge, si_if_gt, si_if_le, si_ifnull, si_ifnonnull, si_goto, si_tableswitch, si_lookupswitch, si_getfield, si_putfield, si_getstatic, si_iaload, si_baload, si_laload, si_aaload, si_iastore, si_bastore, si_lastore, si_aastore, si_arraylength, si_new, si_newarray, si_anewarray, si_invokevirtual, si_invokespecial, si_invokestatic, si_ireturn, si_lreturn, si_areturn, si_return_, pI_e, pL_e, pR_e, pA_r, pA_n, pN_n, pN_r, oI_e, oL_e, oA_r, oA_n, lget_e, lrm1_0, lrm2_0, lrm1_i, lrm1_r, lrm1_n, lrm1_l, lrm2_i, lrm2_r, lrm2_n, lrm2_l, popN_0, popN_s, acat_i, acat_l, acat_r, acat_n, stw_0, stw_s, psh_s, psh_n, wgf_r, wgf_i, wgf_b, wgf_n, wgf_m, wpf_i, wpf_r, wpf_b, wnew_e, callE_e, rbk_0, rbk_1, tsw_0, tsw_s, lsw_0, lsw_s, wp_s, wq_t, wq_f, oV_e, pick_0, pick_s, oZ_e, oY_e, r_Model_weigh_0, r_Model_weigh_1, r_Model_weigh_2, r_Model_weigh_3, r_Model_weigh_4, r_Model_weigh_7, r_Model_weigh_8, r_Model_weigh_11, r_Model_weigh_12, r_Model_weigh_13, r_Model_weigh_14, r_Model_weigh_15, r_Model_weigh_18, r_Model_weigh_19, r_Model_weigh_20, r_Model_weigh_23, r_Model_weigh_24, r_Model_weigh_27, r_Model_weigh_28, r_Model_weigh_29, r_Model_weigh_30, r_Model_weigh_31, r_Model_weigh_34, r_Model_weigh_35, r_Model_weigh_36, r_Model_weigh_37, r_Model_weigh_40, r_Model_weigh_43, r_Model_weigh_44, r_Model_weigh_45, r_Model_weigh_46, r_Model_weigh_47, r_Model_weigh_50, r_Model_weigh_51, r_Model_weigh_52, r_Model_weigh_55, r_Model_weigh_56, r_Model_weigh_59, r_Model_weigh_60, r_Model_weigh_61, r_Model_weigh_64, r_Model_weigh_67, r_Model_weigh_68, r_Model_weigh_69, r_Model_weigh_70, r_Model_weigh_71, r_Model_weigh_74, r_Model_weigh_75, r_Model_weigh_78, r_Model_weigh_79, r_Model_weigh_80, r_Model_weigh_81, r_Model_weigh_82, r_Model_weigh_85, r_Model_weigh_86, r_Model_weigh_87, r_Model_weigh_90, r_Model_weigh_91, r_Model_weigh_94, r_Model_weigh_95, r_Model_weigh_96, r_Model_weigh_99, r_Model_weigh_100, r_Model_weigh_103, r_Model_weigh_104, r_Model_weigh_105, r_Model_weigh_108, r_Model_weigh_109, r_Model_weigh_112, r_Model_weigh_113, r_Model_weigh_114, r_Model_weigh_115, r_Model_weigh_116, r_Model_weigh_117, r_Model_weigh_118, r_Model_weigh_121, r_Model_weigh_122, r_Model_weigh_123, r_Model_weigh_124, r_Model_weigh_127, r_Model_weigh_128, r_Model_weigh_129, r_Model_weigh_130, r_Model_weigh_131, r_Model_weigh_132, r_Model_weigh_133, r_Model_weigh_136, r_Model_weigh_139, r_Model_weigh_142, r_Model_weigh_145, xf_Model_weigh_50, xf_Model_weigh_62, xf_Model_weigh_66, xf_Model_weigh_81, xf_Model_weigh_84, xe_Model_weigh_712, xe_Model_weigh_728, xd_Model_weigh, xrb_Model_weigh, xin_Model_weigh, T_Model_live_e, TF_Model_live, T_Model_sizeOf_e, TF_Model_sizeOf, mh, mp0, mp2, mp3, mp4, mp5, mp6, mp7, mp8, mp9, mp10, mp11, mp12, mp13, mp14, mp15, mp16, mp17, mp18, mp19, mp20, mp21, mp22, mp24, mp25, mp26, mp27, mq0, mq2, mq3, mq4, mq5, mq6, mq7, mq8, mq9, mq10, mq11, mq12, mq13, mq14, mq15, mq16, mq17, mq18, mq19, mq20, mq21, mq22, mq24, mq25, mq26, mq27, Nat.reduceAdd, Nat.reduceMul, Nat.reduceEqDiff, reduceIte, Int.reduceNeg, Int.reduceLE, Int.reduceLT, Int.reduceAdd, Int.reduceSub, Int.reduceToNat, true_and, and_true, inR_e, Nat.reduceLT, Nat.reduceLeDiff, reduceCtorEq, Nat.add_zero, Nat.zero_add, or_false, false_or, or_true, true_or, not_true_eq_false, not_false_eq_true, Classical.not_not, Nat.add_eq_zero_iff, and_false, false_and, Int.reduceEq, List.mem_cons, List.not_mem_nil, forall_eq_or_imp, forall_eq, false_implies, implies_true, forall_const, aargs_0, aargs_i, aargs_r, aargs_l, aargs_n, nfT_e, eq_self, and_self, Nat.le_refl, fu_s, fu_fu, iu_iu, iu_s, fu_am, fu_a0, fu_0a, iu_l, Nat.reduceBEq, Int.reduceBEq, T_objInit_e]; clear mp0 mp2 mp3 mp4 mp5 mp6 mp7 mp8 mp9 mp10 mp11 mp12 mp13 mp14 mp15 mp16 mp17 mp18 mp19 mp20 mp21 mp22 mp24 mp25 mp26 mp27)
      rw [m14]
      refine ⟨by omega, by omega, fun z => ?_, fun z => ⟨by omega, by omega, ?_⟩⟩
      · refine hT σ1 g1 g2 (fun x hx => g4 x (by omega)) (fun x hx hl => ?_)
        rw [g6 x hx]
        have e : i = (st 0 7).toNat := by omega
        rw [e]
        exact cntP_c (fun y _ => ⟨fun h => ⟨h.1, h.2.2⟩, fun h => ⟨h.1, hl, h.2⟩⟩)
      · have gi := g2 (i : Int) (by omega)
        refine ⟨fun h => ⟨hL, U, len, st, hS, hR1, by omega, fun σ2 f1 f2 => ⟨?_, (by rw [hμ]; simp only [gI_e, List.getD_cons_succ, List.getD_cons_zero, Nat.reduceEqDiff, reduceIte]; omega)⟩⟩, fun h => ⟨by omega, ?_, (by rw [hμ]; simp only [gI_e, List.getD_cons_succ, List.getD_cons_zero, Nat.reduceEqDiff, reduceIte]; omega)⟩⟩
        · have q24 : σ2 (o + 24) = σ1 (o + 24) := f1 _ (by omega) (by omega) (by omega)
          have q25 : σ2 (o + 25) = σ1 (o + 25) := f1 _ (by omega) (by omega) (by omega)
          have q18 : σ2 (o + 18) = σ1 (o + 18) := f1 _ (by omega) (by omega) (by omega)
          rw [hJd]
          refine Or.inr (Or.inr ⟨rfl, i, 0, σ2, g1.trans (f1.qf (Or.inr rfl)), by rw [q18]; exact g2, by omega, ?_, fun x hx => ⟨(f2 x hx).1, ?_⟩, by rw [q24]; exact g4, fun x hx => by rw [q24]; exact g5 x (by omega), by rw [q24, g5 i (by omega)]; rfl, fun x hx => ?_, rfl, rfl⟩)
          · rcases gi.1 with q | q
            · exact absurd q h
            · exact gi.2.mp q
          · rw [(f2 x hx).2]
            unfold dmP
            exact Classical.not_not.symm
          · rw [q25, g6 x hx, if_neg (by omega)]
        · rw [hJd]
          have nl : ¬ lvP U st i := fun q => by have := gi.2.mpr q; omega
          refine Or.inr (Or.inl ⟨rfl, i + 1, σ1, g1, g2, by omega, fun x hx hl => ?_, fun x hx => g5 x (by omega), fun x hx => ?_, rfl, rfl⟩)
          · by_cases e : x = i
            · rw [e] at hl; exact absurd hl nl
            · exact g4 x (by omega) hl
          · rw [g6 x hx, cntP_sf (fun q => nl q.1)]
    · have hR1 := (g1.mr hR)
      obtain ⟨hB, hl3, ⟨m4, m5, m6⟩, ⟨m7, m8, m9⟩, m12, ⟨m14, m13⟩, m15, ⟨m17, m16⟩, m26⟩ := (show MR σ1 o p U len st from hR1)
      obtain ⟨b1, b2, b3, b4, b5, b6, b7⟩ := (show MB σ1 o p U len (st 1) from hB)
      (obtain ⟨mh, mp0, mp2, mp3, mp4, mp5, mp6, mp7, mp8, mp9, mp10, mp11, mp12, mp13, mp14, mp15, mp16, mp17, mp18, mp19, mp20, mp21, mp22, mp24, mp25, mp26, mp27, mq0, mq2, mq3, mq4, mq5, mq6, mq7, mq8, mq9, mq10, mq11, mq12, mq13, mq14, mq15, mq16, mq17, mq18, mq19, mq20, mq21, mq22, mq24, mq25, mq26, mq27⟩ := (show LModel lay ρ _ from hL); unfold wps; simp only [Option.getD_some, List.zip_cons_cons, List.zip_nil_left, List.zip_nil_right, List.zip_nil_right, MB_fu, MR_fu, si_iload_n0, si_iload_n1, si_iload_n2, si_iload_n3, si_iload, si_lload_n0, si_lload_n1, si_lload_n2, si_lload_n3, si_lload, si_aload_n0, si_aload_n1, si_aload_n2, si_aload_n3, si_aload, si_istore_n0, si_istore_n1, si_istore_n2, si_istore_n3, si_istore, si_astore_n0, si_astore_n1, si_astore_n2, si_astore_n3, si_astore, si_lstore_n0, si_lstore_n1, si_lstore_n2, si_lstore_n3, si_lstore, si_iconst, si_bipush, si_sipush, si_ldc, si_ldc2_w, si_lconst0, si_lconst1, si_aconst_null, si_iinc, si_dup, si_dup2, si_iadd, si_isub, si_imul, si_idiv, si_irem, si_iand, si_ior, si_ishl, si_ishr, si_ladd, si_lmul, si_lor, si_lxor, si_lshl, si_lushr, si_lcmp, si_i2b, si_i2l, si_l2i, si_icmp_eq, si_icmp_ne, si_icmp_lt, si_icmp_ge, si_icmp_gt, si_icmp_le, si_if_eq, si_if_ne, si_if_lt, si_if_ge, si_if_gt, si_if_le, si_ifnull, si_ifnonnull, si_goto, si_tableswitch, si_lookupswitch, si_getfield, si_putfield, si_getstatic, si_iaload, si_baload, si_laload, si_aaload, si_iastore, si_bastore, si_lastore, si_aastore, si_arraylength, si_new, si_newarray, si_anewarray, si_invokevirtual, si_invokespecial, si_invokestatic, si_ireturn, si_lreturn, si_areturn, si_return_, pI_e, pL_e, pR_e, pA_r, pA_n, pN_n, pN_r, oI_e, oL_e, oA_r, oA_n, lget_e, lrm1_0, lrm2_0, lrm1_i, lrm1_r, lrm1_n, lrm1_l, lrm2_i, lrm2_r, lrm2_n, lrm2_l, popN_0, popN_s, acat_i, acat_l, acat_r, acat_n, stw_0, stw_s, psh_s, psh_n, wgf_r, wgf_i, wgf_b, wgf_n, wgf_m, wpf_i, wpf_r, wpf_b, wnew_e, callE_e, rbk_0, rbk_1, tsw_0, tsw_s, lsw_0, lsw_s, wp_s, wq_t, wq_f, oV_e, pick_0, pick_s, oZ_e, oY_e, r_Model_weigh_0, r_Model_weigh_1, r_Model_weigh_2, r_Model_weigh_3, r_Model_weigh_4, r_Model_weigh_7, r_Model_weigh_8, r_Model_weigh_11, r_Model_weigh_12, r_Model_weigh_13, r_Model_weigh_14, r_Model_weigh_15, r_Model_weigh_18, r_Model_weigh_19, r_Model_weigh_20, r_Model_weigh_23, r_Model_weigh_24, r_Model_weigh_27, r_Model_weigh_28, r_Model_weigh_29, r_Model_weigh_30, r_Model_weigh_31, r_Model_weigh_34, r_Model_weigh_35, r_Model_weigh_36, r_Model_weigh_37, r_Model_weigh_40, r_Model_weigh_43, r_Model_weigh_44, r_Model_weigh_45, r_Model_weigh_46, r_Model_weigh_47, r_Model_weigh_50, r_Model_weigh_51, r_Model_weigh_52, r_Model_weigh_55, r_Model_weigh_56, r_Model_weigh_59, r_Model_weigh_60, r_Model_weigh_61, r_Model_weigh_64, r_Model_weigh_67, r_Model_weigh_68, r_Model_weigh_69, r_Model_weigh_70, r_Model_weigh_71, r_Model_weigh_74, r_Model_weigh_75, r_Model_weigh_78, r_Model_weigh_79, r_Model_weigh_80, r_Model_weigh_81, r_Model_weigh_82, r_Model_weigh_85, r_Model_weigh_86, r_Model_weigh_87, r_Model_weigh_90, r_Model_weigh_91, r_Model_weigh_94, r_Model_weigh_95, r_Model_weigh_96, r_Model_weigh_99, r_Model_weigh_100, r_Model_weigh_103, r_Model_weigh_104, r_Model_weigh_105, r_Model_weigh_108, r_Model_weigh_109, r_Model_weigh_112, r_Model_weigh_113, r_Model_weigh_114, r_Model_weigh_115, r_Model_weigh_116, r_Model_weigh_117, r_Model_weigh_118, r_Model_weigh_121, r_Model_weigh_122, r_Model_weigh_123, r_Model_weigh_124, r_Model_weigh_127, r_Model_weigh_128, r_Model_weigh_129, r_Model_weigh_130, r_Model_weigh_131, r_Model_weigh_132, r_Model_weigh_133, r_Model_weigh_136, r_Model_weigh_139, r_Model_weigh_142, r_Model_weigh_145, xf_Model_weigh_50, xf_Model_weigh_62, xf_Model_weigh_66, xf_Model_weigh_81, xf_Model_weigh_84, xe_Model_weigh_712, xe_Model_weigh_728, xd_Model_weigh, xrb_Model_weigh, xin_Model_weigh, T_Model_live_e, TF_Model_live, T_Model_sizeOf_e, TF_Model_sizeOf, mh, mp0, mp2, mp3, mp4, mp5, mp6, mp7, mp8, mp9, mp10, mp11, mp12, mp13, mp14, mp15, mp16, mp17, mp18, mp19, mp20, mp21, mp22, mp24, mp25, mp26, mp27, mq0, mq2, mq3, mq4, mq5, mq6, mq7, mq8, mq9, mq10, mq11, mq12, mq13, mq14, mq15, mq16, mq17, mq18, mq19, mq20, mq21, mq22, mq24, mq25, mq26, mq27, Nat.reduceAdd, Nat.reduceMul, Nat.reduceEqDiff, reduceIte, Int.reduceNeg, Int.reduceLE, Int.reduceLT, Int.reduceAdd, Int.reduceSub, Int.reduceToNat, true_and, and_true, inR_e, Nat.reduceLT, Nat.reduceLeDiff, reduceCtorEq, Nat.add_zero, Nat.zero_add, or_false, false_or, or_true, true_or, not_true_eq_false, not_false_eq_true, Classical.not_not, Nat.add_eq_zero_iff, and_false, false_and, Int.reduceEq, List.mem_cons, List.not_mem_nil, forall_eq_or_imp, forall_eq, false_implies, implies_true, forall_const, aargs_0, aargs_i, aargs_r, aargs_l, aargs_n, nfT_e, eq_self, and_self, Nat.le_refl, fu_s, fu_fu, iu_iu, iu_s, fu_am, fu_a0, fu_0a, iu_l, Nat.reduceBEq, Int.reduceBEq, T_objInit_e]; clear mp0 mp2 mp3 mp4 mp5 mp6 mp7 mp8 mp9 mp10 mp11 mp12 mp13 mp14 mp15 mp16 mp17 mp18 mp19 mp20 mp21 mp22 mp24 mp25 mp26 mp27)
      rw [m14]
      have fin : (∀ x : Int, 0 ≤ x ∧ x < st 0 7 → σ1 (o + 25) x = cntP (fun z => lvP U st z ∧ (lvP U st x ∧ dmP U st z x)) i) → True := fun _ => trivial
      refine ⟨by omega, by omega, fun z => ⟨by omega, ?_, (by rw [hμ]; simp only [gI_e, List.getD_cons_succ, List.getD_cons_zero, Nat.reduceEqDiff, reduceIte]; omega)⟩, fun z => ⟨by omega, by omega, ?_⟩⟩
      · rw [hJd]
        have e : j = (st 0 7).toNat := by omega
        refine Or.inr (Or.inl ⟨rfl, i + 1, σ1, g1, g2, by omega, fun x hx hl => ?_, fun x hx => g7 x (by omega), fun x hx => ?_, rfl, rfl⟩)
        · by_cases e2 : x = i
          · rw [e2, g8, e]; rfl
          · exact g6 x (by omega) hl
        · rw [g9 x hx, if_pos (by omega)]
      · have gj := g2 (j : Int) (by omega)
        have gj2 := g5 (j : Int) (by omega)
        have sz1 := hS.szR (i := (j : Int)) (by omega)
        have sR := sumP_R (P := fun z => lvP U st z ∧ dmP U st i z) (f := szP U st) (m := 100000) (N := j) (by omega) (fun x hx => hS.szR (by omega))
        have cR := cntP_R (P := fun z => lvP U st z ∧ (lvP U st j ∧ dmP U st z j)) (N := i)
        have c9 := g9 (j : Int) (by omega)
        rw [if_neg (by omega)] at c9
        have tv := hS.tv (i := (j : Int)) (by omega)
        have skip : ¬ (lvP U st j ∧ dmP U st i j) → J 80 [vR o, vI p, vI (i : Int), vI ((j : Int) + 1)] (sz, sl, lay, ρ, σ1, τ) := by
          intro h
          rw [hJd]
          refine Or.inr (Or.inr ⟨rfl, i, j + 1, σ1, g1, g2, by omega, g4, g5, g6, g7, by rw [sumP_sf h]; exact g8, fun x hx => ?_, rfl, rfl⟩)
          by_cases e : x = j
          · rw [e, if_pos (by omega), c9, cntP_sf (fun q => h q.2)]
          · rw [g9 x hx]
            by_cases e2 : x < j
            · rw [if_pos e2, if_pos (by omega)]
            · rw [if_neg e2, if_neg (by omega)]
        refine ⟨fun h => ⟨by omega, skip (fun q => by have := gj.2.mpr q.1; omega), (by rw [hμ]; simp only [gI_e, List.getD_cons_succ, List.getD_cons_zero, Nat.reduceEqDiff, reduceIte]; omega)⟩, fun h => ⟨by omega, by omega, fun h2 => ⟨by omega, skip (fun q => ?_), (by rw [hμ]; simp only [gI_e, List.getD_cons_succ, List.getD_cons_zero, Nat.reduceEqDiff, reduceIte]; omega)⟩, fun h2 => ?_⟩⟩
        · rcases gj2.1 with q2 | q2
          · exact absurd q2 h2
          · exact gj2.2.mp q2 q.2
        · have lvj : lvP U st j := by
            rcases gj.1 with q | q
            · exact absurd q h
            · exact gj.2.mp q
          have dmj : dmP U st i j := Classical.byContradiction (fun q => by have := gj2.2.mpr q; omega)
          rw [m13 j (by omega)]
          refine ⟨by omega, by omega, hL, U, len, st 1, hB, by omega, tv, fun c => ?_⟩
          rw [show szv U (st 1) (st 2 j) = szP U st j from rfl]
          refine ⟨by omega, by omega, by omega, by omega, by omega, by omega, by omega, by omega, by omega, ?_, (by rw [hμ]; simp only [gI_e, List.getD_cons_succ, List.getD_cons_zero, Nat.reduceEqDiff, reduceIte]; omega)⟩
          rw [hJd]
          refine Or.inr (Or.inr ⟨rfl, i, j + 1, _, ((g1.up (by omega)).up (by omega)).up (by omega), ?_, by omega, g4, ?_, ?_, ?_, ?_, ?_, rfl, rfl⟩)
          · simp only [fu_am, Nat.reduceBEq]; exact g2
          · simp only [fu_am, Nat.reduceBEq]; exact g5
          · simp only [fu_am, fu_s, Nat.reduceBEq]
            intro x hx hl
            rw [iu_n (by omega)]; exact g6 x hx hl
          · simp only [fu_am, fu_s, Nat.reduceBEq]
            intro x hx
            rw [iu_n (by omega)]; exact g7 x hx
          · simp only [fu_am, fu_s, Nat.reduceBEq]
            rw [iu_s, sumP_st (P := fun z => lvP U st z ∧ dmP U st i z) ⟨lvj, dmj⟩, g8]
          · simp only [fu_am, fu_s, Nat.reduceBEq]
            intro x hx
            by_cases e : x = j
            · rw [e, iu_s, if_pos (by omega), c9, cntP_st (P := fun z => lvP U st z ∧ (lvP U st j ∧ dmP U st z j)) ⟨g4, lvj, dmj⟩]
            · rw [iu_n e, g9 x hx]
              by_cases e2 : x < j
              · rw [if_pos e2, if_pos (by omega)]
              · rw [if_neg e2, if_neg (by omega)]

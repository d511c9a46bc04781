/-- a kind whose first i fields are in -/
def KBg (σ σ1 : Nat → Int → Int) (o : Nat) (U : Int → Int) (kd pa q inh wdp : Int) (i : Nat) : Prop := Fr σ σ1 o 6 ∧ σ1 o = iu (σ o) 6 (σ o 6 + 1) ∧ (∀ x, ¬ x = kd → σ1 (o + 1) x = σ (o + 1) x ∧ σ1 (o + 2) x = σ (o + 2) x ∧ σ1 (o + 3) x = σ (o + 3) x ∧ σ1 (o + 4) x = σ (o + 4) x ∧ σ1 (o + 5) x = σ (o + 5) x) ∧ (∀ x, ¬ (kd * 12 ≤ x ∧ x < kd * 12 + 12) → σ1 (o + 6) x = σ (o + 6) x) ∧ (σ1 (o + 1) kd = 1 ∧ σ1 (o + 2) kd = pa ∧ σ1 (o + 3) kd = inh ∧ σ1 (o + 4) kd = inh + i ∧ σ1 (o + 5) kd = wdp + sumZ (fun j => wd (U (q + 4 + j))) i) ∧ ∀ j, 0 ≤ j ∧ j < (i : Int) → σ1 (o + 6) (kd * 12 + j) = U (q + 4 + j)
theorem KBg.fld {σ σ1 : Nat → Int → Int} {o : Nat} {U : Int → Int} {kd pa q inh wdp : Int} {i : Nat} (h : KBg σ σ1 o U kd pa q inh wdp i) (hi : i < 12) : KBg σ (fu (fu (fu σ1 (o + 6) (iu (σ1 (o + 6)) (kd * 12 + (σ1 (o + 4) kd - σ1 (o + 3) kd)) (U (q + 4 + i)))) (o + 4) (iu (σ1 (o + 4)) kd (σ1 (o + 4) kd + 1))) (o + 5) (iu (σ1 (o + 5)) kd (σ1 (o + 5) kd + wd (U (q + 4 + i))))) o U kd pa q inh wdp (i + 1) := by
  obtain ⟨h1, h2, h3, h4, ⟨a1, a2, a3, a4, a5⟩, h6⟩ := h
  have e0 : σ1 (o + 4) kd - σ1 (o + 3) kd = i := by omega
  rw [e0]
  refine ⟨((h1.fu (by omega)).fu (by omega)).fu (by omega), by rw [fu_a0 (by decide), fu_a0 (by decide), fu_a0 (by decide)]; exact h2, fun x hx => ?_, fun x hx => ?_, ?_, fun j hj => ?_⟩
  · rw [fu_am (by decide), fu_am (by decide), fu_am (by decide), fu_am (by decide), fu_am (by decide), fu_am (by decide), fu_am (by decide), fu_am (by decide), fu_am (by decide), fu_am (by decide), fu_s, fu_s, iu_n hx, iu_n hx]
    exact h3 x hx
  · rw [fu_am (by decide), fu_am (by decide), fu_s, iu_n (by omega)]
    exact h4 x hx
  · rw [fu_am (by decide), fu_am (by decide), fu_am (by decide), fu_am (by decide), fu_am (by decide), fu_am (by decide), fu_am (by decide), fu_am (by decide), fu_am (by decide), fu_am (by decide), fu_s, fu_s, iu_s, iu_s]
    refine ⟨a1, a2, a3, by omega, ?_⟩
    show _ = wdp + (sumZ (fun j => wd (U (q + 4 + j))) i + wd (U (q + 4 + i)))
    omega
  · rw [fu_am (by decide), fu_am (by decide), fu_s]
    by_cases e : j = i
    · rw [e, iu_s]
    · rw [iu_n (by omega)]
      exact h6 j (by omega)
/-- the kind is in: the kinds are as they were read -/
theorem KBg.kr {σ σ1 : Nat → Int → Int} {o : Nat} {U A : Int → Int} {len q pa inh wdp : Int} {n : Nat} (hK : KW U A) (hK2 : KW U (iu A (U (q + 1)) q)) (hR : KR σ o U A) (a : AccK U len A q) (h : KBg σ σ1 o U (U (q + 1)) pa q inh wdp n) (hn : (n : Int) = U (q + 3)) (hpa : pa = if U (q + 2) = 255 then -1 else U (q + 2)) (hin : inh = fL U A (ch U A (U (q + 2)))) (hwd : wdp = wL U A (ch U A (U (q + 2)))) (hq : 0 ≤ q) : KR σ1 o U (iu A (U (q + 1)) q) := by
  obtain ⟨h1, h2, h3, h4, ⟨a1, a2, a3, a4, a5⟩, h6⟩ := h
  have hu := hK.1 (q + 1)
  have hu2 := hK.1 (q + 2)
  have ag := a.ag
  have kp : kn5 A (U (q + 2)) := by
    rcases a.2.2.2.1 with z | z
    · exact Or.inl z
    · exact Or.inr ⟨by omega, z.2⟩
  obtain ⟨x1, x2⟩ := ch_x hK ag kp
  have hb := fL_b hK kp
  have k0 : 0 ≤ U (q + 1) ∧ U (q + 1) < 40 := ⟨hu.1, a.2.1⟩
  have hc : ch U (iu A (U (q + 1)) q) (U (q + 1)) = U (q + 1) :: ch U A (U (q + 2)) := by
    rw [ch_k hK2 k0 (by rw [iu_s]; exact hq), iu_s, x1]
  have hall : ∀ x ∈ U (q + 1) :: ch U A (U (q + 2)), (0 ≤ x ∧ x < 40) ∧ 0 ≤ iu A (U (q + 1)) q x := by
    rw [← hc]
    exact ch_in hK2 _ (Or.inr ⟨k0, by rw [iu_s]; exact hq⟩)
  refine ⟨fun k hk => ?_, fun y => ?_⟩
  · by_cases e : k = U (q + 1)
    · rw [e, iu_s]
      refine ⟨fun z => by omega, fun _ => ⟨by rw [a1]; decide, by rw [a2, hpa], by rw [a3, hin, x1, fL_x _ x2], ?_, ?_, fun i hi => h6 i (by omega)⟩⟩
      · rw [hc, a4, hin]
        show _ = U (iu A (U (q + 1)) q (U (q + 1)) + 3) + fL U (iu A (U (q + 1)) q) (ch U A (U (q + 2)))
        rw [iu_s, fL_x _ x2]
        omega
      · rw [hc, wL_k hK2 hall, iu_s, a5, hwd, wL_x x2]
        congr 2
        omega
    · rw [iu_n e]
      obtain ⟨b1, b2, b3, b4, b5⟩ := h3 k e
      rw [b1, b2, b3, b4, b5]
      refine ⟨(hR.1 k hk).1, fun z => ?_⟩
      obtain ⟨c1, c2, c3, c4, c5, c6⟩ := (hR.1 k hk).2 z
      obtain ⟨y1, y2⟩ := ch_x hK ag (k := k) (Or.inr ⟨hk, z⟩)
      obtain ⟨z1, z2⟩ := ch_x hK ag (hK.par hk z)
      have hu3 := (hK.2 k hk z).2.2.1
      refine ⟨c1, c2, by rw [c3, z1, fL_x _ z2], by rw [c4, y1, fL_x _ y2], by rw [c5, y1, wL_x y2], fun i hi => ?_⟩
      rw [h4 _ (by omega)]
      exact c6 i hi
  · by_cases e : y = U (q + 1)
    · rw [e, a3]; omega
    · rw [(h3 y e).2.2.1]; exact hR.2 y
theorem isE_t {σ : Nat → Int → Int} {t : Nat} {x : Int} (hx : 0 ≤ x) : (x = σ t 1 ∨ (0 ≤ x ∧ x < σ t 1 ∧ σ (t + 1) x % 256 = 10)) ↔ isE (tU σ t) (σ t 1) x := by
  constructor
  · intro h
    rcases h with h | h
    · exact Or.inl h
    · exact Or.inr ⟨h.2.1, by rw [tU_i ⟨hx, h.2.1⟩]; exact h.2.2⟩
  · intro h
    rcases h with h | h
    · exact Or.inl h
    · exact Or.inr ⟨hx, h.1, by rw [← tU_i ⟨hx, h.1⟩]; exact h.2⟩
theorem Wd.fr {lay : Nat → Nat × Int} {ρ : Nat → Int → Nat} {σ σ2 : Nat → Int → Int} {o m : Nat} (h : Wd lay ρ σ) (hf : Fr σ σ2 o m) (hl : ∀ j, j ≤ m → (lay (o + j)).1 ≠ 6) : Wd lay ρ σ2 := by
  have e : σ2 (ρ 0 0) = σ (ρ 0 0) := by
    refine hf _ ?_
    by_cases g : ρ 0 0 < o ∨ o + m < ρ 0 0
    · exact g
    · exfalso
      have := hl (ρ 0 0 - o) (by omega)
      rw [show o + (ρ 0 0 - o) = ρ 0 0 by omega, h.1] at this
      exact this rfl
  unfold Wd
  rw [e]
  exact h
theorem Wd.kd {lay : Nat → Nat × Int} {ρ : Nat → Int → Nat} {σ σ2 : Nat → Int → Int} {o : Nat} (h : Wd lay ρ σ) (hf : Fr σ σ2 o 6) (hK : LKinds lay ρ o) : Wd lay ρ σ2 := by
  refine h.fr hf (fun j hj => ?_)
  obtain ⟨k0, -, -, -, -, -, -, k1, k2, k3, k4, k5, k6⟩ := hK
  have : j = 0 ∨ j = 1 ∨ j = 2 ∨ j = 3 ∨ j = 4 ∨ j = 5 ∨ j = 6 := by omega
  rcases this with e | e | e | e | e | e | e <;> subst e
  · rw [Nat.add_zero, k0]; decide
  · rw [k1]; decide
  · rw [k2]; decide
  · rw [k3]; decide
  · rw [k4]; decide
  · rw [k5]; decide
  · rw [k6]; decide
/-- a kind is begun -/
theorem KBg.st {σ : Nat → Int → Int} {o : Nat} {U : Int → Int} {kd pa q inh wdp : Int} : KBg σ (fu (fu (fu (fu (fu (fu σ (o + 1) (iu (σ (o + 1)) kd 1)) (o + 2) (iu (σ (o + 2)) kd pa)) (o + 3) (iu (σ (o + 3)) kd inh)) (o + 4) (iu (σ (o + 4)) kd inh)) (o + 5) (iu (σ (o + 5)) kd wdp)) o (iu (σ o) 6 (σ o 6 + 1))) o U kd pa q inh wdp 0 := by
  refine ⟨(((((Fr.rfl'.fu (by omega)).fu (by omega)).fu (by omega)).fu (by omega)).fu (by omega)).fu (by omega), by rw [fu_s], fun x hx => ?_, fun x hx => ?_, ?_, fun j hj => by omega⟩
  · simp only [fu_0a, fu_am, fu_s, Nat.reduceBEq, iu_n hx, and_self]
  · simp only [fu_0a, fu_am, fu_s, Nat.reduceBEq]
  · simp only [fu_0a, fu_am, fu_s, Nat.reduceBEq, iu_s, true_and]
    exact ⟨by omega, by show wdp = wdp + 0; omega⟩
theorem KR.adm {σ : Nat → Int → Int} {o : Nat} {U A : Int → Int} (h : KR σ o U A) {x y : Int} (hx : 0 ≤ x) (hy : 0 ≤ y) : (0 ≤ x ∧ x < 40 ∧ σ (o + 1) x = 0 ∧ (y = 255 ∨ (0 ≤ y ∧ y < 40 ∧ ¬ σ (o + 1) y = 0))) ↔ (x < 40 ∧ A x < 0 ∧ (y = 255 ∨ (y < 40 ∧ 0 ≤ A y))) := by
  have k1 := h.kno (k := x)
  have k2 := h.kno (k := y)
  constructor
  · intro ⟨a, b, c, d⟩
    refine ⟨b, ?_, ?_⟩
    · by_cases e : A x < 0
      · exact e
      · exact absurd c (k1.mpr ⟨⟨a, b⟩, by omega⟩).2.2
    · rcases d with d | d
      · exact Or.inl d
      · exact Or.inr ⟨d.2.1, (k2.mp d).2⟩
  · intro ⟨a, b, c⟩
    refine ⟨hx, a, (h.1 x ⟨hx, a⟩).1 b, ?_⟩
    rcases c with c | c
    · exact Or.inl c
    · exact Or.inr (k2.mpr ⟨⟨hy, c.1⟩, c.2⟩)
theorem co_X3_602 : CallOK RX3 (.invokestatic 150) (1, 0, 0, 0, T_PR_isSort) := call_S S_PR_isSort (by decide) (by decide +kernel) (Or.inr (by decide +kernel)) (by decide +kernel) (by decide +kernel) (by decide +kernel)
theorem co_X3_464 : CallOK RX3 (.invokevirtual 116) (2, 0, 0, 0, T_Tape_at) := call_V S_Tape_at (by decide) (ci := 6) rfl (by decide +kernel) (by decide +kernel) (by decide +kernel) (by decide +kernel) (by decide +kernel) (by decide +kernel) T_Tape_at_r
theorem co_X3_568 : CallOK RX3 (.invokevirtual 142) (3, 1, 0, 0, T_Kinds_admits) := call_V S_Kinds_admits (by decide) (ci := 1) rfl (by decide +kernel) (by decide +kernel) (by decide +kernel) (by decide +kernel) (by decide +kernel) (by decide +kernel) T_Kinds_admits_r
theorem co_X3_584 : CallOK RX3 (.invokevirtual 146) (2, 1, 0, 0, T_Tape_closesAt) := call_V S_Tape_closesAt (by decide) (ci := 6) rfl (by decide +kernel) (by decide +kernel) (by decide +kernel) (by decide +kernel) (by decide +kernel) (by decide +kernel) T_Tape_closesAt_r
theorem co_X3_612 : CallOK RX3 (.invokevirtual 153) (3, 2, 0, 0, T_Kinds_begin) := call_V S_Kinds_begin (by decide) (ci := 1) rfl (by decide +kernel) (by decide +kernel) (by decide +kernel) (by decide +kernel) (by decide +kernel) (by decide +kernel) T_Kinds_begin_r
theorem co_X3_624 : CallOK RX3 (.invokevirtual 156) (3, 1, 0, 0, T_Kinds_addField) := call_V S_Kinds_addField (by decide) (ci := 1) rfl (by decide +kernel) (by decide +kernel) (by decide +kernel) (by decide +kernel) (by decide +kernel) (by decide +kernel) T_Kinds_addField_r
def TF_Picture_takeKind (o : Nat) (t : Nat) (p : Int) (sz sl : Nat) (lay : Nat → Nat × Int) (ρ : Nat → Int → Nat) (σ : Nat → Int → Int) (τ : Nat → Int → Int64) (k : Option AV → Mm → Prop) : Prop := LPicture lay ρ o ∧ LTape lay ρ t ∧ (0 ≤ σ t 1 ∧ σ t 1 ≤ 8000) ∧ (t + 2 ≤ o) ∧ Wd lay ρ σ ∧ (0 ≤ p ∧ p < σ t 1) ∧ ∃ (kk : Nat) (A : Int → Int), o + 1 = kk ∧ LKinds lay ρ kk ∧ KW (tU σ t) A ∧ KR σ kk (tU σ t) A ∧ (∀ x, 0 ≤ x ∧ x < 40 → A x = -1 ∨ (0 ≤ A x ∧ A x < p)) ∧ (0 ≤ σ kk 6 ∧ σ kk 6 ≤ 1000) ∧ (¬ AccK (tU σ t) (σ t 1) A p → k (some (vI (0))) (sz, sl, lay, ρ, σ, τ)) ∧ (AccK (tU σ t) (σ t 1) A p → ∀ σ2 : Nat → Int → Int, Fr σ σ2 kk 6 → KR σ2 kk (tU σ t) (iu A (tU σ t (p + 1)) p) → σ2 kk 6 = σ kk 6 + 1 → k (some (vI (4 + tU σ t (p + 3)))) (sz, sl, lay, ρ, σ2, τ))
def T_Picture_takeKind : Tr := mkT 3 fun o as M k => pR as fun t as => pI as fun p as => as = [] ∧ TF_Picture_takeKind o t p M.1 M.2.1 M.2.2.1 M.2.2.2.1 M.2.2.2.2.1 M.2.2.2.2.2 k
theorem T_Picture_takeKind_e {o : Nat} {t : Nat} {p : Int} {sz sl : Nat} {lay : Nat → Nat × Int} {ρ : Nat → Int → Nat} {σ : Nat → Int → Int} {τ : Nat → Int → Int64} {k : Option AV → Mm → Prop} : T_Picture_takeKind [vR o, vR t, vI p] (sz, sl, lay, ρ, σ, τ) k = (lay o = (13, 0) ∧ TF_Picture_takeKind o t p sz sl lay ρ σ τ k) := by simp [T_Picture_takeKind, mkT_e, pI_e, pR_e, pL_e]
theorem T_Picture_takeKind_r (as : List AV) (M : Mm) (k : Option AV → Mm → Prop) (h : T_Picture_takeKind as M k) : ∃ b As, as = vR b :: As ∧ M.2.2.1 b = (10 + 3, 0) := by
  obtain ⟨b, As, h1, h2, -⟩ := mkT_r h
  exact ⟨b, As, h1, h2⟩
def tb_Picture_takeKind : List (Nat × Option (List Nat) × Instr × List Nat) := [(0, none, .aload_n 1, []), (1, none, .iload_n 2, []), (2, none, .iconst 1, []), (3, none, .iadd, []), (4, none, .invokevirtual 116, []), (7, none, .istore_n 3, []), (8, none, .aload_n 1, []), (9, none, .iload_n 2, []), (10, none, .iconst 2, []), (11, none, .iadd, []), (12, none, .invokevirtual 116, []), (15, none, .istore 4, []), (17, none, .aload_n 1, []), (18, none, .iload_n 2, []), (19, none, .iconst 3, []), (20, none, .iadd, []), (21, none, .invokevirtual 116, []), (24, none, .istore 5, []), (26, none, .aload_n 0, []), (27, none, .getfield 12, []), (30, none, .iload_n 3, []), (31, none, .iload 4, []), (33, none, .invokevirtual 142, []), (36, none, .ifCond .eq 28, [64]), (39, none, .iload 5, []), (41, none, .ifCond .lt 23, [64]), (44, none, .iload 5, []), (46, none, .bipush 12, []), (48, none, .if_icmp .gt 16, [64]), (51, none, .aload_n 1, []), (52, none, .iload_n 2, []), (53, none, .iconst 4, []), (54, none, .iadd, []), (55, none, .iload 5, []), (57, none, .iadd, []), (58, none, .invokevirtual 146, []), (61, none, .ifCond .ne 5, [66]), (64, none, .iconst 0, []), (65, none, .ireturn, []), (66, none, .iconst 0, []), (67, none, .istore 6, []), (69, some [0, 1, 2, 3, 4, 5, 6], .iload 6, []), (71, none, .iload 5, []), (73, none, .if_icmp .ge 27, [100]), (76, none, .aload_n 1, []), (77, none, .iload_n 2, []), (78, none, .iconst 4, []), (79, none, .iadd, []), (80, none, .iload 6, []), (82, none, .iadd, []), (83, none, .invokevirtual 116, []), (86, none, .invokestatic 150, []), (89, none, .ifCond .ne 5, [94]), (92, none, .iconst 0, []), (93, none, .ireturn, []), (94, none, .iinc 6 1, []), (97, none, .goto (-28), [69]), (100, none, .aload_n 0, []), (101, none, .getfield 12, []), (104, none, .iload_n 3, []), (105, none, .iload 4, []), (107, none, .invokevirtual 153, []), (110, none, .iconst 0, []), (111, none, .istore 6, []), (113, some [0, 1, 2, 3, 4, 5, 6], .iload 6, []), (115, none, .iload 5, []), (117, none, .if_icmp .ge 27, [144]), (120, none, .aload_n 0, []), (121, none, .getfield 12, []), (124, none, .iload_n 3, []), (125, none, .aload_n 1, []), (126, none, .iload_n 2, []), (127, none, .iconst 4, []), (128, none, .iadd, []), (129, none, .iload 6, []), (131, none, .iadd, []), (132, none, .invokevirtual 116, []), (135, none, .invokevirtual 156, []), (138, none, .iinc 6 1, []), (141, none, .goto (-28), [113]), (144, none, .iconst 4, []), (145, none, .iload 5, []), (147, none, .iadd, []), (148, none, .ireturn, [])]
def P_Picture_takeKind : Nat → Option (List Nat) × Instr × List Nat := plk tb_Picture_takeKind
theorem r_Picture_takeKind_0 : P_Picture_takeKind 0 = (none, .aload_n 1, []) := by decide +kernel
theorem r_Picture_takeKind_1 : P_Picture_takeKind 1 = (none, .iload_n 2, []) := by decide +kernel
theorem r_Picture_takeKind_2 : P_Picture_takeKind 2 = (none, .iconst 1, []) := by decide +kernel
theorem r_Picture_takeKind_3 : P_Picture_takeKind 3 = (none, .iadd, []) := by decide +kernel
theorem r_Picture_takeKind_4 : P_Picture_takeKind 4 = (none, .invokevirtual 116, []) := by decide +kernel
theorem r_Picture_takeKind_7 : P_Picture_takeKind 7 = (none, .istore_n 3, []) := by decide +kernel
theorem r_Picture_takeKind_8 : P_Picture_takeKind 8 = (none, .aload_n 1, []) := by decide +kernel
theorem r_Picture_takeKind_9 : P_Picture_takeKind 9 = (none, .iload_n 2, []) := by decide +kernel
theorem r_Picture_takeKind_10 : P_Picture_takeKind 10 = (none, .iconst 2, []) := by decide +kernel
theorem r_Picture_takeKind_11 : P_Picture_takeKind 11 = (none, .iadd, []) := by decide +kernel
theorem r_Picture_takeKind_12 : P_Picture_takeKind 12 = (none, .invokevirtual 116, []) := by decide +kernel
theorem r_Picture_takeKind_15 : P_Picture_takeKind 15 = (none, .istore 4, []) := by decide +kernel
theorem r_Picture_takeKind_17 : P_Picture_takeKind 17 = (none, .aload_n 1, []) := by decide +kernel
theorem r_Picture_takeKind_18 : P_Picture_takeKind 18 = (none, .iload_n 2, []) := by decide +kernel
theorem r_Picture_takeKind_19 : P_Picture_takeKind 19 = (none, .iconst 3, []) := by decide +kernel
theorem r_Picture_takeKind_20 : P_Picture_takeKind 20 = (none, .iadd, []) := by decide +kernel
theorem r_Picture_takeKind_21 : P_Picture_takeKind 21 = (none, .invokevirtual 116, []) := by decide +kernel
theorem r_Picture_takeKind_24 : P_Picture_takeKind 24 = (none, .istore 5, []) := by decide +kernel
theorem r_Picture_takeKind_26 : P_Picture_takeKind 26 = (none, .aload_n 0, []) := by decide +kernel
theorem r_Picture_takeKind_27 : P_Picture_takeKind 27 = (none, .getfield 12, []) := by decide +kernel
theorem r_Picture_takeKind_30 : P_Picture_takeKind 30 = (none, .iload_n 3, []) := by decide +kernel
theorem r_Picture_takeKind_31 : P_Picture_takeKind 31 = (none, .iload 4, []) := by decide +kernel
theorem r_Picture_takeKind_33 : P_Picture_takeKind 33 = (none, .invokevirtual 142, []) := by decide +kernel
theorem r_Picture_takeKind_36 : P_Picture_takeKind 36 = (none, .ifCond .eq 28, [64]) := by decide +kernel
theorem r_Picture_takeKind_39 : P_Picture_takeKind 39 = (none, .iload 5, []) := by decide +kernel
theorem r_Picture_takeKind_41 : P_Picture_takeKind 41 = (none, .ifCond .lt 23, [64]) := by decide +kernel
theorem r_Picture_takeKind_44 : P_Picture_takeKind 44 = (none, .iload 5, []) := by decide +kernel
theorem r_Picture_takeKind_46 : P_Picture_takeKind 46 = (none, .bipush 12, []) := by decide +kernel
theorem r_Picture_takeKind_48 : P_Picture_takeKind 48 = (none, .if_icmp .gt 16, [64]) := by decide +kernel
theorem r_Picture_takeKind_51 : P_Picture_takeKind 51 = (none, .aload_n 1, []) := by decide +kernel
theorem r_Picture_takeKind_52 : P_Picture_takeKind 52 = (none, .iload_n 2, []) := by decide +kernel
theorem r_Picture_takeKind_53 : P_Picture_takeKind 53 = (none, .iconst 4, []) := by decide +kernel
theorem r_Picture_takeKind_54 : P_Picture_takeKind 54 = (none, .iadd, []) := by decide +kernel
theorem r_Picture_takeKind_55 : P_Picture_takeKind 55 = (none, .iload 5, []) := by decide +kernel
theorem r_Picture_takeKind_57 : P_Picture_takeKind 57 = (none, .iadd, []) := by decide +kernel
theorem r_Picture_takeKind_58 : P_Picture_takeKind 58 = (none, .invokevirtual 146, []) := by decide +kernel
theorem r_Picture_takeKind_61 : P_Picture_takeKind 61 = (none, .ifCond .ne 5, [66]) := by decide +kernel
theorem r_Picture_takeKind_64 : P_Picture_takeKind 64 = (none, .iconst 0, []) := by decide +kernel
theorem r_Picture_takeKind_65 : P_Picture_takeKind 65 = (none, .ireturn, []) := by decide +kernel
theorem r_Picture_takeKind_66 : P_Picture_takeKind 66 = (none, .iconst 0, []) := by decide +kernel
theorem r_Picture_takeKind_67 : P_Picture_takeKind 67 = (none, .istore 6, []) := by decide +kernel
theorem r_Picture_takeKind_69 : P_Picture_takeKind 69 = (some [0, 1, 2, 3, 4, 5, 6], .iload 6, []) := by decide +kernel
theorem r_Picture_takeKind_71 : P_Picture_takeKind 71 = (none, .iload 5, []) := by decide +kernel
theorem r_Picture_takeKind_73 : P_Picture_takeKind 73 = (none, .if_icmp .ge 27, [100]) := by decide +kernel
theorem r_Picture_takeKind_76 : P_Picture_takeKind 76 = (none, .aload_n 1, []) := by decide +kernel
theorem r_Picture_takeKind_77 : P_Picture_takeKind 77 = (none, .iload_n 2, []) := by decide +kernel
theorem r_Picture_takeKind_78 : P_Picture_takeKind 78 = (none, .iconst 4, []) := by decide +kernel
theorem r_Picture_takeKind_79 : P_Picture_takeKind 79 = (none, .iadd, []) := by decide +kernel
theorem r_Picture_takeKind_80 : P_Picture_takeKind 80 = (none, .iload 6, []) := by decide +kernel
theorem r_Picture_takeKind_82 : P_Picture_takeKind 82 = (none, .iadd, []) := by decide +kernel
theorem r_Picture_takeKind_83 : P_Picture_takeKind 83 = (none, .invokevirtual 116, []) := by decide +kernel
theorem r_Picture_takeKind_86 : P_Picture_takeKind 86 = (none, .invokestatic 150, []) := by decide +kernel
theorem r_Picture_takeKind_89 : P_Picture_takeKind 89 = (none, .ifCond .ne 5, [94]) := by decide +kernel
theorem r_Picture_takeKind_92 : P_Picture_takeKind 92 = (none, .iconst 0, []) := by decide +kernel
theorem r_Picture_takeKind_93 : P_Picture_takeKind 93 = (none, .ireturn, []) := by decide +kernel
theorem r_Picture_takeKind_94 : P_Picture_takeKind 94 = (none, .iinc 6 1, []) := by decide +kernel
theorem r_Picture_takeKind_97 : P_Picture_takeKind 97 = (none, .goto (-28), [69]) := by decide +kernel
theorem r_Picture_takeKind_100 : P_Picture_takeKind 100 = (none, .aload_n 0, []) := by decide +kernel
theorem r_Picture_takeKind_101 : P_Picture_takeKind 101 = (none, .getfield 12, []) := by decide +kernel
theorem r_Picture_takeKind_104 : P_Picture_takeKind 104 = (none, .iload_n 3, []) := by decide +kernel
theorem r_Picture_takeKind_105 : P_Picture_takeKind 105 = (none, .iload 4, []) := by decide +kernel
theorem r_Picture_takeKind_107 : P_Picture_takeKind 107 = (none, .invokevirtual 153, []) := by decide +kernel
theorem r_Picture_takeKind_110 : P_Picture_takeKind 110 = (none, .iconst 0, []) := by decide +kernel
theorem r_Picture_takeKind_111 : P_Picture_takeKind 111 = (none, .istore 6, []) := by decide +kernel
theorem r_Picture_takeKind_113 : P_Picture_takeKind 113 = (some [0, 1, 2, 3, 4, 5, 6], .iload 6, []) := by decide +kernel
theorem r_Picture_takeKind_115 : P_Picture_takeKind 115 = (none, .iload 5, []) := by decide +kernel
theorem r_Picture_takeKind_117 : P_Picture_takeKind 117 = (none, .if_icmp .ge 27, [144]) := by decide +kernel
theorem r_Picture_takeKind_120 : P_Picture_takeKind 120 = (none, .aload_n 0, []) := by decide +kernel
theorem r_Picture_takeKind_121 : P_Picture_takeKind 121 = (none, .getfield 12, []) := by decide +kernel
theorem r_Picture_takeKind_124 : P_Picture_takeKind 124 = (none, .iload_n 3, []) := by decide +kernel
theorem r_Picture_takeKind_125 : P_Picture_takeKind 125 = (none, .aload_n 1, []) := by decide +kernel
theorem r_Picture_takeKind_126 : P_Picture_takeKind 126 = (none, .iload_n 2, []) := by decide +kernel
theorem r_Picture_takeKind_127 : P_Picture_takeKind 127 = (none, .iconst 4, []) := by decide +kernel
theorem r_Picture_takeKind_128 : P_Picture_takeKind 128 = (none, .iadd, []) := by decide +kernel
theorem r_Picture_takeKind_129 : P_Picture_takeKind 129 = (none, .iload 6, []) := by decide +kernel
theorem r_Picture_takeKind_131 : P_Picture_takeKind 131 = (none, .iadd, []) := by decide +kernel
theorem r_Picture_takeKind_132 : P_Picture_takeKind 132 = (none, .invokevirtual 116, []) := by decide +kernel
theorem r_Picture_takeKind_135 : P_Picture_takeKind 135 = (none, .invokevirtual 156, []) := by decide +kernel
theorem r_Picture_takeKind_138 : P_Picture_takeKind 138 = (none, .iinc 6 1, []) := by decide +kernel
theorem r_Picture_takeKind_141 : P_Picture_takeKind 141 = (none, .goto (-28), [113]) := by decide +kernel
theorem r_Picture_takeKind_144 : P_Picture_takeKind 144 = (none, .iconst 4, []) := by decide +kernel
theorem r_Picture_takeKind_145 : P_Picture_takeKind 145 = (none, .iload 5, []) := by decide +kernel
theorem r_Picture_takeKind_147 : P_Picture_takeKind 147 = (none, .iadd, []) := by decide +kernel
theorem r_Picture_takeKind_148 : P_Picture_takeKind 148 = (none, .ireturn, []) := by decide +kernel
def E_Picture_takeKind : List (Nat × Ent) := [(602, (1, 0, 0, 0, T_PR_isSort)), (464, (2, 0, 0, 0, T_Tape_at)), (568, (3, 1, 0, 0, T_Kinds_admits)), (584, (2, 1, 0, 0, T_Tape_closesAt)), (612, (3, 2, 0, 0, T_Kinds_begin)), (624, (3, 1, 0, 0, T_Kinds_addField))]
def X_Picture_takeKind : Cx := (llk (0, 0, 9) ftX3, llk 99 ntX3, llk none kcX3, llk none klX3, llk dEnt E_Picture_takeKind, 3, 0, false)
theorem xok_Picture_takeKind : Xok RX3 X_Picture_takeKind := xok_of ftX3_ok ntX3_ok kcX3_ok klX3_ok (E := E_Picture_takeKind) (List.forall_mem_cons.mpr ⟨co_X3_602, List.forall_mem_cons.mpr ⟨co_X3_464, List.forall_mem_cons.mpr ⟨co_X3_568, List.forall_mem_cons.mpr ⟨co_X3_584, List.forall_mem_cons.mpr ⟨co_X3_612, List.forall_mem_cons.mpr ⟨co_X3_624, fun _ h => absurd h List.not_mem_nil⟩⟩⟩⟩⟩⟩)
theorem xf_Picture_takeKind_12 : xfl X_Picture_takeKind 12 = (3, 0, 1) := by decide +kernel
theorem xe_Picture_takeKind_602 : xE X_Picture_takeKind (4 * 150 + 2) = (1, 0, 0, 0, T_PR_isSort) := rfl
theorem xe_Picture_takeKind_464 : xE X_Picture_takeKind (4 * 116 + 0) = (2, 0, 0, 0, T_Tape_at) := rfl
theorem xe_Picture_takeKind_568 : xE X_Picture_takeKind (4 * 142 + 0) = (3, 1, 0, 0, T_Kinds_admits) := rfl
theorem xe_Picture_takeKind_584 : xE X_Picture_takeKind (4 * 146 + 0) = (2, 1, 0, 0, T_Tape_closesAt) := rfl
theorem xe_Picture_takeKind_612 : xE X_Picture_takeKind (4 * 153 + 0) = (3, 2, 0, 0, T_Kinds_begin) := rfl
theorem xe_Picture_takeKind_624 : xE X_Picture_takeKind (4 * 156 + 0) = (3, 1, 0, 0, T_Kinds_addField) := rfl
theorem xd_Picture_takeKind : xd X_Picture_takeKind = 3 := rfl
theorem xrb_Picture_takeKind : xrb X_Picture_takeKind = 0 := rfl
theorem xin_Picture_takeKind : xin X_Picture_takeKind = false := rfl
set_option maxHeartbeats 4000000 in
set_option maxRecDepth 100000 in
theorem S_Picture_takeKind : Snd yX3_takeKind cX3_takeKind 7 (some .int) T_Picture_takeKind 3 0 0 := by
  refine snd_of (X := X_Picture_takeKind) (P := P_Picture_takeKind) (tb := tb_Picture_takeKind) (own := RX3) (by decide) rfl rfl (by decide +kernel) xok_Picture_takeKind rfl rk0 (fun h => by first | rfl | cases h) ?_
  intro as M k has hM hT0
  obtain ⟨sz, sl, lay, ρ, σ, τ⟩ := M
  obtain ⟨o, as1, e, hlo, hT1⟩ := mkT_r hT0
  clear hT0
  subst e
  obtain ⟨t, as2, e, hT2⟩ := pR_x hT1
  clear hT1
  subst e
  obtain ⟨p, as3, e, hT3⟩ := pI_x hT2
  clear hT2
  subst e
  obtain ⟨e, hT⟩ := hT3
  subst e
  replace hlo : lay o = (13, 0) := hlo
  have r_p : -2147483648 ≤ p ∧ p ≤ 2147483647 := has (vI p) (by simp)
  clear has
  replace hM : ∀ a i, -2147483648 ≤ σ a i ∧ σ a i ≤ 2147483647 := hM
  replace hT : TF_Picture_takeKind o t p sz sl lay ρ σ τ k := hT
  unfold TF_Picture_takeKind at hT
  obtain ⟨hP, hTp, hl, hto2, hW, hp, kk, A, hkk, hKd, hKW, hKR, hA, hc6, h0, h1⟩ := hT
  have hU : ∀ x, 0 ≤ tU σ t x ∧ tU σ t x < 256 := tU_R σ t
  obtain ⟨J, hJd⟩ : ∃ J : Nat → List AV → Mm → Prop, J = (fun c vs M1 => (c = 69 ∧ ∃ i : Int, (p + 3 < σ t 1) ∧ (tU σ t (p + 1) < 40 ∧ A (tU σ t (p + 1)) < 0 ∧ (tU σ t (p + 2) = 255 ∨ (tU σ t (p + 2) < 40 ∧ 0 ≤ A (tU σ t (p + 2))))) ∧ tU σ t (p + 3) ≤ 12 ∧ isE (tU σ t) (σ t 1) (p + 4 + tU σ t (p + 3)) ∧ (0 ≤ i ∧ i ≤ tU σ t (p + 3)) ∧ (∀ j, 0 ≤ j ∧ j < i → tU σ t (p + 4 + j) ≤ 5) ∧ vs = [vR o, vR t, vI p, vI (tU σ t (p + 1)), vI (tU σ t (p + 2)), vI (tU σ t (p + 3)), vI i] ∧ M1 = (sz, sl, lay, ρ, σ, τ)) ∨ (c = 113 ∧ ∃ (i : Nat) (σ1 : Nat → Int → Int), AccK (tU σ t) (σ t 1) A p ∧ i ≤ tU σ t (p + 3) ∧ KBg σ σ1 kk (tU σ t) (tU σ t (p + 1)) (if tU σ t (p + 2) = 255 then -1 else tU σ t (p + 2)) p (fL (tU σ t) A (ch (tU σ t) A (tU σ t (p + 2)))) (wL (tU σ t) A (ch (tU σ t) A (tU σ t (p + 2)))) i ∧ vs = [vR o, vR t, vI p, vI (tU σ t (p + 1)), vI (tU σ t (p + 2)), vI (tU σ t (p + 3)), vI i] ∧ M1 = (sz, sl, lay, ρ, σ1, τ))) := ⟨_, rfl⟩
  obtain ⟨μ, hμ⟩ : ∃ μ : Nat → List AV → Mm → Nat, μ = (fun c vs _ => if c = 69 then (1000 - gI (vs.getD 6 vN)).toNat else (500 - gI (vs.getD 6 vN)).toNat) := ⟨_, rfl⟩
  refine ⟨Nat.le_of_ble_eq_true rfl, J, μ, 92, ?_, ?_⟩
  · obtain ⟨ph, pp0, pp1, pp2, pp3, pp4, pp5, pp6, pp7, pq0, pq1, pq2, pq3, pq4, pq5, pq6, pq7⟩ := (show LPicture lay ρ _ from hP)
    obtain ⟨kh, kp0, kp1, kp2, kp3, kp4, kp5, kq0, kq1, kq2, kq3, kq4, kq5⟩ := (show LKinds lay ρ _ from hKd)
    obtain ⟨qh, qp0, qq0⟩ := (show LTape lay ρ _ from hTp)
    unfold wps
    simp only [si_iload_n0, si_iload_n1, si_iload_n2, si_iload_n3, si_iload, si_lload_n0, si_lload_n1, si_lload_n2, si_lload_n3, si_lload, si_aload_n0, si_aload_n1, si_aload_n2, si_aload_n3, si_aload, si_istore_n0, si_istore_n1, si_istore_n2, si_istore_n3, si_istore, si_astore_n0, si_astore_n1, si_astore_n2, si_astore_n3, si_astore, si_lstore_n0, si_lstore_n1, si_lstore_n2, si_lstore_n3, si_lstore, si_iconst, si_bipush, si_sipush, si_ldc, si_ldc2_w, si_lconst0, si_lconst1, si_aconst_null, si_iinc, si_dup, si_dup2, si_iadd, si_isub, si_imul, si_idiv, si_irem, si_iand, si_ior, si_ishl, si_ishr, si_ladd, si_lmul, si_lor, si_lxor, si_lshl, si_lushr, si_lcmp, si_i2b, si_i2l, si_l2i, si_icmp_eq, si_icmp_ne, si_icmp_lt, si_icmp_ge, si_icmp_gt, si_icmp_le, si_if_eq, si_if_ne, si_if_lt, si_if_ge, si_if_gt, si_if_le, si_ifnull, si_ifnonnull, si_goto, si_tableswitch, si_lookupswitch, si_getfield, si_putfield, si_getstatic, si_iaload, si_baload, si_laload, si_aaload, si_iastore, si_bastore, si_lastore, si_aastore, si_arraylength, si_new, si_newarray, si_anewarray, si_invokevirtual, si_invokespecial, si_invokestatic, si_ireturn, si_lreturn, si_areturn, si_return_, pI_e, pL_e, pR_e, pA_r, pA_n, pN_n, pN_r, oI_e, oL_e, oA_r, oA_n, lget_e, lrm1_0, lrm2_0, lrm1_i, lrm1_r, lrm1_n, lrm1_l, lrm2_i, lrm2_r, lrm2_n, lrm2_l, popN_0, popN_s, acat_i, acat_l, acat_r, acat_n, stw_0, stw_s, psh_s, psh_n, wgf_r, wgf_i, wgf_b, wgf_n, wgf_m, wpf_i, wpf_r, wpf_b, wnew_e, callE_e, rbk_0, rbk_1, tsw_0, tsw_s, lsw_0, lsw_s, wp_s, wq_t, wq_f, oV_e, pick_0, pick_s, oZ_e, oY_e, r_Picture_takeKind_0, r_Picture_takeKind_1, r_Picture_takeKind_2, r_Picture_takeKind_3, r_Picture_takeKind_4, r_Picture_takeKind_7, r_Picture_takeKind_8, r_Picture_takeKind_9, r_Picture_takeKind_10, r_Picture_takeKind_11, r_Picture_takeKind_12, r_Picture_takeKind_15, r_Picture_takeKind_17, r_Picture_takeKind_18, r_Picture_takeKind_19, r_Picture_takeKind_20, r_Picture_takeKind_21, r_Picture_takeKind_24, r_Picture_takeKind_26, r_Picture_takeKind_27, r_Picture_takeKind_30, r_Picture_takeKind_31, r_Picture_takeKind_33, r_Picture_takeKind_36, r_Picture_takeKind_39, r_Picture_takeKind_41, r_Picture_takeKind_44, r_Picture_takeKind_46, r_Picture_takeKind_48, r_Picture_takeKind_51, r_Picture_takeKind_52, r_Picture_takeKind_53, r_Picture_takeKind_54, r_Picture_takeKind_55, r_Picture_takeKind_57, r_Picture_takeKind_58, r_Picture_takeKind_61, r_Picture_takeKind_64, r_Picture_takeKind_65, r_Picture_takeKind_66, r_Picture_takeKind_67, r_Picture_takeKind_69, r_Picture_takeKind_71, r_Picture_takeKind_73, r_Picture_takeKind_76, r_Picture_takeKind_77, r_Picture_takeKind_78, r_Picture_takeKind_79, r_Picture_takeKind_80, r_Picture_takeKind_82, r_Picture_takeKind_83, r_Picture_takeKind_86, r_Picture_takeKind_89, r_Picture_takeKind_92, r_Picture_takeKind_93, r_Picture_takeKind_94, r_Picture_takeKind_97, r_Picture_takeKind_100, r_Picture_takeKind_101, r_Picture_takeKind_104, r_Picture_takeKind_105, r_Picture_takeKind_107, r_Picture_takeKind_110, r_Picture_takeKind_111, r_Picture_takeKind_113, r_Picture_takeKind_115, r_Picture_takeKind_117, r_Picture_takeKind_120, r_Picture_takeKind_121, r_Picture_takeKind_124, r_Picture_takeKind_125, r_Picture_takeKind_126, r_Picture_takeKind_127, r_Picture_takeKind_128, r_Picture_takeKind_129, r_Picture_takeKind_131, r_Picture_takeKind_132, r_Picture_takeKind_135, r_Picture_takeKind_138, r_Picture_takeKind_141, r_Picture_takeKind_144, r_Picture_takeKind_145, r_Picture_takeKind_147, r_Picture_takeKind_148, xf_Picture_takeKind_12, xe_Picture_takeKind_602, xe_Picture_takeKind_464, xe_Picture_takeKind_568, xe_Picture_takeKind_584, xe_Picture_takeKind_612, xe_Picture_takeKind_624, xd_Picture_takeKind, xrb_Picture_takeKind, xin_Picture_takeKind, T_PR_isSort_e, TF_PR_isSort, T_Tape_at_e, TF_Tape_at, T_Kinds_admits_e, TF_Kinds_admits, T_Tape_closesAt_e, TF_Tape_closesAt, T_Kinds_begin_e, TF_Kinds_begin, T_Kinds_addField_e, TF_Kinds_addField, hkk, ph, pp0, pp1, pp2, pp3, pp4, pp5, pp6, pp7, pq0, pq1, pq2, pq3, pq4, pq5, pq6, pq7, kh, kp0, kp1, kp2, kp3, kp4, kp5, kq0, kq1, kq2, kq3, kq4, kq5, qh, qp0, qq0, Nat.reduceAdd, Nat.reduceMul, Nat.reduceEqDiff, reduceIte, Int.reduceNeg, Int.reduceLE, Int.reduceLT, Int.reduceAdd, Int.reduceSub, Int.reduceToNat, true_and, and_true, inR_e, Nat.reduceLT, Nat.reduceLeDiff, reduceCtorEq, Nat.add_zero, Nat.zero_add, or_false, false_or, or_true, true_or, not_true_eq_false, not_false_eq_true, Classical.not_not, Nat.add_eq_zero_iff, and_false, false_and, Int.reduceEq, List.mem_cons, List.not_mem_nil, forall_eq_or_imp, forall_eq, false_implies, implies_true, forall_const, aargs_0, aargs_i, aargs_r, aargs_l, aargs_n, nfT_e, eq_self, and_self, Nat.le_refl, fu_s, fu_fu, iu_iu, iu_s, fu_am, fu_a0, fu_0a, iu_l, Nat.reduceBEq, Int.reduceBEq, T_objInit_e]
    clear pp0 pp1 pp2 pp3 pp4 pp5 pp6 pp7 kp0 kp1 kp2 kp3 kp4 kp5 qp0
    have u1 := hU (p + 1)
    have u2 := hU (p + 2)
    have u3 := hU (p + 3)
    by_cases h3 : p + 3 < σ t 1
    · rw [← tU_i (show 0 ≤ p + 1 ∧ p + 1 < σ t 1 by omega), ← tU_i (show 0 ≤ p + 2 ∧ p + 2 < σ t 1 by omega), ← tU_i (show 0 ≤ p + 3 ∧ p + 3 < σ t 1 by omega)]
      rw [hKR.adm u1.1 u2.1, isE_t (show 0 ≤ p + 4 + tU σ t (p + 3) by omega)]
      refine ⟨by omega, hTp, hl, fun _ => ⟨by omega, hTp, hl, fun _ => ⟨by omega, hTp, hl, fun _ => ⟨by omega, hKd, fun a => ⟨fun b => by omega, fun b => ⟨fun c => h0 (fun z => by have := z.2.2.2.2.1; omega), fun c => ⟨by omega, by omega, hTp, hl, fun d => ?_, fun d => h0 (fun z => d z.2.2.2.2.2.2.1)⟩⟩⟩, fun a => h0 (fun z => a ⟨z.2.1, z.2.2.1, z.2.2.2.1⟩)⟩, fun z => absurd z (by omega)⟩, fun z => absurd z (by omega)⟩, fun z => absurd z (by omega)⟩
      rw [hJd]
      exact Or.inl ⟨rfl, 0, h3, a, by omega, d, by omega, fun j hj => by omega, rfl, rfl⟩
    · have h0 := h0 (fun z => by have := z.1; omega)
      repeat' (first | assumption | intro _ | apply And.intro)
      all_goals omega
  · intro cp vs M1 hvs hM1 hlen hJ
    rw [hJd] at hJ
    have u1 := hU (p + 1)
    have u2 := hU (p + 2)
    have u3 := hU (p + 3)
    rcases hJ with ⟨rfl, i, g1, g2, g3, g4, g5, g6, rfl, rfl⟩ | ⟨rfl, i, σ1, g1, g2, g3, rfl, rfl⟩
    · have hle : p + 4 + tU σ t (p + 3) ≤ σ t 1 := by
        rcases g4 with z | z <;> omega
      (obtain ⟨ph, pp0, pp1, pp2, pp3, pp4, pp5, pp6, pp7, pq0, pq1, pq2, pq3, pq4, pq5, pq6, pq7⟩ := (show LPicture lay ρ _ from hP); obtain ⟨kh, kp0, kp1, kp2, kp3, kp4, kp5, kq0, kq1, kq2, kq3, kq4, kq5⟩ := (show LKinds lay ρ _ from hKd); obtain ⟨qh, qp0, qq0⟩ := (show LTape lay ρ _ from hTp); unfold wps; simp only [Option.getD_some, List.zip_cons_cons, List.zip_nil_left, List.zip_nil_right, List.zip_nil_right, si_iload_n0, si_iload_n1, si_iload_n2, si_iload_n3, si_iload, si_lload_n0, si_lload_n1, si_lload_n2, si_lload_n3, si_lload, si_aload_n0, si_aload_n1, si_aload_n2, si_aload_n3, si_aload, si_istore_n0, si_istore_n1, si_istore_n2, si_istore_n3, si_istore, si_astore_n0, si_astore_n1, si_astore_n2, si_astore_n3, si_astore, si_lstore_n0, si_lstore_n1, si_lstore_n2, si_lstore_n3, si_lstore, si_iconst, si_bipush, si_sipush, si_ldc, si_ldc2_w, si_lconst0, si_lconst1, si_aconst_null, si_iinc, si_dup, si_dup2, si_iadd, si_isub, si_imul, si_idiv, si_irem, si_iand, si_ior, si_ishl, si_ishr, si_ladd, si_lmul, si_lor, si_lxor, si_lshl, si_lushr, si_lcmp, si_i2b, si_i2l, si_l2i, si_icmp_eq, si_icmp_ne, si_icmp_lt, si_icmp_ge, si_icmp_gt, si_icmp_le, si_if_eq, si_if_ne, si_if_lt, si_if_ge, si_if_gt, si_if_le, si_ifnull, si_ifnonnull, si_goto, si_tableswitch, si_lookupswitch, si_getfield, si_putfield, si_getstatic, si_iaload, si_baload, si_laload, si_aaload, si_iastore, si_bastore, si_lastore, si_aastore, si_arraylength, si_new, si_newarray, si_anewarray, si_invokevirtual, si_invokespecial, si_invokestatic, si_ireturn, si_lreturn, si_areturn, si_return_, pI_e, pL_e, pR_e, pA_r, pA_n, pN_n, pN_r, oI_e, oL_e, oA_r, oA_n, lget_e, lrm1_0, lrm2_0, lrm1_i, lrm1_r, lrm1_n, lrm1_l, lrm2_i, lrm2_r, lrm2_n, lrm2_l, popN_0, popN_s, acat_i, acat_l, acat_r, acat_n, stw_0, stw_s, psh_s, psh_n, wgf_r, wgf_i, wgf_b, wgf_n, wgf_m, wpf_i, wpf_r, wpf_b, wnew_e, callE_e, rbk_0, rbk_1, tsw_0, tsw_s, lsw_0, lsw_s, wp_s, wq_t, wq_f, oV_e, pick_0, pick_s, oZ_e, oY_e, r_Picture_takeKind_0, r_Picture_takeKind_1, r_Picture_takeKind_2, r_Picture_takeKind_3, r_Picture_takeKind_4, r_Picture_takeKind_7, r_Picture_takeKind_8, r_Picture_takeKind_9, r_Picture_takeKind_10, r_Picture_takeKind_11, r_Picture_takeKind_12, r_Picture_takeKind_15, r_Picture_takeKind_17, r_Picture_takeKind_18, r_Picture_takeKind_19, r_Picture_takeKind_20, r_Picture_takeKind_21, r_Picture_takeKind_24, r_Picture_takeKind_26, r_Picture_takeKind_27, r_Picture_takeKind_30, r_Picture_takeKind_31, r_Picture_takeKind_33, r_Picture_takeKind_36, r_Picture_takeKind_39, r_Picture_takeKind_41, r_Picture_takeKind_44, r_Picture_takeKind_46, r_Picture_takeKind_48, r_Picture_takeKind_51, r_Picture_takeKind_52, r_Picture_takeKind_53, r_Picture_takeKind_54, r_Picture_takeKind_55, r_Picture_takeKind_57, r_Picture_takeKind_58, r_Picture_takeKind_61, r_Picture_takeKind_64, r_Picture_takeKind_65, r_Picture_takeKind_66, r_Picture_takeKind_67, r_Picture_takeKind_69, r_Picture_takeKind_71, r_Picture_takeKind_73, r_Picture_takeKind_76, r_Picture_takeKind_77, r_Picture_takeKind_78, r_Picture_takeKind_79, r_Picture_takeKind_80, r_Picture_takeKind_82, r_Picture_takeKind_83, r_Picture_takeKind_86, r_Picture_takeKind_89, r_Picture_takeKind_92, r_Picture_takeKind_93, r_Picture_takeKind_94, r_Picture_takeKind_97, r_Picture_takeKind_100, r_Picture_takeKind_101, r_Picture_takeKind_104, r_Picture_takeKind_105, r_Picture_takeKind_107, r_Picture_takeKind_110, r_Picture_takeKind_111, r_Picture_takeKind_113, r_Picture_takeKind_115, r_Picture_takeKind_117, r_Picture_takeKind_120, r_Picture_takeKind_121, r_Picture_takeKind_124, r_Picture_takeKind_125, r_Picture_takeKind_126, r_Picture_takeKind_127, r_Picture_takeKind_128, r_Picture_takeKind_129, r_Picture_takeKind_131, r_Picture_takeKind_132, r_Picture_takeKind_135, r_Picture_takeKind_138, r_Picture_takeKind_141, r_Picture_takeKind_144, r_Picture_takeKind_145, r_Picture_takeKind_147, r_Picture_takeKind_148, xf_Picture_takeKind_12, xe_Picture_takeKind_602, xe_Picture_takeKind_464, xe_Picture_takeKind_568, xe_Picture_takeKind_584, xe_Picture_takeKind_612, xe_Picture_takeKind_624, xd_Picture_takeKind, xrb_Picture_takeKind, xin_Picture_takeKind, T_PR_isSort_e, TF_PR_isSort, T_Tape_at_e, TF_Tape_at, T_Kinds_admits_e, TF_Kinds_admits, T_Tape_closesAt_e, TF_Tape_closesAt, T_Kinds_begin_e, TF_Kinds_begin, T_Kinds_addField_e, TF_Kinds_addField, hkk, ph, pp0, pp1, pp2, pp3, pp4, pp5, pp6, pp7, pq0, pq1, pq2, pq3, pq4, pq5, pq6, pq7, kh, kp0, kp1, kp2, kp3, kp4, kp5, kq0, kq1, kq2, kq3, kq4, kq5, qh, qp0, qq0, Nat.reduceAdd, Nat.reduceMul, Nat.reduceEqDiff, reduceIte, Int.reduceNeg, Int.reduceLE, Int.reduceLT, Int.reduceAdd, Int.reduceSub, Int.reduceToNat, true_and, and_true, inR_e, Nat.reduceLT, Nat.reduceLeDiff, reduceCtorEq, Nat.add_zero, Nat.zero_add, or_false, false_or, or_true, true_or, not_true_eq_false, not_false_eq_true, Classical.not_not, Nat.add_eq_zero_iff, and_false, false_and, Int.reduceEq, List.mem_cons, List.not_mem_nil, forall_eq_or_imp, forall_eq, false_implies, implies_true, forall_const, aargs_0, aargs_i, aargs_r, aargs_l, aargs_n, nfT_e, eq_self, and_self, Nat.le_refl, fu_s, fu_fu, iu_iu, iu_s, fu_am, fu_a0, fu_0a, iu_l, Nat.reduceBEq, Int.reduceBEq, T_objInit_e]; clear pp0 pp1 pp2 pp3 pp4 pp5 pp6 pp7 kp0 kp1 kp2 kp3 kp4 kp5 qp0)
      have i6 : 0 ≤ p + 4 + i ∧ (¬ tU σ t (p + 3) ≤ i → p + 4 + i < σ t 1) := by omega
      refine ⟨fun h => ⟨by omega, hKd, (hKR.adm u1.1 u2.1).mpr g2, hc6, fun a => ⟨?_, (by rw [hμ]; simp only [gI_e, List.getD_cons_succ, List.getD_cons_zero, Nat.reduceEqDiff, reduceIte]; omega)⟩, fun a => ⟨?_, (by rw [hμ]; simp only [gI_e, List.getD_cons_succ, List.getD_cons_zero, Nat.reduceEqDiff, reduceIte]; omega)⟩⟩, fun h => ⟨by omega, by omega, hTp, hl, fun a => ⟨hW, fun b => ⟨by omega, ?_, (by rw [hμ]; simp only [gI_e, List.getD_cons_succ, List.getD_cons_zero, Nat.reduceEqDiff, reduceIte]; omega)⟩, fun b => h0 (fun z => b ?_)⟩, fun a => absurd a (by omega)⟩⟩
      · rw [hJd]
        refine Or.inr ⟨rfl, 0, _, ⟨by omega, g2.1, g2.2.1, g2.2.2, g3, hle, g4, fun j hj => g6 j (by omega)⟩, by omega, ?_, rfl, rfl⟩
        rw [if_pos a, a, ch_255]
        exact KBg.st
      · rw [hJd]
        refine Or.inr ⟨rfl, 0, _, ⟨by omega, g2.1, g2.2.1, g2.2.2, g3, hle, g4, fun j hj => g6 j (by omega)⟩, by omega, ?_, rfl, rfl⟩
        have k2 : 0 ≤ A (tU σ t (p + 2)) := by
          rcases g2.2.2 with z | z
          · exact absurd z a
          · exact z.2
        obtain ⟨-, -, -, c4, c5, -⟩ := (hKR.1 (tU σ t (p + 2)) (by omega)).2 k2
        rw [if_neg a, c4, c5]
        exact KBg.st
      · rw [hJd]
        rw [← tU_i a] at b
        refine Or.inl ⟨rfl, i + 1, g1, g2, g3, g4, by omega, fun j hj => ?_, rfl, rfl⟩
        by_cases e : j = i
        · rw [e]; omega
        · exact g6 j (by omega)
      · rw [← tU_i a]
        have z1 := z.2.2.2.2.2.2.2 i (by omega)
        have z2 := hU (p + 4 + i)
        omega
    · have et : σ1 t = σ t := g3.1.lo (by omega)
      have et1 : σ1 (t + 1) = σ (t + 1) := g3.1.lo (by omega)
      have kp : kn5 A (tU σ t (p + 2)) := by
        rcases g1.2.2.2.1 with z | z
        · exact Or.inl z
        · exact Or.inr ⟨by omega, z.2⟩
      have bf := fL_b hKW kp
      have bw := wL_R hKW kp
      have bs := sumZ_R (f := fun j => wd (tU σ t (p + 4 + j))) (c := 8) (fun j => wd_R _) i
      have g12 := g1.2.2.2.2.1
      have gle := g1.2.2.2.2.2.1
      obtain ⟨a1, a2, a3, a4, a5⟩ := g3.2.2.2.2.1
      (obtain ⟨ph, pp0, pp1, pp2, pp3, pp4, pp5, pp6, pp7, pq0, pq1, pq2, pq3, pq4, pq5, pq6, pq7⟩ := (show LPicture lay ρ _ from hP); obtain ⟨kh, kp0, kp1, kp2, kp3, kp4, kp5, kq0, kq1, kq2, kq3, kq4, kq5⟩ := (show LKinds lay ρ _ from hKd); obtain ⟨qh, qp0, qq0⟩ := (show LTape lay ρ _ from hTp); unfold wps; simp only [Option.getD_some, List.zip_cons_cons, List.zip_nil_left, List.zip_nil_right, List.zip_nil_right, si_iload_n0, si_iload_n1, si_iload_n2, si_iload_n3, si_iload, si_lload_n0, si_lload_n1, si_lload_n2, si_lload_n3, si_lload, si_aload_n0, si_aload_n1, si_aload_n2, si_aload_n3, si_aload, si_istore_n0, si_istore_n1, si_istore_n2, si_istore_n3, si_istore, si_astore_n0, si_astore_n1, si_astore_n2, si_astore_n3, si_astore, si_lstore_n0, si_lstore_n1, si_lstore_n2, si_lstore_n3, si_lstore, si_iconst, si_bipush, si_sipush, si_ldc, si_ldc2_w, si_lconst0, si_lconst1, si_aconst_null, si_iinc, si_dup, si_dup2, si_iadd, si_isub, si_imul, si_idiv, si_irem, si_iand, si_ior, si_ishl, si_ishr, si_ladd, si_lmul, si_lor, si_lxor, si_lshl, si_lushr, si_lcmp, si_i2b, si_i2l, si_l2i, si_icmp_eq, si_icmp_ne, si_icmp_lt, si_icmp_ge, si_icmp_gt, si_icmp_le, si_if_eq, si_if_ne, si_if_lt, si_if_ge, si_if_gt, si_if_le, si_ifnull, si_ifnonnull, si_goto, si_tableswitch, si_lookupswitch, si_getfield, si_putfield, si_getstatic, si_iaload, si_baload, si_laload, si_aaload, si_iastore, si_bastore, si_lastore, si_aastore, si_arraylength, si_new, si_newarray, si_anewarray, si_invokevirtual, si_invokespecial, si_invokestatic, si_ireturn, si_lreturn, si_areturn, si_return_, pI_e, pL_e, pR_e, pA_r, pA_n, pN_n, pN_r, oI_e, oL_e, oA_r, oA_n, lget_e, lrm1_0, lrm2_0, lrm1_i, lrm1_r, lrm1_n, lrm1_l, lrm2_i, lrm2_r, lrm2_n, lrm2_l, popN_0, popN_s, acat_i, acat_l, acat_r, acat_n, stw_0, stw_s, psh_s, psh_n, wgf_r, wgf_i, wgf_b, wgf_n, wgf_m, wpf_i, wpf_r, wpf_b, wnew_e, callE_e, rbk_0, rbk_1, tsw_0, tsw_s, lsw_0, lsw_s, wp_s, wq_t, wq_f, oV_e, pick_0, pick_s, oZ_e, oY_e, r_Picture_takeKind_0, r_Picture_takeKind_1, r_Picture_takeKind_2, r_Picture_takeKind_3, r_Picture_takeKind_4, r_Picture_takeKind_7, r_Picture_takeKind_8, r_Picture_takeKind_9, r_Picture_takeKind_10, r_Picture_takeKind_11, r_Picture_takeKind_12, r_Picture_takeKind_15, r_Picture_takeKind_17, r_Picture_takeKind_18, r_Picture_takeKind_19, r_Picture_takeKind_20, r_Picture_takeKind_21, r_Picture_takeKind_24, r_Picture_takeKind_26, r_Picture_takeKind_27, r_Picture_takeKind_30, r_Picture_takeKind_31, r_Picture_takeKind_33, r_Picture_takeKind_36, r_Picture_takeKind_39, r_Picture_takeKind_41, r_Picture_takeKind_44, r_Picture_takeKind_46, r_Picture_takeKind_48, r_Picture_takeKind_51, r_Picture_takeKind_52, r_Picture_takeKind_53, r_Picture_takeKind_54, r_Picture_takeKind_55, r_Picture_takeKind_57, r_Picture_takeKind_58, r_Picture_takeKind_61, r_Picture_takeKind_64, r_Picture_takeKind_65, r_Picture_takeKind_66, r_Picture_takeKind_67, r_Picture_takeKind_69, r_Picture_takeKind_71, r_Picture_takeKind_73, r_Picture_takeKind_76, r_Picture_takeKind_77, r_Picture_takeKind_78, r_Picture_takeKind_79, r_Picture_takeKind_80, r_Picture_takeKind_82, r_Picture_takeKind_83, r_Picture_takeKind_86, r_Picture_takeKind_89, r_Picture_takeKind_92, r_Picture_takeKind_93, r_Picture_takeKind_94, r_Picture_takeKind_97, r_Picture_takeKind_100, r_Picture_takeKind_101, r_Picture_takeKind_104, r_Picture_takeKind_105, r_Picture_takeKind_107, r_Picture_takeKind_110, r_Picture_takeKind_111, r_Picture_takeKind_113, r_Picture_takeKind_115, r_Picture_takeKind_117, r_Picture_takeKind_120, r_Picture_takeKind_121, r_Picture_takeKind_124, r_Picture_takeKind_125, r_Picture_takeKind_126, r_Picture_takeKind_127, r_Picture_takeKind_128, r_Picture_takeKind_129, r_Picture_takeKind_131, r_Picture_takeKind_132, r_Picture_takeKind_135, r_Picture_takeKind_138, r_Picture_takeKind_141, r_Picture_takeKind_144, r_Picture_takeKind_145, r_Picture_takeKind_147, r_Picture_takeKind_148, xf_Picture_takeKind_12, xe_Picture_takeKind_602, xe_Picture_takeKind_464, xe_Picture_takeKind_568, xe_Picture_takeKind_584, xe_Picture_takeKind_612, xe_Picture_takeKind_624, xd_Picture_takeKind, xrb_Picture_takeKind, xin_Picture_takeKind, T_PR_isSort_e, TF_PR_isSort, T_Tape_at_e, TF_Tape_at, T_Kinds_admits_e, TF_Kinds_admits, T_Tape_closesAt_e, TF_Tape_closesAt, T_Kinds_begin_e, TF_Kinds_begin, T_Kinds_addField_e, TF_Kinds_addField, hkk, ph, pp0, pp1, pp2, pp3, pp4, pp5, pp6, pp7, pq0, pq1, pq2, pq3, pq4, pq5, pq6, pq7, kh, kp0, kp1, kp2, kp3, kp4, kp5, kq0, kq1, kq2, kq3, kq4, kq5, qh, qp0, qq0, Nat.reduceAdd, Nat.reduceMul, Nat.reduceEqDiff, reduceIte, Int.reduceNeg, Int.reduceLE, Int.reduceLT, Int.reduceAdd, Int.reduceSub, Int.reduceToNat, true_and, and_true, inR_e, Nat.reduceLT, Nat.reduceLeDiff, reduceCtorEq, Nat.add_zero, Nat.zero_add, or_false, false_or, or_true, true_or, not_true_eq_false, not_false_eq_true, Classical.not_not, Nat.add_eq_zero_iff, and_false, false_and, Int.reduceEq, List.mem_cons, List.not_mem_nil, forall_eq_or_imp, forall_eq, false_implies, implies_true, forall_const, aargs_0, aargs_i, aargs_r, aargs_l, aargs_n, nfT_e, eq_self, and_self, Nat.le_refl, fu_s, fu_fu, iu_iu, iu_s, fu_am, fu_a0, fu_0a, iu_l, Nat.reduceBEq, Int.reduceBEq, T_objInit_e]; clear pp0 pp1 pp2 pp3 pp4 pp5 pp6 pp7 kp0 kp1 kp2 kp3 kp4 kp5 qp0)
      refine ⟨fun h => ⟨by omega, ?_⟩, fun h => ⟨by omega, by omega, by omega, hTp, by rw [et]; exact hl, fun a => ?_, fun a => absurd a (by rw [et]; omega)⟩⟩
      · have hKW2 := hKW.add hl.2 hp.1 hA g1
        exact h1 g1 σ1 g3.1 (g3.kr hKW hKW2 hKR g1 (by omega) rfl rfl rfl hp.1) (by rw [g3.2.1, iu_s])
      · rw [et] at a
        rw [et1, ← tU_i a]
        have u5 := g1.2.2.2.2.2.2.2 i (by omega)
        have u6 := hU (p + 4 + i)
        refine ⟨hKd, hW.kd g3.1 hKd, ⟨u1.1, g1.2.1, by omega⟩, by omega, by omega, by omega, by omega, by omega, ?_, (by rw [hμ]; simp only [gI_e, List.getD_cons_succ, List.getD_cons_zero, Nat.reduceEqDiff, reduceIte]; omega)⟩
        rw [hJd]
        exact Or.inr ⟨rfl, i + 1, _, g1, by omega, g3.fld (by omega), rfl, rfl⟩

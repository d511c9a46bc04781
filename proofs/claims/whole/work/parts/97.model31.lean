/-- nothing has changed but what is scratch, and the way -/
def QW (σ σ2 : Nat → Int → Int) (o : Nat) : Prop := (∀ x, ¬ x = o → ¬ (o + 18 ≤ x ∧ x ≤ o + 25) → σ2 x = σ x) ∧ ∀ j, ¬ j = 23 → σ2 o j = σ o j
section
variable {σ σ1 σ2 : Nat → Int → Int} {o : Nat} {p : Int} {U : Int → Int} {len : Int} {st : Nat → Int → Int}
theorem QF.qw (h : QF σ σ1 o) : QW σ σ1 o := ⟨fun x _ h2 => h x (by omega) (by omega), fun j _ => by rw [h o (by omega) (by omega)]⟩
theorem QW.mr (h : QW σ σ1 o) (g : MR σ o p U len st) : MR σ1 o p U len st := g.cg (fun j _ _ => h.1 _ (by omega) (by omega)) (h.1 _ (by omega) (by omega))
theorem QW.up {b : Nat} {f : Int → Int} (h : QW σ σ1 o) (hb : o + 18 ≤ b ∧ b ≤ o + 25) : QW σ (fu σ1 b f) o := ⟨fun x h1 h2 => (fu_n (by omega)).trans (h.1 x h1 h2), fun j hj => by rw [fu_n (by omega)]; exact h.2 j hj⟩
theorem QW.fdw {f : Int → Int} {v : Int} (h : QW σ σ1 o) (e : f = σ1 o) : QW σ (fu σ1 o (iu f 23 v)) o := ⟨fun x h1 h2 => (fu_n h1).trans (h.1 x h1 h2), fun j hj => by rw [fu_s, iu_n hj, e]; exact h.2 j hj⟩
theorem QW.fd {v : Int} (h : QW σ σ1 o) : QW σ (fu σ1 o (iu (σ1 o) 23 v)) o := ⟨fun x h1 h2 => (fu_n h1).trans (h.1 x h1 h2), fun j hj => by rw [fu_s, iu_n hj]; exact h.2 j hj⟩
end
/-- the best root so far -/
def BgI (f num : Int → Int) (R : Int → Prop) (b : Int) : Prop := (b = -1 ∧ ∀ v, R v → f v < 0) ∨ (R b ∧ (0 ≤ b ∧ 0 ≤ f b) ∧ ∀ v, R v → 0 ≤ f v → f b < f v ∨ (f b = f v ∧ num b ≤ num v))
section
variable {f num : Int → Int} {R S : Int → Prop} {b m : Int}
theorem BgI.c (h : BgI f num R b) (e : ∀ v, R v ↔ S v) : BgI f num S b := by
  rcases h with ⟨h1, h2⟩ | ⟨h1, h2, h3⟩
  · exact Or.inl ⟨h1, fun v hv => h2 v ((e v).mpr hv)⟩
  · exact Or.inr ⟨(e b).mp h1, h2, fun v hv => h3 v ((e v).mpr hv)⟩
theorem BgI.keep (h : BgI f num R b) (e : ∀ v, S v → R v ∨ v = m) (e2 : ∀ v, R v → S v) (g : S m → f m < 0 ∨ (0 ≤ b ∧ (f b < f m ∨ (f b = f m ∧ num b ≤ num m)))) : BgI f num S b := by
  rcases h with ⟨h1, h2⟩ | ⟨h1, h2, h3⟩
  · refine Or.inl ⟨h1, fun v hv => ?_⟩
    rcases e v hv with z | z
    · exact h2 v z
    · rw [z] at hv ⊢
      rcases g hv with y | y
      · exact y
      · omega
  · refine Or.inr ⟨e2 b h1, h2, fun v hv h0 => ?_⟩
    rcases e v hv with z | z
    · exact h3 v z h0
    · rw [z] at hv h0 ⊢
      rcases g hv with y | y
      · omega
      · exact y.2
theorem BgI.take (h : BgI f num R b) (e : ∀ v, S v → R v ∨ v = m) (hm : S m) (h0 : 0 ≤ m ∧ 0 ≤ f m) (g : b < 0 ∨ f m < f b ∨ (f m = f b ∧ num m < num b)) : BgI f num S m := by
  refine Or.inr ⟨hm, h0, fun v hv hf => ?_⟩
  rcases e v hv with z | z
  · rcases h with ⟨h1, h2⟩ | ⟨h1, h2, h3⟩
    · have := h2 v z
      omega
    · have := h3 v z hf
      omega
  · rw [z]; exact Or.inr ⟨rfl, Int.le_refl _⟩
end
/-- the way so far -/
def PwI (E : Int → Int → Prop) (num f : Int → Int) (N b : Int) (q : Int → Int) (m : Nat) : Prop := q 0 = b ∧ (∀ i : Nat, i ≤ m → (0 ≤ q i ∧ q i < N) ∧ f (q i) = f b - i) ∧ ∀ i : Nat, i < m → E (q i) (q (i + 1)) ∧ ∀ z, E (q i) z → f z = f b - 1 - i → num (q (i + 1)) ≤ num z
theorem PwI.ext {E : Int → Int → Prop} {num f : Int → Int} {N b x : Int} {q : Int → Int} {m : Nat} (h : PwI E num f N b q m) (hx : 0 ≤ x ∧ x < N) (hE : E (q m) x) (hf : f x = f b - 1 - m) (hz : ∀ z, E (q m) z → f z = f b - 1 - m → num x ≤ num z) : PwI E num f N b (iu q ((m : Int) + 1) x) (m + 1) := by
  obtain ⟨h1, h2, h3⟩ := h
  refine ⟨by rw [iu_n (by omega)]; exact h1, fun i hi => ?_, fun i hi => ?_⟩
  · by_cases e : i = m + 1
    · rw [e, show ((m + 1 : Nat) : Int) = (m : Int) + 1 by omega, iu_s]
      exact ⟨hx, by omega⟩
    · rw [iu_n (by omega)]
      exact h2 i (by omega)
  · rw [iu_n (show ¬ (i : Int) = (m : Int) + 1 by omega)]
    by_cases e : i = m
    · rw [e, iu_s]
      exact ⟨hE, hz⟩
    · rw [iu_n (show ¬ (i : Int) + 1 = (m : Int) + 1 by omega)]
      exact h3 i (by omega)
theorem Far.e {E : Int → Int → Prop} {w N : Int} {f : Int → Int} (h : Far E w N f) {z : Int} (hz : 0 ≤ z ∧ z < N) {k : Nat} (g : farN E w k z) : f z = k := by
  rcases h z hz with y | y
  · exact absurd g.1 (y.2 k)
  · have := y.2.u g
    omega
theorem PwI.wy {E : Int → Int → Prop} {num f : Int → Int} {w N b : Int} {q : Int → Int} {m : Nat} (hF : Far E w N f) (hE : ∀ x v, E x v → 0 ≤ v ∧ v < N) (hb : BgI f num (fun v => E (-1) v) b) (h0 : 0 ≤ b) (h : PwI E num f N b q m) (hm : (m : Int) = f b) : WyR E num w (m + 1) q := by
  obtain ⟨h1, h2, h3⟩ := h
  rcases hb with hb | ⟨b1, b2, b3⟩
  · omega
  · have fa : ∀ i : Nat, i ≤ m → farN E w (m - i) (q i) := fun i hi => by
      have q1 := h2 i hi
      rcases hF (q i) q1.1 with y | y
      · omega
      · have : (f (q i)).toNat = m - i := by omega
        rw [this] at y
        exact y.2
    refine ⟨⟨by rw [h1]; exact b1, by omega⟩, fun j hj => ?_, fun z k hz hk => ?_, fun j hj => ⟨(h3 j (by omega)).1, fun z hz hk => ?_⟩⟩
    · rw [show m + 1 - 1 - j = m - j by omega]
      exact fa j (by omega)
    · have fz := hF.e (hE _ _ hz) hk
      have := b3 z hz (by omega)
      rw [h1]
      omega
    · have fz := hF.e (hE _ _ hz) hk
      exact (h3 j (by omega)).2 z hz (by omega)
theorem co_X11_784 : CallOK RX11 (.invokevirtual 196) (4, 8, 0, 0, T_Model_measure) := call_V S_Model_measure (by decide) (ci := 11) rfl (by decide +kernel) (by decide +kernel) (by decide +kernel) (by decide +kernel) (by decide +kernel) (by decide +kernel) T_Model_measure_r
def TF_Model_way (o : Nat) (p : Int) (x : Int) (s : Int) (sz sl : Nat) (lay : Nat → Nat × Int) (ρ : Nat → Int → Nat) (σ : Nat → Int → Int) (τ : Nat → Int → Int64) (k : Option AV → Mm → Prop) : Prop := LModel lay ρ o ∧ ∃ (U : Int → Int) (len : Int) (st : Nat → Int → Int), MdP σ o p U len st ∧ (0 ≤ p ∧ p < 3 → (¬ ((0 ≤ s ∧ s ≤ 1) ∧ 0 ≤ fn U st x) → k (some (vI (-1))) (sz, sl, lay, ρ, σ, τ)) ∧ ((0 ≤ s ∧ s ≤ 1) → 0 ≤ fn U st x → (∀ z j, edg U st s (-1) z → ¬ wkN (edg U st s) (fn U st x) j z) → ∀ σ2 : Nat → Int → Int, QF σ σ2 o → k (some (vI (0))) (sz, sl, lay, ρ, σ2, τ)) ∧ ((0 ≤ s ∧ s ≤ 1) → 0 ≤ fn U st x → ∀ (D : Nat) (q : Int → Int), WyR (edg U st s) (numA U (st 2)) (fn U st x) D q → D ≤ 600 → ∀ σ2 : Nat → Int → Int, QW σ σ2 o → σ2 o 23 = D → (∀ j : Nat, j < D → σ2 (o + 22) j = numA U (st 2) (q j)) → k (some (vI ((D : Int)))) (sz, sl, lay, ρ, σ2, τ))) ∧ (¬ (0 ≤ p ∧ p < 3) → k (some (vI (-1))) (sz, sl, lay, ρ, σ, τ))
def T_Model_way : Tr := mkT 11 fun o as M k => pI as fun p as => pI as fun x as => pI as fun s as => as = [] ∧ TF_Model_way o p x s M.1 M.2.1 M.2.2.1 M.2.2.2.1 M.2.2.2.2.1 M.2.2.2.2.2 k
theorem T_Model_way_e {o : Nat} {p : Int} {x : Int} {s : Int} {sz sl : Nat} {lay : Nat → Nat × Int} {ρ : Nat → Int → Nat} {σ : Nat → Int → Int} {τ : Nat → Int → Int64} {k : Option AV → Mm → Prop} : T_Model_way [vR o, vI p, vI x, vI s] (sz, sl, lay, ρ, σ, τ) k = (lay o = (21, 0) ∧ TF_Model_way o p x s sz sl lay ρ σ τ k) := by simp [T_Model_way, mkT_e, pI_e, pR_e, pL_e]
theorem T_Model_way_r (as : List AV) (M : Mm) (k : Option AV → Mm → Prop) (h : T_Model_way as M k) : ∃ b As, as = vR b :: As ∧ M.2.2.1 b = (10 + 11, 0) := by
  obtain ⟨b, As, h1, h2, -⟩ := mkT_r h
  exact ⟨b, As, h1, h2⟩
def tb_Model_way : List (Nat × Option (List Nat) × Instr × List Nat) := [(0, none, .iload_n 1, []), (1, none, .invokestatic 161, []), (4, none, .ifCond .eq 21, [25]), (7, none, .aload_n 0, []), (8, none, .iload_n 1, []), (9, none, .iload_n 2, []), (10, none, .invokevirtual 152, []), (13, none, .ifCond .lt 12, [25]), (16, none, .iload_n 3, []), (17, none, .ifCond .lt 8, [25]), (20, none, .iload_n 3, []), (21, none, .iconst 1, []), (22, none, .if_icmp .le 5, [27]), (25, none, .iconst (-1), []), (26, none, .ireturn, []), (27, none, .aload_n 0, []), (28, none, .iload_n 1, []), (29, none, .aload_n 0, []), (30, none, .iload_n 1, []), (31, none, .iload_n 2, []), (32, none, .invokevirtual 152, []), (35, none, .iload_n 3, []), (36, none, .iconst 1, []), (37, none, .if_icmp .ne 7, [44]), (40, none, .iconst 1, []), (41, none, .goto 4, [45]), (44, none, .iconst 0, []), (45, none, .invokevirtual 196, []), (48, none, .iconst (-1), []), (49, none, .istore 4, []), (51, none, .iconst 0, []), (52, none, .istore 5, []), (54, some [0, 1, 2, 3, 4, 5], .iload 5, []), (56, none, .aload_n 0, []), (57, none, .getfield 59, []), (60, none, .iload_n 1, []), (61, none, .iaload, []), (62, none, .if_icmp .ge 103, [165]), (65, none, .aload_n 0, []), (66, none, .iload_n 1, []), (67, none, .aload_n 0, []), (68, none, .getfield 56, []), (71, none, .bipush 100, []), (73, none, .iload_n 1, []), (74, none, .imul, []), (75, none, .iload 5, []), (77, none, .iadd, []), (78, none, .iaload, []), (79, none, .invokevirtual 152, []), (82, none, .istore 6, []), (84, none, .iload 6, []), (86, none, .ifCond .lt 73, [159]), (89, none, .aload_n 0, []), (90, none, .getfield 72, []), (93, none, .iload 6, []), (95, none, .iaload, []), (96, none, .ifCond .lt 63, [159]), (99, none, .iload 4, []), (101, none, .ifCond .lt 54, [155]), (104, none, .aload_n 0, []), (105, none, .getfield 72, []), (108, none, .iload 6, []), (110, none, .iaload, []), (111, none, .aload_n 0, []), (112, none, .getfield 72, []), (115, none, .iload 4, []), (117, none, .iaload, []), (118, none, .if_icmp .lt 37, [155]), (121, none, .aload_n 0, []), (122, none, .getfield 72, []), (125, none, .iload 6, []), (127, none, .iaload, []), (128, none, .aload_n 0, []), (129, none, .getfield 72, []), (132, none, .iload 4, []), (134, none, .iaload, []), (135, none, .if_icmp .ne 24, [159]), (138, none, .aload_n 0, []), (139, none, .iload_n 1, []), (140, none, .iload 6, []), (142, none, .invokevirtual 165, []), (145, none, .aload_n 0, []), (146, none, .iload_n 1, []), (147, none, .iload 4, []), (149, none, .invokevirtual 165, []), (152, none, .if_icmp .ge 7, [159]), (155, none, .iload 6, []), (157, none, .istore 4, []), (159, none, .iinc 5 1, []), (162, none, .goto (-108), [54]), (165, none, .iload 4, []), (167, none, .ifCond .ge 5, [172]), (170, none, .iconst 0, []), (171, none, .ireturn, []), (172, none, .aload_n 0, []), (173, none, .iconst 0, []), (174, none, .putfield 200, []), (177, none, .iload 4, []), (179, none, .istore 5, []), (181, some [0, 1, 2, 3, 4, 5], .iload 5, []), (183, none, .ifCond .lt 74, [257]), (186, none, .aload_n 0, []), (187, none, .getfield 75, []), (190, none, .aload_n 0, []), (191, none, .getfield 200, []), (194, none, .aload_n 0, []), (195, none, .iload_n 1, []), (196, none, .iload 5, []), (198, none, .invokevirtual 165, []), (201, none, .iastore, []), (202, none, .aload_n 0, []), (203, none, .dup, []), (204, none, .getfield 200, []), (207, none, .iconst 1, []), (208, none, .iadd, []), (209, none, .putfield 200, []), (212, none, .aload_n 0, []), (213, none, .getfield 72, []), (216, none, .iload 5, []), (218, none, .iaload, []), (219, none, .ifCond .ne 7, [226]), (222, none, .iconst (-1), []), (223, none, .goto 29, [252]), (226, none, .aload_n 0, []), (227, none, .iload_n 1, []), (228, none, .iload 5, []), (230, none, .aload_n 0, []), (231, none, .getfield 72, []), (234, none, .iload 5, []), (236, none, .iaload, []), (237, none, .iconst 1, []), (238, none, .isub, []), (239, none, .iload_n 3, []), (240, none, .iconst 1, []), (241, none, .if_icmp .ne 7, [248]), (244, none, .iconst 1, []), (245, none, .goto 4, [249]), (248, none, .iconst 0, []), (249, none, .invokevirtual 192, []), (252, none, .istore 5, []), (254, none, .goto (-73), [181]), (257, none, .aload_n 0, []), (258, none, .getfield 200, []), (261, none, .ireturn, [])]
def P_Model_way : Nat → Option (List Nat) × Instr × List Nat := plk tb_Model_way
theorem r_Model_way_0 : P_Model_way 0 = (none, .iload_n 1, []) := by decide +kernel
theorem r_Model_way_1 : P_Model_way 1 = (none, .invokestatic 161, []) := by decide +kernel
theorem r_Model_way_4 : P_Model_way 4 = (none, .ifCond .eq 21, [25]) := by decide +kernel
theorem r_Model_way_7 : P_Model_way 7 = (none, .aload_n 0, []) := by decide +kernel
theorem r_Model_way_8 : P_Model_way 8 = (none, .iload_n 1, []) := by decide +kernel
theorem r_Model_way_9 : P_Model_way 9 = (none, .iload_n 2, []) := by decide +kernel
theorem r_Model_way_10 : P_Model_way 10 = (none, .invokevirtual 152, []) := by decide +kernel
theorem r_Model_way_13 : P_Model_way 13 = (none, .ifCond .lt 12, [25]) := by decide +kernel
theorem r_Model_way_16 : P_Model_way 16 = (none, .iload_n 3, []) := by decide +kernel
theorem r_Model_way_17 : P_Model_way 17 = (none, .ifCond .lt 8, [25]) := by decide +kernel
theorem r_Model_way_20 : P_Model_way 20 = (none, .iload_n 3, []) := by decide +kernel
theorem r_Model_way_21 : P_Model_way 21 = (none, .iconst 1, []) := by decide +kernel
theorem r_Model_way_22 : P_Model_way 22 = (none, .if_icmp .le 5, [27]) := by decide +kernel
theorem r_Model_way_25 : P_Model_way 25 = (none, .iconst (-1), []) := by decide +kernel
theorem r_Model_way_26 : P_Model_way 26 = (none, .ireturn, []) := by decide +kernel
theorem r_Model_way_27 : P_Model_way 27 = (none, .aload_n 0, []) := by decide +kernel
theorem r_Model_way_28 : P_Model_way 28 = (none, .iload_n 1, []) := by decide +kernel
theorem r_Model_way_29 : P_Model_way 29 = (none, .aload_n 0, []) := by decide +kernel
theorem r_Model_way_30 : P_Model_way 30 = (none, .iload_n 1, []) := by decide +kernel
theorem r_Model_way_31 : P_Model_way 31 = (none, .iload_n 2, []) := by decide +kernel
theorem r_Model_way_32 : P_Model_way 32 = (none, .invokevirtual 152, []) := by decide +kernel
theorem r_Model_way_35 : P_Model_way 35 = (none, .iload_n 3, []) := by decide +kernel
theorem r_Model_way_36 : P_Model_way 36 = (none, .iconst 1, []) := by decide +kernel
theorem r_Model_way_37 : P_Model_way 37 = (none, .if_icmp .ne 7, [44]) := by decide +kernel
theorem r_Model_way_40 : P_Model_way 40 = (none, .iconst 1, []) := by decide +kernel
theorem r_Model_way_41 : P_Model_way 41 = (none, .goto 4, [45]) := by decide +kernel
theorem r_Model_way_44 : P_Model_way 44 = (none, .iconst 0, []) := by decide +kernel
theorem r_Model_way_45 : P_Model_way 45 = (none, .invokevirtual 196, []) := by decide +kernel
theorem r_Model_way_48 : P_Model_way 48 = (none, .iconst (-1), []) := by decide +kernel
theorem r_Model_way_49 : P_Model_way 49 = (none, .istore 4, []) := by decide +kernel
theorem r_Model_way_51 : P_Model_way 51 = (none, .iconst 0, []) := by decide +kernel
theorem r_Model_way_52 : P_Model_way 52 = (none, .istore 5, []) := by decide +kernel
theorem r_Model_way_54 : P_Model_way 54 = (some [0, 1, 2, 3, 4, 5], .iload 5, []) := by decide +kernel
theorem r_Model_way_56 : P_Model_way 56 = (none, .aload_n 0, []) := by decide +kernel
theorem r_Model_way_57 : P_Model_way 57 = (none, .getfield 59, []) := by decide +kernel
theorem r_Model_way_60 : P_Model_way 60 = (none, .iload_n 1, []) := by decide +kernel
theorem r_Model_way_61 : P_Model_way 61 = (none, .iaload, []) := by decide +kernel
theorem r_Model_way_62 : P_Model_way 62 = (none, .if_icmp .ge 103, [165]) := by decide +kernel
theorem r_Model_way_65 : P_Model_way 65 = (none, .aload_n 0, []) := by decide +kernel
theorem r_Model_way_66 : P_Model_way 66 = (none, .iload_n 1, []) := by decide +kernel
theorem r_Model_way_67 : P_Model_way 67 = (none, .aload_n 0, []) := by decide +kernel
theorem r_Model_way_68 : P_Model_way 68 = (none, .getfield 56, []) := by decide +kernel
theorem r_Model_way_71 : P_Model_way 71 = (none, .bipush 100, []) := by decide +kernel
theorem r_Model_way_73 : P_Model_way 73 = (none, .iload_n 1, []) := by decide +kernel
theorem r_Model_way_74 : P_Model_way 74 = (none, .imul, []) := by decide +kernel
theorem r_Model_way_75 : P_Model_way 75 = (none, .iload 5, []) := by decide +kernel
theorem r_Model_way_77 : P_Model_way 77 = (none, .iadd, []) := by decide +kernel
theorem r_Model_way_78 : P_Model_way 78 = (none, .iaload, []) := by decide +kernel
theorem r_Model_way_79 : P_Model_way 79 = (none, .invokevirtual 152, []) := by decide +kernel
theorem r_Model_way_82 : P_Model_way 82 = (none, .istore 6, []) := by decide +kernel
theorem r_Model_way_84 : P_Model_way 84 = (none, .iload 6, []) := by decide +kernel
theorem r_Model_way_86 : P_Model_way 86 = (none, .ifCond .lt 73, [159]) := by decide +kernel
theorem r_Model_way_89 : P_Model_way 89 = (none, .aload_n 0, []) := by decide +kernel
theorem r_Model_way_90 : P_Model_way 90 = (none, .getfield 72, []) := by decide +kernel
theorem r_Model_way_93 : P_Model_way 93 = (none, .iload 6, []) := by decide +kernel
theorem r_Model_way_95 : P_Model_way 95 = (none, .iaload, []) := by decide +kernel
theorem r_Model_way_96 : P_Model_way 96 = (none, .ifCond .lt 63, [159]) := by decide +kernel
theorem r_Model_way_99 : P_Model_way 99 = (none, .iload 4, []) := by decide +kernel
theorem r_Model_way_101 : P_Model_way 101 = (none, .ifCond .lt 54, [155]) := by decide +kernel
theorem r_Model_way_104 : P_Model_way 104 = (none, .aload_n 0, []) := by decide +kernel
theorem r_Model_way_105 : P_Model_way 105 = (none, .getfield 72, []) := by decide +kernel
theorem r_Model_way_108 : P_Model_way 108 = (none, .iload 6, []) := by decide +kernel
theorem r_Model_way_110 : P_Model_way 110 = (none, .iaload, []) := by decide +kernel
theorem r_Model_way_111 : P_Model_way 111 = (none, .aload_n 0, []) := by decide +kernel
theorem r_Model_way_112 : P_Model_way 112 = (none, .getfield 72, []) := by decide +kernel
theorem r_Model_way_115 : P_Model_way 115 = (none, .iload 4, []) := by decide +kernel
theorem r_Model_way_117 : P_Model_way 117 = (none, .iaload, []) := by decide +kernel
theorem r_Model_way_118 : P_Model_way 118 = (none, .if_icmp .lt 37, [155]) := by decide +kernel
theorem r_Model_way_121 : P_Model_way 121 = (none, .aload_n 0, []) := by decide +kernel
theorem r_Model_way_122 : P_Model_way 122 = (none, .getfield 72, []) := by decide +kernel
theorem r_Model_way_125 : P_Model_way 125 = (none, .iload 6, []) := by decide +kernel
theorem r_Model_way_127 : P_Model_way 127 = (none, .iaload, []) := by decide +kernel
theorem r_Model_way_128 : P_Model_way 128 = (none, .aload_n 0, []) := by decide +kernel
theorem r_Model_way_129 : P_Model_way 129 = (none, .getfield 72, []) := by decide +kernel
theorem r_Model_way_132 : P_Model_way 132 = (none, .iload 4, []) := by decide +kernel
theorem r_Model_way_134 : P_Model_way 134 = (none, .iaload, []) := by decide +kernel
theorem r_Model_way_135 : P_Model_way 135 = (none, .if_icmp .ne 24, [159]) := by decide +kernel
theorem r_Model_way_138 : P_Model_way 138 = (none, .aload_n 0, []) := by decide +kernel
theorem r_Model_way_139 : P_Model_way 139 = (none, .iload_n 1, []) := by decide +kernel
theorem r_Model_way_140 : P_Model_way 140 = (none, .iload 6, []) := by decide +kernel
theorem r_Model_way_142 : P_Model_way 142 = (none, .invokevirtual 165, []) := by decide +kernel
theorem r_Model_way_145 : P_Model_way 145 = (none, .aload_n 0, []) := by decide +kernel
theorem r_Model_way_146 : P_Model_way 146 = (none, .iload_n 1, []) := by decide +kernel
theorem r_Model_way_147 : P_Model_way 147 = (none, .iload 4, []) := by decide +kernel
theorem r_Model_way_149 : P_Model_way 149 = (none, .invokevirtual 165, []) := by decide +kernel
theorem r_Model_way_152 : P_Model_way 152 = (none, .if_icmp .ge 7, [159]) := by decide +kernel
theorem r_Model_way_155 : P_Model_way 155 = (none, .iload 6, []) := by decide +kernel
theorem r_Model_way_157 : P_Model_way 157 = (none, .istore 4, []) := by decide +kernel
theorem r_Model_way_159 : P_Model_way 159 = (none, .iinc 5 1, []) := by decide +kernel
theorem r_Model_way_162 : P_Model_way 162 = (none, .goto (-108), [54]) := by decide +kernel
theorem r_Model_way_165 : P_Model_way 165 = (none, .iload 4, []) := by decide +kernel
theorem r_Model_way_167 : P_Model_way 167 = (none, .ifCond .ge 5, [172]) := by decide +kernel
theorem r_Model_way_170 : P_Model_way 170 = (none, .iconst 0, []) := by decide +kernel
theorem r_Model_way_171 : P_Model_way 171 = (none, .ireturn, []) := by decide +kernel
theorem r_Model_way_172 : P_Model_way 172 = (none, .aload_n 0, []) := by decide +kernel
theorem r_Model_way_173 : P_Model_way 173 = (none, .iconst 0, []) := by decide +kernel
theorem r_Model_way_174 : P_Model_way 174 = (none, .putfield 200, []) := by decide +kernel
theorem r_Model_way_177 : P_Model_way 177 = (none, .iload 4, []) := by decide +kernel
theorem r_Model_way_179 : P_Model_way 179 = (none, .istore 5, []) := by decide +kernel
theorem r_Model_way_181 : P_Model_way 181 = (some [0, 1, 2, 3, 4, 5], .iload 5, []) := by decide +kernel
theorem r_Model_way_183 : P_Model_way 183 = (none, .ifCond .lt 74, [257]) := by decide +kernel
theorem r_Model_way_186 : P_Model_way 186 = (none, .aload_n 0, []) := by decide +kernel
theorem r_Model_way_187 : P_Model_way 187 = (none, .getfield 75, []) := by decide +kernel
theorem r_Model_way_190 : P_Model_way 190 = (none, .aload_n 0, []) := by decide +kernel
theorem r_Model_way_191 : P_Model_way 191 = (none, .getfield 200, []) := by decide +kernel
theorem r_Model_way_194 : P_Model_way 194 = (none, .aload_n 0, []) := by decide +kernel
theorem r_Model_way_195 : P_Model_way 195 = (none, .iload_n 1, []) := by decide +kernel
theorem r_Model_way_196 : P_Model_way 196 = (none, .iload 5, []) := by decide +kernel
theorem r_Model_way_198 : P_Model_way 198 = (none, .invokevirtual 165, []) := by decide +kernel
theorem r_Model_way_201 : P_Model_way 201 = (none, .iastore, []) := by decide +kernel
theorem r_Model_way_202 : P_Model_way 202 = (none, .aload_n 0, []) := by decide +kernel
theorem r_Model_way_203 : P_Model_way 203 = (none, .dup, []) := by decide +kernel
theorem r_Model_way_204 : P_Model_way 204 = (none, .getfield 200, []) := by decide +kernel
theorem r_Model_way_207 : P_Model_way 207 = (none, .iconst 1, []) := by decide +kernel
theorem r_Model_way_208 : P_Model_way 208 = (none, .iadd, []) := by decide +kernel
theorem r_Model_way_209 : P_Model_way 209 = (none, .putfield 200, []) := by decide +kernel
theorem r_Model_way_212 : P_Model_way 212 = (none, .aload_n 0, []) := by decide +kernel
theorem r_Model_way_213 : P_Model_way 213 = (none, .getfield 72, []) := by decide +kernel
theorem r_Model_way_216 : P_Model_way 216 = (none, .iload 5, []) := by decide +kernel
theorem r_Model_way_218 : P_Model_way 218 = (none, .iaload, []) := by decide +kernel
theorem r_Model_way_219 : P_Model_way 219 = (none, .ifCond .ne 7, [226]) := by decide +kernel
theorem r_Model_way_222 : P_Model_way 222 = (none, .iconst (-1), []) := by decide +kernel
theorem r_Model_way_223 : P_Model_way 223 = (none, .goto 29, [252]) := by decide +kernel
theorem r_Model_way_226 : P_Model_way 226 = (none, .aload_n 0, []) := by decide +kernel
theorem r_Model_way_227 : P_Model_way 227 = (none, .iload_n 1, []) := by decide +kernel
theorem r_Model_way_228 : P_Model_way 228 = (none, .iload 5, []) := by decide +kernel
theorem r_Model_way_230 : P_Model_way 230 = (none, .aload_n 0, []) := by decide +kernel
theorem r_Model_way_231 : P_Model_way 231 = (none, .getfield 72, []) := by decide +kernel
theorem r_Model_way_234 : P_Model_way 234 = (none, .iload 5, []) := by decide +kernel
theorem r_Model_way_236 : P_Model_way 236 = (none, .iaload, []) := by decide +kernel
theorem r_Model_way_237 : P_Model_way 237 = (none, .iconst 1, []) := by decide +kernel
theorem r_Model_way_238 : P_Model_way 238 = (none, .isub, []) := by decide +kernel
theorem r_Model_way_239 : P_Model_way 239 = (none, .iload_n 3, []) := by decide +kernel
theorem r_Model_way_240 : P_Model_way 240 = (none, .iconst 1, []) := by decide +kernel
theorem r_Model_way_241 : P_Model_way 241 = (none, .if_icmp .ne 7, [248]) := by decide +kernel
theorem r_Model_way_244 : P_Model_way 244 = (none, .iconst 1, []) := by decide +kernel
theorem r_Model_way_245 : P_Model_way 245 = (none, .goto 4, [249]) := by decide +kernel
theorem r_Model_way_248 : P_Model_way 248 = (none, .iconst 0, []) := by decide +kernel
theorem r_Model_way_249 : P_Model_way 249 = (none, .invokevirtual 192, []) := by decide +kernel
theorem r_Model_way_252 : P_Model_way 252 = (none, .istore 5, []) := by decide +kernel
theorem r_Model_way_254 : P_Model_way 254 = (none, .goto (-73), [181]) := by decide +kernel
theorem r_Model_way_257 : P_Model_way 257 = (none, .aload_n 0, []) := by decide +kernel
theorem r_Model_way_258 : P_Model_way 258 = (none, .getfield 200, []) := by decide +kernel
theorem r_Model_way_261 : P_Model_way 261 = (none, .ireturn, []) := by decide +kernel
def E_Model_way : List (Nat × Ent) := [(646, (1, 0, 0, 0, T_Model_isPicture)), (608, (3, 0, 0, 0, T_Model_find)), (660, (3, 2, 0, 0, T_Model_numberOf)), (768, (5, 7, 0, 0, T_Model_leads)), (784, (4, 8, 0, 0, T_Model_measure))]
def X_Model_way : Cx := (llk (0, 0, 9) ftX11, llk 99 ntX11, llk none kcX11, llk none klX11, llk dEnt E_Model_way, 9, 0, false)
theorem xok_Model_way : Xok RX11 X_Model_way := xok_of ftX11_ok ntX11_ok kcX11_ok klX11_ok (E := E_Model_way) (List.forall_mem_cons.mpr ⟨co_X11_646, List.forall_mem_cons.mpr ⟨co_X11_608, List.forall_mem_cons.mpr ⟨co_X11_660, List.forall_mem_cons.mpr ⟨co_X11_768, List.forall_mem_cons.mpr ⟨co_X11_784, fun _ h => absurd h List.not_mem_nil⟩⟩⟩⟩⟩)
theorem xf_Model_way_56 : xfl X_Model_way 56 = (11, 16, 1) := by decide +kernel
theorem xf_Model_way_59 : xfl X_Model_way 59 = (11, 17, 1) := by decide +kernel
theorem xf_Model_way_72 : xfl X_Model_way 72 = (11, 21, 1) := by decide +kernel
theorem xf_Model_way_75 : xfl X_Model_way 75 = (11, 22, 1) := by decide +kernel
theorem xf_Model_way_200 : xfl X_Model_way 200 = (11, 23, 0) := by decide +kernel
theorem xe_Model_way_646 : xE X_Model_way (4 * 161 + 2) = (1, 0, 0, 0, T_Model_isPicture) := rfl
theorem xe_Model_way_608 : xE X_Model_way (4 * 152 + 0) = (3, 0, 0, 0, T_Model_find) := rfl
theorem xe_Model_way_660 : xE X_Model_way (4 * 165 + 0) = (3, 2, 0, 0, T_Model_numberOf) := rfl
theorem xe_Model_way_768 : xE X_Model_way (4 * 192 + 0) = (5, 7, 0, 0, T_Model_leads) := rfl
theorem xe_Model_way_784 : xE X_Model_way (4 * 196 + 0) = (4, 8, 0, 0, T_Model_measure) := rfl
theorem xd_Model_way : xd X_Model_way = 9 := rfl
theorem xrb_Model_way : xrb X_Model_way = 0 := rfl
theorem xin_Model_way : xin X_Model_way = false := rfl
set_option maxHeartbeats 4000000 in
set_option maxRecDepth 100000 in
theorem S_Model_way : Snd yX11_way cX11_way 7 (some .int) T_Model_way 9 0 0 := by
  refine snd_of (X := X_Model_way) (P := P_Model_way) (tb := tb_Model_way) (own := RX11) (by decide) rfl rfl (by decide +kernel) xok_Model_way rfl rk0 (fun h => by first | rfl | cases h) ?_
  intro as M k has hM hT0
  obtain ⟨sz, sl, lay, ρ, σ, τ⟩ := M
  obtain ⟨o, as1, e, hlo, hT1⟩ := mkT_r hT0
  clear hT0
  subst e
  obtain ⟨p, as2, e, hT2⟩ := pI_x hT1
  clear hT1
  subst e
  obtain ⟨x, as3, e, hT3⟩ := pI_x hT2
  clear hT2
  subst e
  obtain ⟨s, as4, e, hT4⟩ := pI_x hT3
  clear hT3
  subst e
  obtain ⟨e, hT⟩ := hT4
  subst e
  replace hlo : lay o = (21, 0) := hlo
  have r_p : -2147483648 ≤ p ∧ p ≤ 2147483647 := has (vI p) (by simp)
  have r_x : -2147483648 ≤ x ∧ x ≤ 2147483647 := has (vI x) (by simp)
  have r_s : -2147483648 ≤ s ∧ s ≤ 2147483647 := has (vI s) (by simp)
  clear has
  replace hM : ∀ a i, -2147483648 ≤ σ a i ∧ σ a i ≤ 2147483647 := hM
  replace hT : TF_Model_way o p x s sz sl lay ρ σ τ k := hT
  unfold TF_Model_way at hT
  obtain ⟨hL, U, len, st, hMP, h1, h0⟩ := hT
  obtain ⟨J, hJd⟩ : ∃ J : Nat → List AV → Mm → Prop, J = (fun c vs M1 => (0 ≤ p ∧ p < 3) ∧ (((0 ≤ s ∧ s ≤ 1) ∧ (0 ≤ fn U st x ∧ fn U st x < st 0 7)) ∧ ((c = 54 ∧ ∃ (r b : Int) (σ1 : Nat → Int → Int), QF σ σ1 o ∧ Far (edg U st s) (fn U st x) (st 0 7) (σ1 (o + 21)) ∧ (0 ≤ r ∧ r ≤ st 0 9) ∧ BgI (σ1 (o + 21)) (numA U (st 2)) (fun v => 0 ≤ v ∧ ∃ i, (0 ≤ i ∧ i < r) ∧ fn U st (st 3 i) = v) b ∧ vs = [vR o, vI p, vI x, vI s, vI b, vI r] ∧ M1 = (sz, sl, lay, ρ, σ1, τ)) ∨ (c = 181 ∧ ∃ (b z : Int) (q : Int → Int) (j : Nat) (σ1 : Nat → Int → Int), QW σ σ1 o ∧ Far (edg U st s) (fn U st x) (st 0 7) (σ1 (o + 21)) ∧ (0 ≤ b ∧ b < st 0 7) ∧ BgI (σ1 (o + 21)) (numA U (st 2)) (fun v => edg U st s (-1) v) b ∧ ((z = q j ∧ (j : Int) ≤ σ1 (o + 21) b ∧ PwI (edg U st s) (numA U (st 2)) (σ1 (o + 21)) (st 0 7) b q j) ∨ (z = -1 ∧ ∃ m : Nat, j = m + 1 ∧ (m : Int) = σ1 (o + 21) b ∧ PwI (edg U st s) (numA U (st 2)) (σ1 (o + 21)) (st 0 7) b q m)) ∧ σ1 o 23 = j ∧ (∀ i : Nat, i < j → σ1 (o + 22) i = numA U (st 2) (q i)) ∧ vs = [vR o, vI p, vI x, vI s, vI b, vI z] ∧ M1 = (sz, sl, lay, ρ, σ1, τ))))) := ⟨_, rfl⟩
  obtain ⟨μ, hμ⟩ : ∃ μ : Nat → List AV → Mm → Nat, μ = (fun c vs M => if c = 54 then (9000 - gI (vs.getD 5 vN)).toNat else if gI (vs.getD 5 vN) < 0 then 0 else (2000 - M.2.2.2.2.1 o 23).toNat) := ⟨_, rfl⟩
  refine ⟨Nat.le_of_ble_eq_true rfl, J, μ, 152, ?_, ?_⟩
  · skip
    by_cases hp : 0 ≤ p ∧ p < 3
    · have hpE : (0 ≤ p ∧ p < 3) = True := eq_true hp
      replace h1 := h1 hp
      obtain ⟨hS, hR⟩ := hMP hp
      obtain ⟨hB, hl3, ⟨m4, m5, m6⟩, ⟨m7, m8, m9⟩, m12, ⟨m14, m13⟩, m15, ⟨m17, m16⟩, m26⟩ := (show MR σ o p U len st from hR)
      obtain ⟨b1, b2, b3, b4, b5, b6, b7⟩ := (show MB σ o p U len (st 1) from hB)
      obtain ⟨w0, w1, w2, w3, w4, w5, w6, w7, w8, w9, w10, w11, w12, w13, w14⟩ := (show SW U len st from hS)
      (obtain ⟨mh, mp0, mp2, mp3, mp4, mp5, mp6, mp7, mp8, mp9, mp10, mp11, mp12, mp13, mp14, mp15, mp16, mp17, mp18, mp19, mp20, mp21, mp22, mp24, mp25, mp26, mp27, mq0, mq2, mq3, mq4, mq5, mq6, mq7, mq8, mq9, mq10, mq11, mq12, mq13, mq14, mq15, mq16, mq17, mq18, mq19, mq20, mq21, mq22, mq24, mq25, mq26, mq27⟩ := (show LModel lay ρ _ from hL); unfold wps; simp only [hpE, find_e hL hS hR, si_iload_n0, si_iload_n1, si_iload_n2, si_iload_n3, si_iload, si_lload_n0, si_lload_n1, si_lload_n2, si_lload_n3, si_lload, si_aload_n0, si_aload_n1, si_aload_n2, si_aload_n3, si_aload, si_istore_n0, si_istore_n1, si_istore_n2, si_istore_n3, si_istore, si_astore_n0, si_astore_n1, si_astore_n2, si_astore_n3, si_astore, si_lstore_n0, si_lstore_n1, si_lstore_n2, si_lstore_n3, si_lstore, si_iconst, si_bipush, si_sipush, si_ldc, si_ldc2_w, si_lconst0, si_lconst1, si_aconst_null, si_iinc, si_dup, si_dup2, si_iadd, si_isub, si_imul, si_idiv, si_irem, si_iand, si_ior, si_ishl, si_ishr, si_ladd, si_lmul, si_lor, si_lxor, si_lshl, si_lushr, si_lcmp, si_i2b, si_i2l, si_l2i, si_icmp_eq, si_icmp_ne, si_icmp_lt, si_icmp_ge, si_icmp_gt, si_icmp_le, si_if_eq, si_if_ne, si_if_lt, si_if_ge, si_if_gt, si_if_le, si_ifnull, si_ifnonnull, si_goto, si_tableswitch, si_lookupswitch, si_getfield, si_putfield, si_getstatic, si_iaload, si_baload, si_laload, si_aaload, si_iastore, si_bastore, si_lastore, si_aastore, si_arraylength, si_new, si_newarray, si_anewarray, si_invokevirtual, si_invokespecial, si_invokestatic, si_ireturn, si_lreturn, si_areturn, si_return_, pI_e, pL_e, pR_e, pA_r, pA_n, pN_n, pN_r, oI_e, oL_e, oA_r, oA_n, lget_e, lrm1_0, lrm2_0, lrm1_i, lrm1_r, lrm1_n, lrm1_l, lrm2_i, lrm2_r, lrm2_n, lrm2_l, popN_0, popN_s, acat_i, acat_l, acat_r, acat_n, stw_0, stw_s, psh_s, psh_n, wgf_r, wgf_i, wgf_b, wgf_n, wgf_m, wpf_i, wpf_r, wpf_b, wnew_e, callE_e, rbk_0, rbk_1, tsw_0, tsw_s, lsw_0, lsw_s, wp_s, wq_t, wq_f, oV_e, pick_0, pick_s, oZ_e, oY_e, r_Model_way_0, r_Model_way_1, r_Model_way_4, r_Model_way_7, r_Model_way_8, r_Model_way_9, r_Model_way_10, r_Model_way_13, r_Model_way_16, r_Model_way_17, r_Model_way_20, r_Model_way_21, r_Model_way_22, r_Model_way_25, r_Model_way_26, r_Model_way_27, r_Model_way_28, r_Model_way_29, r_Model_way_30, r_Model_way_31, r_Model_way_32, r_Model_way_35, r_Model_way_36, r_Model_way_37, r_Model_way_40, r_Model_way_41, r_Model_way_44, r_Model_way_45, r_Model_way_48, r_Model_way_49, r_Model_way_51, r_Model_way_52, r_Model_way_54, r_Model_way_56, r_Model_way_57, r_Model_way_60, r_Model_way_61, r_Model_way_62, r_Model_way_65, r_Model_way_66, r_Model_way_67, r_Model_way_68, r_Model_way_71, r_Model_way_73, r_Model_way_74, r_Model_way_75, r_Model_way_77, r_Model_way_78, r_Model_way_79, r_Model_way_82, r_Model_way_84, r_Model_way_86, r_Model_way_89, r_Model_way_90, r_Model_way_93, r_Model_way_95, r_Model_way_96, r_Model_way_99, r_Model_way_101, r_Model_way_104, r_Model_way_105, r_Model_way_108, r_Model_way_110, r_Model_way_111, r_Model_way_112, r_Model_way_115, r_Model_way_117, r_Model_way_118, r_Model_way_121, r_Model_way_122, r_Model_way_125, r_Model_way_127, r_Model_way_128, r_Model_way_129, r_Model_way_132, r_Model_way_134, r_Model_way_135, r_Model_way_138, r_Model_way_139, r_Model_way_140, r_Model_way_142, r_Model_way_145, r_Model_way_146, r_Model_way_147, r_Model_way_149, r_Model_way_152, r_Model_way_155, r_Model_way_157, r_Model_way_159, r_Model_way_162, r_Model_way_165, r_Model_way_167, r_Model_way_170, r_Model_way_171, r_Model_way_172, r_Model_way_173, r_Model_way_174, r_Model_way_177, r_Model_way_179, r_Model_way_181, r_Model_way_183, r_Model_way_186, r_Model_way_187, r_Model_way_190, r_Model_way_191, r_Model_way_194, r_Model_way_195, r_Model_way_196, r_Model_way_198, r_Model_way_201, r_Model_way_202, r_Model_way_203, r_Model_way_204, r_Model_way_207, r_Model_way_208, r_Model_way_209, r_Model_way_212, r_Model_way_213, r_Model_way_216, r_Model_way_218, r_Model_way_219, r_Model_way_222, r_Model_way_223, r_Model_way_226, r_Model_way_227, r_Model_way_228, r_Model_way_230, r_Model_way_231, r_Model_way_234, r_Model_way_236, r_Model_way_237, r_Model_way_238, r_Model_way_239, r_Model_way_240, r_Model_way_241, r_Model_way_244, r_Model_way_245, r_Model_way_248, r_Model_way_249, r_Model_way_252, r_Model_way_254, r_Model_way_257, r_Model_way_258, r_Model_way_261, xf_Model_way_56, xf_Model_way_59, xf_Model_way_72, xf_Model_way_75, xf_Model_way_200, xe_Model_way_646, xe_Model_way_608, xe_Model_way_660, xe_Model_way_768, xe_Model_way_784, xd_Model_way, xrb_Model_way, xin_Model_way, T_Model_isPicture_e, TF_Model_isPicture, T_Model_find_e, T_Model_numberOf_e, TF_Model_numberOf, T_Model_leads_e, TF_Model_leads, T_Model_measure_e, TF_Model_measure, mh, mp0, mp2, mp3, mp4, mp5, mp6, mp7, mp8, mp9, mp10, mp11, mp12, mp13, mp14, mp15, mp16, mp17, mp18, mp19, mp20, mp21, mp22, mp24, mp25, mp26, mp27, mq0, mq2, mq3, mq4, mq5, mq6, mq7, mq8, mq9, mq10, mq11, mq12, mq13, mq14, mq15, mq16, mq17, mq18, mq19, mq20, mq21, mq22, mq24, mq25, mq26, mq27, Nat.reduceAdd, Nat.reduceMul, Nat.reduceEqDiff, reduceIte, Int.reduceNeg, Int.reduceLE, Int.reduceLT, Int.reduceAdd, Int.reduceSub, Int.reduceToNat, true_and, and_true, inR_e, Nat.reduceLT, Nat.reduceLeDiff, reduceCtorEq, Nat.add_zero, Nat.zero_add, or_false, false_or, or_true, true_or, not_true_eq_false, not_false_eq_true, Classical.not_not, Nat.add_eq_zero_iff, and_false, false_and, Int.reduceEq, List.mem_cons, List.not_mem_nil, forall_eq_or_imp, forall_eq, false_implies, implies_true, forall_const, aargs_0, aargs_i, aargs_r, aargs_l, aargs_n, nfT_e, eq_self, and_self, Nat.le_refl, fu_s, fu_fu, iu_iu, iu_s, fu_am, fu_a0, fu_0a, iu_l, Nat.reduceBEq, Int.reduceBEq, T_objInit_e]; clear mp0 mp2 mp3 mp4 mp5 mp6 mp7 mp8 mp9 mp10 mp11 mp12 mp13 mp14 mp15 mp16 mp17 mp18 mp19 mp20 mp21 mp22 mp24 mp25 mp26 mp27)
      have fR := hS.fnR x
      refine ⟨fun a => h1.1 (by omega), fun a => ⟨fun a2 => h1.1 (by omega), fun a2 => ⟨fun a3 => ⟨fun e => ?_, fun e => ?_⟩, fun a3 => h1.1 (by omega)⟩⟩⟩
      · have es : s = 0 := by omega
        subst es
        refine ⟨hL, U, len, st, hS, hR, by omega, fun σ2 f1 f2 => ?_⟩
        rw [hJd]
        exact ⟨hp, ⟨by omega, by omega⟩, Or.inl ⟨rfl, 0, -1, σ2, f1, f2, by omega, Or.inl ⟨rfl, fun v hv => by obtain ⟨_, i, hi, _⟩ := hv; omega⟩, rfl, rfl⟩⟩
      · have es : s = 1 := by omega
        subst es
        refine ⟨hL, U, len, st, hS, hR, by omega, fun σ2 f1 f2 => ?_⟩
        rw [hJd]
        exact ⟨hp, ⟨by omega, by omega⟩, Or.inl ⟨rfl, 0, -1, σ2, f1, f2, by omega, Or.inl ⟨rfl, fun v hv => by obtain ⟨_, i, hi, _⟩ := hv; omega⟩, rfl, rfl⟩⟩
    · have hpE : (0 ≤ p ∧ p < 3) = False := eq_false hp
      (obtain ⟨mh, mp0, mp2, mp3, mp4, mp5, mp6, mp7, mp8, mp9, mp10, mp11, mp12, mp13, mp14, mp15, mp16, mp17, mp18, mp19, mp20, mp21, mp22, mp24, mp25, mp26, mp27, mq0, mq2, mq3, mq4, mq5, mq6, mq7, mq8, mq9, mq10, mq11, mq12, mq13, mq14, mq15, mq16, mq17, mq18, mq19, mq20, mq21, mq22, mq24, mq25, mq26, mq27⟩ := (show LModel lay ρ _ from hL); unfold wps; simp only [hpE, si_iload_n0, si_iload_n1, si_iload_n2, si_iload_n3, si_iload, si_lload_n0, si_lload_n1, si_lload_n2, si_lload_n3, si_lload, si_aload_n0, si_aload_n1, si_aload_n2, si_aload_n3, si_aload, si_istore_n0, si_istore_n1, si_istore_n2, si_istore_n3, si_istore, si_astore_n0, si_astore_n1, si_astore_n2, si_astore_n3, si_astore, si_lstore_n0, si_lstore_n1, si_lstore_n2, si_lstore_n3, si_lstore, si_iconst, si_bipush, si_sipush, si_ldc, si_ldc2_w, si_lconst0, si_lconst1, si_aconst_null, si_iinc, si_dup, si_dup2, si_iadd, si_isub, si_imul, si_idiv, si_irem, si_iand, si_ior, si_ishl, si_ishr, si_ladd, si_lmul, si_lor, si_lxor, si_lshl, si_lushr, si_lcmp, si_i2b, si_i2l, si_l2i, si_icmp_eq, si_icmp_ne, si_icmp_lt, si_icmp_ge, si_icmp_gt, si_icmp_le, si_if_eq, si_if_ne, si_if_lt, si_if_ge, si_if_gt, si_if_le, si_ifnull, si_ifnonnull, si_goto, si_tableswitch, si_lookupswitch, si_getfield, si_putfield, si_getstatic, si_iaload, si_baload, si_laload, si_aaload, si_iastore, si_bastore, si_lastore, si_aastore, si_arraylength, si_new, si_newarray, si_anewarray, si_invokevirtual, si_invokespecial, si_invokestatic, si_ireturn, si_lreturn, si_areturn, si_return_, pI_e, pL_e, pR_e, pA_r, pA_n, pN_n, pN_r, oI_e, oL_e, oA_r, oA_n, lget_e, lrm1_0, lrm2_0, lrm1_i, lrm1_r, lrm1_n, lrm1_l, lrm2_i, lrm2_r, lrm2_n, lrm2_l, popN_0, popN_s, acat_i, acat_l, acat_r, acat_n, stw_0, stw_s, psh_s, psh_n, wgf_r, wgf_i, wgf_b, wgf_n, wgf_m, wpf_i, wpf_r, wpf_b, wnew_e, callE_e, rbk_0, rbk_1, tsw_0, tsw_s, lsw_0, lsw_s, wp_s, wq_t, wq_f, oV_e, pick_0, pick_s, oZ_e, oY_e, r_Model_way_0, r_Model_way_1, r_Model_way_4, r_Model_way_7, r_Model_way_8, r_Model_way_9, r_Model_way_10, r_Model_way_13, r_Model_way_16, r_Model_way_17, r_Model_way_20, r_Model_way_21, r_Model_way_22, r_Model_way_25, r_Model_way_26, r_Model_way_27, r_Model_way_28, r_Model_way_29, r_Model_way_30, r_Model_way_31, r_Model_way_32, r_Model_way_35, r_Model_way_36, r_Model_way_37, r_Model_way_40, r_Model_way_41, r_Model_way_44, r_Model_way_45, r_Model_way_48, r_Model_way_49, r_Model_way_51, r_Model_way_52, r_Model_way_54, r_Model_way_56, r_Model_way_57, r_Model_way_60, r_Model_way_61, r_Model_way_62, r_Model_way_65, r_Model_way_66, r_Model_way_67, r_Model_way_68, r_Model_way_71, r_Model_way_73, r_Model_way_74, r_Model_way_75, r_Model_way_77, r_Model_way_78, r_Model_way_79, r_Model_way_82, r_Model_way_84, r_Model_way_86, r_Model_way_89, r_Model_way_90, r_Model_way_93, r_Model_way_95, r_Model_way_96, r_Model_way_99, r_Model_way_101, r_Model_way_104, r_Model_way_105, r_Model_way_108, r_Model_way_110, r_Model_way_111, r_Model_way_112, r_Model_way_115, r_Model_way_117, r_Model_way_118, r_Model_way_121, r_Model_way_122, r_Model_way_125, r_Model_way_127, r_Model_way_128, r_Model_way_129, r_Model_way_132, r_Model_way_134, r_Model_way_135, r_Model_way_138, r_Model_way_139, r_Model_way_140, r_Model_way_142, r_Model_way_145, r_Model_way_146, r_Model_way_147, r_Model_way_149, r_Model_way_152, r_Model_way_155, r_Model_way_157, r_Model_way_159, r_Model_way_162, r_Model_way_165, r_Model_way_167, r_Model_way_170, r_Model_way_171, r_Model_way_172, r_Model_way_173, r_Model_way_174, r_Model_way_177, r_Model_way_179, r_Model_way_181, r_Model_way_183, r_Model_way_186, r_Model_way_187, r_Model_way_190, r_Model_way_191, r_Model_way_194, r_Model_way_195, r_Model_way_196, r_Model_way_198, r_Model_way_201, r_Model_way_202, r_Model_way_203, r_Model_way_204, r_Model_way_207, r_Model_way_208, r_Model_way_209, r_Model_way_212, r_Model_way_213, r_Model_way_216, r_Model_way_218, r_Model_way_219, r_Model_way_222, r_Model_way_223, r_Model_way_226, r_Model_way_227, r_Model_way_228, r_Model_way_230, r_Model_way_231, r_Model_way_234, r_Model_way_236, r_Model_way_237, r_Model_way_238, r_Model_way_239, r_Model_way_240, r_Model_way_241, r_Model_way_244, r_Model_way_245, r_Model_way_248, r_Model_way_249, r_Model_way_252, r_Model_way_254, r_Model_way_257, r_Model_way_258, r_Model_way_261, xf_Model_way_56, xf_Model_way_59, xf_Model_way_72, xf_Model_way_75, xf_Model_way_200, xe_Model_way_646, xe_Model_way_608, xe_Model_way_660, xe_Model_way_768, xe_Model_way_784, xd_Model_way, xrb_Model_way, xin_Model_way, T_Model_isPicture_e, TF_Model_isPicture, T_Model_find_e, T_Model_numberOf_e, TF_Model_numberOf, T_Model_leads_e, TF_Model_leads, T_Model_measure_e, TF_Model_measure, mh, mp0, mp2, mp3, mp4, mp5, mp6, mp7, mp8, mp9, mp10, mp11, mp12, mp13, mp14, mp15, mp16, mp17, mp18, mp19, mp20, mp21, mp22, mp24, mp25, mp26, mp27, mq0, mq2, mq3, mq4, mq5, mq6, mq7, mq8, mq9, mq10, mq11, mq12, mq13, mq14, mq15, mq16, mq17, mq18, mq19, mq20, mq21, mq22, mq24, mq25, mq26, mq27, Nat.reduceAdd, Nat.reduceMul, Nat.reduceEqDiff, reduceIte, Int.reduceNeg, Int.reduceLE, Int.reduceLT, Int.reduceAdd, Int.reduceSub, Int.reduceToNat, true_and, and_true, inR_e, Nat.reduceLT, Nat.reduceLeDiff, reduceCtorEq, Nat.add_zero, Nat.zero_add, or_false, false_or, or_true, true_or, not_true_eq_false, not_false_eq_true, Classical.not_not, Nat.add_eq_zero_iff, and_false, false_and, Int.reduceEq, List.mem_cons, List.not_mem_nil, forall_eq_or_imp, forall_eq, false_implies, implies_true, forall_const, aargs_0, aargs_i, aargs_r, aargs_l, aargs_n, nfT_e, eq_self, and_self, Nat.le_refl, fu_s, fu_fu, iu_iu, iu_s, fu_am, fu_a0, fu_0a, iu_l, Nat.reduceBEq, Int.reduceBEq, T_objInit_e]; clear mp0 mp2 mp3 mp4 mp5 mp6 mp7 mp8 mp9 mp10 mp11 mp12 mp13 mp14 mp15 mp16 mp17 mp18 mp19 mp20 mp21 mp22 mp24 mp25 mp26 mp27)
      exact h0 hp
  · intro cp vs M1 hvs hM1 hlen hJ
    rw [hJd] at hJ
    obtain ⟨hp, hJ⟩ := hJ
    have hpE : (0 ≤ p ∧ p < 3) = True := eq_true hp
    replace h1 := h1 hp
    obtain ⟨hS, hR⟩ := hMP hp
    obtain ⟨w0, w1, w2, w3, w4, w5, w6, w7, w8, w9, w10, w11, w12, w13, w14⟩ := (show SW U len st from hS)
    obtain ⟨⟨hs, hf⟩, hJ⟩ := hJ
    have hs01 : s = 0 ∨ s = 1 := by omega
    have hE : ∀ x v, edg U st s x v → 0 ≤ v ∧ v < st 0 7 := fun x v h => edg_R hS h
    have MU1 : ∀ a b M, μ 54 [vR o, vI p, vI x, vI s, vI a, vI b] M = (9000 - b).toNat := fun a b M => by rw [hμ]; simp only [gI_e, List.getD_cons_succ, List.getD_cons_zero, reduceIte]
    have MU2 : ∀ a b M, μ 181 [vR o, vI p, vI x, vI s, vI a, vI b] M = if b < 0 then 0 else (2000 - M.2.2.2.2.1 o 23).toNat := fun a b M => by rw [hμ]; simp only [gI_e, List.getD_cons_succ, List.getD_cons_zero, Nat.reduceEqDiff, reduceIte]
    have fe : ∀ (s1 : Nat → Int → Int) (x : Int) (k : Option AV → Mm → Prop), MR s1 o p U len st → TF_Model_find o p x sz sl lay ρ s1 τ k = k (some (vI (fn U st x))) (sz, sl, lay, ρ, s1, τ) := fun s1 x k h => find_e hL hS h
    rcases hJ with ⟨rfl, r, b, σ1, g1, g2, g3, g4, rfl, rfl⟩ | ⟨rfl, b, z, q, j, σ1, g1, g2, g3, g4, g5, g6, g7, rfl, rfl⟩
    · have hR1 := (g1.mr hR)
      obtain ⟨hB, hl3, ⟨m4, m5, m6⟩, ⟨m7, m8, m9⟩, m12, ⟨m14, m13⟩, m15, ⟨m17, m16⟩, m26⟩ := (show MR σ1 o p U len st from hR1)
      obtain ⟨b1, b2, b3, b4, b5, b6, b7⟩ := (show MB σ1 o p U len (st 1) from hB)
      have fR := hS.fnR (st 3 r)
      have bR : b = -1 ∨ ((0 ≤ b ∧ b < st 0 7) ∧ 0 ≤ σ1 (o + 21) b) := by
        rcases g4 with y | ⟨⟨_, i, hi, e⟩, y2, _⟩
        · exact Or.inl y.1
        · have := hS.fnR (st 3 i)
          exact Or.inr ⟨by omega, y2.2⟩
      (obtain ⟨mh, mp0, mp2, mp3, mp4, mp5, mp6, mp7, mp8, mp9, mp10, mp11, mp12, mp13, mp14, mp15, mp16, mp17, mp18, mp19, mp20, mp21, mp22, mp24, mp25, mp26, mp27, mq0, mq2, mq3, mq4, mq5, mq6, mq7, mq8, mq9, mq10, mq11, mq12, mq13, mq14, mq15, mq16, mq17, mq18, mq19, mq20, mq21, mq22, mq24, mq25, mq26, mq27⟩ := (show LModel lay ρ _ from hL); unfold wps; simp only [Option.getD_some, List.zip_cons_cons, List.zip_nil_left, List.zip_nil_right, List.zip_nil_right, MB_fu, MR_fu, fe, hR1, si_iload_n0, si_iload_n1, si_iload_n2, si_iload_n3, si_iload, si_lload_n0, si_lload_n1, si_lload_n2, si_lload_n3, si_lload, si_aload_n0, si_aload_n1, si_aload_n2, si_aload_n3, si_aload, si_istore_n0, si_istore_n1, si_istore_n2, si_istore_n3, si_istore, si_astore_n0, si_astore_n1, si_astore_n2, si_astore_n3, si_astore, si_lstore_n0, si_lstore_n1, si_lstore_n2, si_lstore_n3, si_lstore, si_iconst, si_bipush, si_sipush, si_ldc, si_ldc2_w, si_lconst0, si_lconst1, si_aconst_null, si_iinc, si_dup, si_dup2, si_iadd, si_isub, si_imul, si_idiv, si_irem, si_iand, si_ior, si_ishl, si_ishr, si_ladd, si_lmul, si_lor, si_lxor, si_lshl, si_lushr, si_lcmp, si_i2b, si_i2l, si_l2i, si_icmp_eq, si_icmp_ne, si_icmp_lt, si_icmp_ge, si_icmp_gt, si_icmp_le, si_if_eq, si_if_ne, si_if_lt, si_if_ge, si_if_gt, si_if_le, si_ifnull, si_ifnonnull, si_goto, si_tableswitch, si_lookupswitch, si_getfield, si_putfield, si_getstatic, si_iaload, si_baload, si_laload, si_aaload, si_iastore, si_bastore, si_lastore, si_aastore, si_arraylength, si_new, si_newarray, si_anewarray, si_invokevirtual, si_invokespecial, si_invokestatic, si_ireturn, si_lreturn, si_areturn, si_return_, pI_e, pL_e, pR_e, pA_r, pA_n, pN_n, pN_r, oI_e, oL_e, oA_r, oA_n, lget_e, lrm1_0, lrm2_0, lrm1_i, lrm1_r, lrm1_n, lrm1_l, lrm2_i, lrm2_r, lrm2_n, lrm2_l, popN_0, popN_s, acat_i, acat_l, acat_r, acat_n, stw_0, stw_s, psh_s, psh_n, wgf_r, wgf_i, wgf_b, wgf_n, wgf_m, wpf_i, wpf_r, wpf_b, wnew_e, callE_e, rbk_0, rbk_1, tsw_0, tsw_s, lsw_0, lsw_s, wp_s, wq_t, wq_f, oV_e, pick_0, pick_s, oZ_e, oY_e, r_Model_way_0, r_Model_way_1, r_Model_way_4, r_Model_way_7, r_Model_way_8, r_Model_way_9, r_Model_way_10, r_Model_way_13, r_Model_way_16, r_Model_way_17, r_Model_way_20, r_Model_way_21, r_Model_way_22, r_Model_way_25, r_Model_way_26, r_Model_way_27, r_Model_way_28, r_Model_way_29, r_Model_way_30, r_Model_way_31, r_Model_way_32, r_Model_way_35, r_Model_way_36, r_Model_way_37, r_Model_way_40, r_Model_way_41, r_Model_way_44, r_Model_way_45, r_Model_way_48, r_Model_way_49, r_Model_way_51, r_Model_way_52, r_Model_way_54, r_Model_way_56, r_Model_way_57, r_Model_way_60, r_Model_way_61, r_Model_way_62, r_Model_way_65, r_Model_way_66, r_Model_way_67, r_Model_way_68, r_Model_way_71, r_Model_way_73, r_Model_way_74, r_Model_way_75, r_Model_way_77, r_Model_way_78, r_Model_way_79, r_Model_way_82, r_Model_way_84, r_Model_way_86, r_Model_way_89, r_Model_way_90, r_Model_way_93, r_Model_way_95, r_Model_way_96, r_Model_way_99, r_Model_way_101, r_Model_way_104, r_Model_way_105, r_Model_way_108, r_Model_way_110, r_Model_way_111, r_Model_way_112, r_Model_way_115, r_Model_way_117, r_Model_way_118, r_Model_way_121, r_Model_way_122, r_Model_way_125, r_Model_way_127, r_Model_way_128, r_Model_way_129, r_Model_way_132, r_Model_way_134, r_Model_way_135, r_Model_way_138, r_Model_way_139, r_Model_way_140, r_Model_way_142, r_Model_way_145, r_Model_way_146, r_Model_way_147, r_Model_way_149, r_Model_way_152, r_Model_way_155, r_Model_way_157, r_Model_way_159, r_Model_way_162, r_Model_way_165, r_Model_way_167, r_Model_way_170, r_Model_way_171, r_Model_way_172, r_Model_way_173, r_Model_way_174, r_Model_way_177, r_Model_way_179, r_Model_way_181, r_Model_way_183, r_Model_way_186, r_Model_way_187, r_Model_way_190, r_Model_way_191, r_Model_way_194, r_Model_way_195, r_Model_way_196, r_Model_way_198, r_Model_way_201, r_Model_way_202, r_Model_way_203, r_Model_way_204, r_Model_way_207, r_Model_way_208, r_Model_way_209, r_Model_way_212, r_Model_way_213, r_Model_way_216, r_Model_way_218, r_Model_way_219, r_Model_way_222, r_Model_way_223, r_Model_way_226, r_Model_way_227, r_Model_way_228, r_Model_way_230, r_Model_way_231, r_Model_way_234, r_Model_way_236, r_Model_way_237, r_Model_way_238, r_Model_way_239, r_Model_way_240, r_Model_way_241, r_Model_way_244, r_Model_way_245, r_Model_way_248, r_Model_way_249, r_Model_way_252, r_Model_way_254, r_Model_way_257, r_Model_way_258, r_Model_way_261, xf_Model_way_56, xf_Model_way_59, xf_Model_way_72, xf_Model_way_75, xf_Model_way_200, xe_Model_way_646, xe_Model_way_608, xe_Model_way_660, xe_Model_way_768, xe_Model_way_784, xd_Model_way, xrb_Model_way, xin_Model_way, T_Model_isPicture_e, TF_Model_isPicture, T_Model_find_e, T_Model_numberOf_e, TF_Model_numberOf, T_Model_leads_e, TF_Model_leads, T_Model_measure_e, TF_Model_measure, mh, mp0, mp2, mp3, mp4, mp5, mp6, mp7, mp8, mp9, mp10, mp11, mp12, mp13, mp14, mp15, mp16, mp17, mp18, mp19, mp20, mp21, mp22, mp24, mp25, mp26, mp27, mq0, mq2, mq3, mq4, mq5, mq6, mq7, mq8, mq9, mq10, mq11, mq12, mq13, mq14, mq15, mq16, mq17, mq18, mq19, mq20, mq21, mq22, mq24, mq25, mq26, mq27, Nat.reduceAdd, Nat.reduceMul, Nat.reduceEqDiff, reduceIte, Int.reduceNeg, Int.reduceLE, Int.reduceLT, Int.reduceAdd, Int.reduceSub, Int.reduceToNat, true_and, and_true, inR_e, Nat.reduceLT, Nat.reduceLeDiff, reduceCtorEq, Nat.add_zero, Nat.zero_add, or_false, false_or, or_true, true_or, not_true_eq_false, not_false_eq_true, Classical.not_not, Nat.add_eq_zero_iff, and_false, false_and, Int.reduceEq, List.mem_cons, List.not_mem_nil, forall_eq_or_imp, forall_eq, false_implies, implies_true, forall_const, aargs_0, aargs_i, aargs_r, aargs_l, aargs_n, nfT_e, eq_self, and_self, Nat.le_refl, fu_s, fu_fu, iu_iu, iu_s, fu_am, fu_a0, fu_0a, iu_l, Nat.reduceBEq, Int.reduceBEq, T_objInit_e]; clear mp0 mp2 mp3 mp4 mp5 mp6 mp7 mp8 mp9 mp10 mp11 mp12 mp13 mp14 mp15 mp16 mp17 mp18 mp19 mp20 mp21 mp22 mp24 mp25 mp26 mp27)
      rw [m17]
      refine ⟨by omega, by omega, fun z => ?_, fun z => ⟨by omega, by omega, by omega, by omega, ?_⟩⟩
      · have hB2 : BgI (σ1 (o + 21)) (numA U (st 2)) (fun v => edg U st s (-1) v) b := g4.c (fun v => by
          constructor
          · intro ⟨h0, i, hi, e⟩
            exact Or.inl ⟨rfl, h0, i, by omega, e⟩
          · intro h
            rcases h with ⟨_, h0, i, hi, e⟩ | ⟨h, _⟩
            · exact ⟨h0, i, by omega, e⟩
            · omega)
        refine ⟨fun hb => ⟨?_, ?_⟩, fun hb => h1.2.1 hs hf.1 (fun v k hv => ?_) σ1 g1⟩
        · rw [hJd]
          refine ⟨hp, ⟨hs, hf⟩, Or.inr ⟨rfl, b, b, fun _ => b, 0, _, g1.qw.fd, ?_, by omega, ?_, Or.inl ⟨rfl, ?_, ?_⟩, ?_, fun i hi => by omega, rfl, rfl⟩⟩
          · simp only [fu_0a, Nat.reduceBEq]; exact g2
          · simp only [fu_0a, Nat.reduceBEq]; exact hB2
          · simp only [fu_0a, Nat.reduceBEq]; omega
          · simp only [fu_0a, Nat.reduceBEq]
            exact ⟨rfl, fun i hi => ⟨by show 0 ≤ b ∧ b < st 0 7; omega, by show σ1 (o + 21) b = σ1 (o + 21) b - (i : Int); omega⟩, fun i hi => by omega⟩
          · rw [fu_s, iu_s]; rfl
        · rw [MU1, MU2, if_neg (by omega)]
          simp only [fu_s, iu_s]
          omega
        · rcases hB2 with y | y
          · rcases g2 v (hE _ _ hv) with q | q
            · exact q.2 k
            · have := y.2 v hv
              omega
          · omega
      · rw [m16 r (by omega)]
        have S1 : ∀ v, (0 ≤ v ∧ ∃ i, (0 ≤ i ∧ i < r + 1) ∧ fn U st (st 3 i) = v) → (0 ≤ v ∧ ∃ i, (0 ≤ i ∧ i < r) ∧ fn U st (st 3 i) = v) ∨ v = fn U st (st 3 r) := fun v ⟨h0, i, hi, e⟩ => by
          by_cases e2 : i = r
          · rw [e2] at e; exact Or.inr e.symm
          · exact Or.inl ⟨h0, i, by omega, e⟩
        have S2 : ∀ v, (0 ≤ v ∧ ∃ i, (0 ≤ i ∧ i < r) ∧ fn U st (st 3 i) = v) → (0 ≤ v ∧ ∃ i, (0 ≤ i ∧ i < r + 1) ∧ fn U st (st 3 i) = v) := fun v ⟨h0, i, hi, e⟩ => ⟨h0, i, by omega, e⟩
        have keep : (0 ≤ fn U st (st 3 r) → σ1 (o + 21) (fn U st (st 3 r)) < 0 ∨ (0 ≤ b ∧ (σ1 (o + 21) b < σ1 (o + 21) (fn U st (st 3 r)) ∨ (σ1 (o + 21) b = σ1 (o + 21) (fn U st (st 3 r)) ∧ numA U (st 2) b ≤ numA U (st 2) (fn U st (st 3 r)))))) → J 54 [vR o, vI p, vI x, vI s, vI b, vI (r + 1)] (sz, sl, lay, ρ, σ1, τ) := fun h => by
          rw [hJd]
          exact ⟨hp, ⟨hs, hf⟩, Or.inl ⟨rfl, r + 1, b, σ1, g1, g2, by omega, g4.keep S1 S2 (fun q => h q.1), rfl, rfl⟩⟩
        have take : 0 ≤ fn U st (st 3 r) → 0 ≤ σ1 (o + 21) (fn U st (st 3 r)) → (b < 0 ∨ σ1 (o + 21) (fn U st (st 3 r)) < σ1 (o + 21) b ∨ (σ1 (o + 21) (fn U st (st 3 r)) = σ1 (o + 21) b ∧ numA U (st 2) (fn U st (st 3 r)) < numA U (st 2) b)) → J 54 [vR o, vI p, vI x, vI s, vI (fn U st (st 3 r)), vI (r + 1)] (sz, sl, lay, ρ, σ1, τ) := fun h0 h2 h => by
          rw [hJd]
          exact ⟨hp, ⟨hs, hf⟩, Or.inl ⟨rfl, r + 1, _, σ1, g1, g2, by omega, g4.take S1 ⟨h0, r, by omega, rfl⟩ ⟨h0, h2⟩ h, rfl, rfl⟩⟩
        simp only [MU1]
        refine ⟨fun a => ⟨by omega, keep (fun q => by omega), by omega⟩, fun a => ⟨by omega, by omega, fun a2 => ⟨by omega, keep (fun _ => Or.inl a2), by omega⟩, fun a2 => ⟨fun a3 => ⟨by omega, take (by omega) (by omega) (Or.inl a3), by omega⟩, fun a3 => ?_⟩⟩⟩
        have tb := hS.tv (i := b) (by omega)
        have tt := hS.tv (i := fn U st (st 3 r)) (by omega)
        have tb0 := tb.1.2.1
        have tb4 := tb.1.2.2.1
        have tt0 := tt.1.2.1
        have tt4 := tt.1.2.2.1
        rw [m13 b (by omega), m13 (fn U st (st 3 r)) (by omega)]
        refine ⟨by omega, by omega, by omega, by omega, fun a4 => ⟨by omega, take (by omega) (by omega) (Or.inr (Or.inl a4)), by omega⟩, fun a4 => ⟨by omega, by omega, by omega, by omega, fun a5 => ⟨by omega, keep (fun _ => Or.inr ⟨by omega, Or.inl (by omega)⟩), by omega⟩, fun a5 => ⟨hL, U, len, st 1, hB, by omega, by omega, hL, U, len, st 1, hB, by omega, by omega, fun a6 => ⟨by omega, keep (fun _ => Or.inr ⟨by omega, Or.inr ⟨by omega, a6⟩⟩), by omega⟩, fun a6 => ⟨by omega, take (by omega) (by omega) (Or.inr (Or.inr ⟨a5, ?_⟩)), by omega⟩⟩⟩⟩
        unfold numA
        omega
    · have hR1 := g1.mr hR
      obtain ⟨hB, hl3, ⟨m4, m5, m6⟩, ⟨m7, m8, m9⟩, m12, ⟨m14, m13⟩, m15, ⟨m17, m16⟩, m26⟩ := (show MR σ1 o p U len st from hR1)
      obtain ⟨b1, b2, b3, b4, b5, b6, b7⟩ := (show MB σ1 o p U len (st 1) from hB)
      have fb : 0 ≤ σ1 (o + 21) b ∧ σ1 (o + 21) b < st 0 7 := by
        rcases g4 with y | y
        · omega
        · rcases g2 b g3 with q | q
          · omega
          · exact q.1
      (obtain ⟨mh, mp0, mp2, mp3, mp4, mp5, mp6, mp7, mp8, mp9, mp10, mp11, mp12, mp13, mp14, mp15, mp16, mp17, mp18, mp19, mp20, mp21, mp22, mp24, mp25, mp26, mp27, mq0, mq2, mq3, mq4, mq5, mq6, mq7, mq8, mq9, mq10, mq11, mq12, mq13, mq14, mq15, mq16, mq17, mq18, mq19, mq20, mq21, mq22, mq24, mq25, mq26, mq27⟩ := (show LModel lay ρ _ from hL); unfold wps; simp only [Option.getD_some, List.zip_cons_cons, List.zip_nil_left, List.zip_nil_right, List.zip_nil_right, MB_fu, MR_fu, fe, hR1, si_iload_n0, si_iload_n1, si_iload_n2, si_iload_n3, si_iload, si_lload_n0, si_lload_n1, si_lload_n2, si_lload_n3, si_lload, si_aload_n0, si_aload_n1, si_aload_n2, si_aload_n3, si_aload, si_istore_n0, si_istore_n1, si_istore_n2, si_istore_n3, si_istore, si_astore_n0, si_astore_n1, si_astore_n2, si_astore_n3, si_astore, si_lstore_n0, si_lstore_n1, si_lstore_n2, si_lstore_n3, si_lstore, si_iconst, si_bipush, si_sipush, si_ldc, si_ldc2_w, si_lconst0, si_lconst1, si_aconst_null, si_iinc, si_dup, si_dup2, si_iadd, si_isub, si_imul, si_idiv, si_irem, si_iand, si_ior, si_ishl, si_ishr, si_ladd, si_lmul, si_lor, si_lxor, si_lshl, si_lushr, si_lcmp, si_i2b, si_i2l, si_l2i, si_icmp_eq, si_icmp_ne, si_icmp_lt, si_icmp_ge, si_icmp_gt, si_icmp_le, si_if_eq, si_if_ne, si_if_lt, si_if_ge, si_if_gt, si_if_le, si_ifnull, si_ifnonnull, si_goto, si_tableswitch, si_lookupswitch, si_getfield, si_putfield, si_getstatic, si_iaload, si_baload, si_laload, si_aaload, si_iastore, si_bastore, si_lastore, si_aastore, si_arraylength, si_new, si_newarray, si_anewarray, si_invokevirtual, si_invokespecial, si_invokestatic, si_ireturn, si_lreturn, si_areturn, si_return_, pI_e, pL_e, pR_e, pA_r, pA_n, pN_n, pN_r, oI_e, oL_e, oA_r, oA_n, lget_e, lrm1_0, lrm2_0, lrm1_i, lrm1_r, lrm1_n, lrm1_l, lrm2_i, lrm2_r, lrm2_n, lrm2_l, popN_0, popN_s, acat_i, acat_l, acat_r, acat_n, stw_0, stw_s, psh_s, psh_n, wgf_r, wgf_i, wgf_b, wgf_n, wgf_m, wpf_i, wpf_r, wpf_b, wnew_e, callE_e, rbk_0, rbk_1, tsw_0, tsw_s, lsw_0, lsw_s, wp_s, wq_t, wq_f, oV_e, pick_0, pick_s, oZ_e, oY_e, r_Model_way_0, r_Model_way_1, r_Model_way_4, r_Model_way_7, r_Model_way_8, r_Model_way_9, r_Model_way_10, r_Model_way_13, r_Model_way_16, r_Model_way_17, r_Model_way_20, r_Model_way_21, r_Model_way_22, r_Model_way_25, r_Model_way_26, r_Model_way_27, r_Model_way_28, r_Model_way_29, r_Model_way_30, r_Model_way_31, r_Model_way_32, r_Model_way_35, r_Model_way_36, r_Model_way_37, r_Model_way_40, r_Model_way_41, r_Model_way_44, r_Model_way_45, r_Model_way_48, r_Model_way_49, r_Model_way_51, r_Model_way_52, r_Model_way_54, r_Model_way_56, r_Model_way_57, r_Model_way_60, r_Model_way_61, r_Model_way_62, r_Model_way_65, r_Model_way_66, r_Model_way_67, r_Model_way_68, r_Model_way_71, r_Model_way_73, r_Model_way_74, r_Model_way_75, r_Model_way_77, r_Model_way_78, r_Model_way_79, r_Model_way_82, r_Model_way_84, r_Model_way_86, r_Model_way_89, r_Model_way_90, r_Model_way_93, r_Model_way_95, r_Model_way_96, r_Model_way_99, r_Model_way_101, r_Model_way_104, r_Model_way_105, r_Model_way_108, r_Model_way_110, r_Model_way_111, r_Model_way_112, r_Model_way_115, r_Model_way_117, r_Model_way_118, r_Model_way_121, r_Model_way_122, r_Model_way_125, r_Model_way_127, r_Model_way_128, r_Model_way_129, r_Model_way_132, r_Model_way_134, r_Model_way_135, r_Model_way_138, r_Model_way_139, r_Model_way_140, r_Model_way_142, r_Model_way_145, r_Model_way_146, r_Model_way_147, r_Model_way_149, r_Model_way_152, r_Model_way_155, r_Model_way_157, r_Model_way_159, r_Model_way_162, r_Model_way_165, r_Model_way_167, r_Model_way_170, r_Model_way_171, r_Model_way_172, r_Model_way_173, r_Model_way_174, r_Model_way_177, r_Model_way_179, r_Model_way_181, r_Model_way_183, r_Model_way_186, r_Model_way_187, r_Model_way_190, r_Model_way_191, r_Model_way_194, r_Model_way_195, r_Model_way_196, r_Model_way_198, r_Model_way_201, r_Model_way_202, r_Model_way_203, r_Model_way_204, r_Model_way_207, r_Model_way_208, r_Model_way_209, r_Model_way_212, r_Model_way_213, r_Model_way_216, r_Model_way_218, r_Model_way_219, r_Model_way_222, r_Model_way_223, r_Model_way_226, r_Model_way_227, r_Model_way_228, r_Model_way_230, r_Model_way_231, r_Model_way_234, r_Model_way_236, r_Model_way_237, r_Model_way_238, r_Model_way_239, r_Model_way_240, r_Model_way_241, r_Model_way_244, r_Model_way_245, r_Model_way_248, r_Model_way_249, r_Model_way_252, r_Model_way_254, r_Model_way_257, r_Model_way_258, r_Model_way_261, xf_Model_way_56, xf_Model_way_59, xf_Model_way_72, xf_Model_way_75, xf_Model_way_200, xe_Model_way_646, xe_Model_way_608, xe_Model_way_660, xe_Model_way_768, xe_Model_way_784, xd_Model_way, xrb_Model_way, xin_Model_way, T_Model_isPicture_e, TF_Model_isPicture, T_Model_find_e, T_Model_numberOf_e, TF_Model_numberOf, T_Model_leads_e, TF_Model_leads, T_Model_measure_e, TF_Model_measure, mh, mp0, mp2, mp3, mp4, mp5, mp6, mp7, mp8, mp9, mp10, mp11, mp12, mp13, mp14, mp15, mp16, mp17, mp18, mp19, mp20, mp21, mp22, mp24, mp25, mp26, mp27, mq0, mq2, mq3, mq4, mq5, mq6, mq7, mq8, mq9, mq10, mq11, mq12, mq13, mq14, mq15, mq16, mq17, mq18, mq19, mq20, mq21, mq22, mq24, mq25, mq26, mq27, Nat.reduceAdd, Nat.reduceMul, Nat.reduceEqDiff, reduceIte, Int.reduceNeg, Int.reduceLE, Int.reduceLT, Int.reduceAdd, Int.reduceSub, Int.reduceToNat, true_and, and_true, inR_e, Nat.reduceLT, Nat.reduceLeDiff, reduceCtorEq, Nat.add_zero, Nat.zero_add, or_false, false_or, or_true, true_or, not_true_eq_false, not_false_eq_true, Classical.not_not, Nat.add_eq_zero_iff, and_false, false_and, Int.reduceEq, List.mem_cons, List.not_mem_nil, forall_eq_or_imp, forall_eq, false_implies, implies_true, forall_const, aargs_0, aargs_i, aargs_r, aargs_l, aargs_n, nfT_e, eq_self, and_self, Nat.le_refl, fu_s, fu_fu, iu_iu, iu_s, fu_am, fu_a0, fu_0a, iu_l, Nat.reduceBEq, Int.reduceBEq, T_objInit_e]; clear mp0 mp2 mp3 mp4 mp5 mp6 mp7 mp8 mp9 mp10 mp11 mp12 mp13 mp14 mp15 mp16 mp17 mp18 mp19 mp20 mp21 mp22 mp24 mp25 mp26 mp27)
      refine ⟨fun h => ?_, fun h => ?_⟩
      · rcases g5 with ⟨y1, y2, y3⟩ | ⟨y1, m, y2, y3, y4⟩
        · have := (y3.2.1 j (Nat.le_refl _)).1
          omega
        · have := h1.2.2 hs hf.1 (m + 1) q (y4.wy g2 hE g4 g3.1 y3) (by omega) σ1 g1 (by rw [g6, y2]) (fun i hi => g7 i (by omega))
          rw [g6, y2]
          exact this
      · rcases g5 with ⟨y1, y2, y3⟩ | ⟨y1, y2⟩
        · have zq := y3.2.1 j (Nat.le_refl _)
          rw [← y1] at zq
          have tv := hS.tv zq.1
          have t0 := tv.1.2.1
          have t4 := tv.1.2.2.1
          have fz : farN (edg U st s) (fn U st x) (σ1 (o + 21) z).toNat z := by
            rcases g2 z zq.1 with q | q
            · omega
            · exact q.2
          rw [m13 z zq.1, g6]
          refine ⟨hL, U, len, st 1, hB, by omega, by omega, by omega, by omega, by omega, by omega, by omega, fun fn0 => ⟨by omega, by omega, by omega, fun e => ?_, fun e => ?_⟩, fun fn0 => ⟨?_, ?_⟩⟩
          · have es : s = 0 := by omega
            subst es
            refine ⟨hL, U, len, st, hS, ?_, zq.1, fun b1 hb1 c => ⟨?_, ?_⟩⟩
            · exact hR1.cg (fun i _ _ => by rw [fu_n (by omega), fu_n (by omega)]) (by rw [fu_n (by omega), fu_n (by omega)])
            · rcases hb1 with ⟨_, no⟩ | ⟨c1, c2, c3, c4⟩
              · exfalso
                have fw := fz.1
                rw [show (σ1 (o + 21) z).toNat = (σ1 (o + 21) z - 1).toNat + 1 by omega] at fw
                obtain ⟨v, ev, wv⟩ := fw
                rcases g2 v (hE _ _ ev) with y | y
                · exact y.2 _ wv
                · have y5 : ¬ (σ1 (o + 21) z - 1).toNat < (σ1 (o + 21) v).toNat := fun a => y.2.2 _ a wv
                  have y6 := no v ev
                  exact fz.2 ((σ1 (o + 21) v).toNat + 1) (by omega) ⟨v, ev, y.2.1⟩
              · rw [hJd]
                refine ⟨hp, ⟨hs, hf⟩, Or.inr ⟨rfl, b, b1, iu q ((j : Int) + 1) b1, j + 1, _, ((g1.up (b := o + 22) (by omega)).fdw (by rw [fu_n (by omega)])).up (b := o + 23) (by omega), ?_, g3, ?_, Or.inl ⟨?_, ?_, ?_⟩, ?_, ?_, rfl, rfl⟩⟩
                · simp only [fu_0a, fu_am, Nat.reduceBEq]; exact g2
                · simp only [fu_0a, fu_am, Nat.reduceBEq]; exact g4
                · rw [show ((j + 1 : Nat) : Int) = (j : Int) + 1 by omega, iu_s]
                · simp only [fu_0a, fu_am, Nat.reduceBEq]; omega
                · simp only [fu_0a, fu_am, Nat.reduceBEq]
                  have zq2 : σ1 (o + 21) (q j) = σ1 (o + 21) b - j := by rw [← y1]; exact zq.2
                  rw [y1] at c2 c4
                  exact y3.ext (hE _ _ (by rw [← y1] at c2; exact c2)) c2 (by omega) (fun v ev fv => c4 v ev (by omega))
                · rw [fu_n (by omega), fu_s, iu_s]; omega
                · simp only [fu_0a, fu_am, fu_s, Nat.reduceBEq]
                  intro i hi
                  by_cases e : i = j
                  · rw [e, iu_s, iu_n (by omega), ← y1]; rfl
                  · rw [iu_n (by omega), iu_n (by omega)]; exact g7 i (by omega)
            · rw [MU2, MU2, if_neg h]
              show (if b1 < 0 then 0 else (2000 - fu (fu (fu σ1 (o + 22) (iu (σ1 (o + 22)) j (two2 U (st 2 z + 1)))) o (iu (σ1 o) 23 (j + 1))) (o + 23) c o 23).toNat) < (2000 - σ1 o 23).toNat
              rw [fu_n (by omega), fu_s, iu_s]
              split <;> omega
          · subst e
            refine ⟨hL, U, len, st, hS, ?_, zq.1, fun b1 hb1 c => ⟨?_, ?_⟩⟩
            · exact hR1.cg (fun i _ _ => by rw [fu_n (by omega), fu_n (by omega)]) (by rw [fu_n (by omega), fu_n (by omega)])
            · rcases hb1 with ⟨_, no⟩ | ⟨c1, c2, c3, c4⟩
              · exfalso
                have fw := fz.1
                rw [show (σ1 (o + 21) z).toNat = (σ1 (o + 21) z - 1).toNat + 1 by omega] at fw
                obtain ⟨v, ev, wv⟩ := fw
                rcases g2 v (hE _ _ ev) with y | y
                · exact y.2 _ wv
                · have y5 : ¬ (σ1 (o + 21) z - 1).toNat < (σ1 (o + 21) v).toNat := fun a => y.2.2 _ a wv
                  have y6 := no v ev
                  exact fz.2 ((σ1 (o + 21) v).toNat + 1) (by omega) ⟨v, ev, y.2.1⟩
              · rw [hJd]
                refine ⟨hp, ⟨hs, hf⟩, Or.inr ⟨rfl, b, b1, iu q ((j : Int) + 1) b1, j + 1, _, ((g1.up (b := o + 22) (by omega)).fdw (by rw [fu_n (by omega)])).up (b := o + 23) (by omega), ?_, g3, ?_, Or.inl ⟨?_, ?_, ?_⟩, ?_, ?_, rfl, rfl⟩⟩
                · simp only [fu_0a, fu_am, Nat.reduceBEq]; exact g2
                · simp only [fu_0a, fu_am, Nat.reduceBEq]; exact g4
                · rw [show ((j + 1 : Nat) : Int) = (j : Int) + 1 by omega, iu_s]
                · simp only [fu_0a, fu_am, Nat.reduceBEq]; omega
                · simp only [fu_0a, fu_am, Nat.reduceBEq]
                  have zq2 : σ1 (o + 21) (q j) = σ1 (o + 21) b - j := by rw [← y1]; exact zq.2
                  rw [y1] at c2 c4
                  exact y3.ext (hE _ _ (by rw [← y1] at c2; exact c2)) c2 (by omega) (fun v ev fv => c4 v ev (by omega))
                · rw [fu_n (by omega), fu_s, iu_s]; omega
                · simp only [fu_0a, fu_am, fu_s, Nat.reduceBEq]
                  intro i hi
                  by_cases e : i = j
                  · rw [e, iu_s, iu_n (by omega), ← y1]; rfl
                  · rw [iu_n (by omega), iu_n (by omega)]; exact g7 i (by omega)
            · rw [MU2, MU2, if_neg h]
              show (if b1 < 0 then 0 else (2000 - fu (fu (fu σ1 (o + 22) (iu (σ1 (o + 22)) j (two2 U (st 2 z + 1)))) o (iu (σ1 o) 23 (j + 1))) (o + 23) c o 23).toNat) < (2000 - σ1 o 23).toNat
              rw [fu_n (by omega), fu_s, iu_s]
              split <;> omega
          · rw [hJd]
            refine ⟨hp, ⟨hs, hf⟩, Or.inr ⟨rfl, b, -1, q, j + 1, _, (g1.up (b := o + 22) (by omega)).fdw (by rw [fu_n (by omega)]), ?_, g3, ?_, Or.inr ⟨rfl, j, rfl, ?_, ?_⟩, ?_, ?_, rfl, rfl⟩⟩
            · simp only [fu_0a, fu_am, Nat.reduceBEq]; exact g2
            · simp only [fu_0a, fu_am, Nat.reduceBEq]; exact g4
            · simp only [fu_0a, fu_am, Nat.reduceBEq]; omega
            · simp only [fu_0a, fu_am, Nat.reduceBEq]; exact y3
            · rw [fu_s, iu_s]; omega
            · simp only [fu_0a, fu_s, Nat.reduceBEq]
              intro i hi
              by_cases e : i = j
              · rw [e, iu_s, ← y1]; rfl
              · rw [iu_n (by omega)]; exact g7 i (by omega)
          · rw [MU2, MU2, if_pos (by omega), if_neg h]
            show 0 < (2000 - σ1 o 23).toNat
            omega
        · omega

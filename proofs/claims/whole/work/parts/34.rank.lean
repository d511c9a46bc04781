/-! ===== the ranking ===== -/
def Ahd (num kp : Int → Int) (y x : Int) : Prop := kp x < kp y ∨ (kp y = kp x ∧ num y < num x)
def RkI (n : Int) (num by_ : Int → Int) (A : Int → Prop) (kp R : Int → Int) (cnt r : Int) : Prop := (0 ≤ cnt ∧ cnt ≤ r) ∧ (∀ i, 0 ≤ i ∧ i < cnt → (0 ≤ R i ∧ R i < n) ∧ A (R i) ∧ ∃ q, (0 ≤ q ∧ q < r) ∧ by_ q = R i) ∧ (∀ i j, 0 ≤ i ∧ i < j ∧ j < cnt → Ahd num kp (R i) (R j)) ∧ (∀ q, 0 ≤ q ∧ q < r → A (by_ q) → ∃ i, (0 ≤ i ∧ i < cnt) ∧ R i = by_ q)
theorem RkI.skip {n : Int} {num by_ : Int → Int} {A : Int → Prop} {kp R : Int → Int} {cnt r : Int} (h : RkI n num by_ A kp R cnt r) (g : ¬ A (by_ r)) : RkI n num by_ A kp R cnt (r + 1) := by
  obtain ⟨h1, h2, h3, h4⟩ := h
  refine ⟨by omega, fun i hi => ?_, h3, fun q hq a => ?_⟩
  · obtain ⟨a, b, q, hq, e⟩ := h2 i hi
    exact ⟨a, b, q, by omega, e⟩
  · by_cases e : q = r
    · rw [e] at a; exact absurd a g
    · exact h4 q (by omega) a
theorem RkI.ins {n : Int} {num by_ : Int → Int} {A : Int → Prop} {kp R : Int → Int} {cnt r : Int} (h : RkI n num by_ A kp R cnt r) (hr : 0 ≤ r ∧ r < n) (g : A (by_ r)) (hb : 0 ≤ by_ r ∧ by_ r < n) (hm : ∀ q, 0 ≤ q ∧ q < r → num (by_ q) < num (by_ r)) {i : Int} (hi : 0 ≤ i ∧ i ≤ cnt) (hl : i = 0 ∨ kp (by_ r) ≤ kp (R (i - 1))) (hg : ∀ p, i ≤ p ∧ p < cnt → kp (R p) < kp (by_ r)) : RkI n num by_ A kp (insA R i cnt (by_ r)) (cnt + 1) (r + 1) := by
  obtain ⟨h1, h2, h3, h4⟩ := h
  have row : ∀ p, 0 ≤ p ∧ p < cnt + 1 → (p < i ∧ insA R i cnt (by_ r) p = R p) ∨ (p = i ∧ insA R i cnt (by_ r) p = by_ r) ∨ (i < p ∧ insA R i cnt (by_ r) p = R (p - 1)) := by
    intro p hp
    have : p < i ∨ p = i ∨ i < p := by omega
    rcases this with w | w | w
    · exact Or.inl ⟨w, insA_lo w⟩
    · exact Or.inr (Or.inl ⟨w, by rw [w]; exact insA_at⟩)
    · exact Or.inr (Or.inr ⟨w, insA_hi (by omega)⟩)
  have lw : ∀ p, 0 ≤ p ∧ p < i → Ahd num kp (R p) (by_ r) := by
    intro p hp
    have k1 : kp (by_ r) ≤ kp (R p) := by
      rcases hl with hl | hl
      · omega
      · by_cases e : p = i - 1
        · rw [e]; exact hl
        · have := h3 p (i - 1) (by omega)
          rcases this with w | w <;> omega
    obtain ⟨-, -, q, hq, e⟩ := h2 p (by omega)
    have := hm q hq
    rw [e] at this
    by_cases e2 : kp (R p) = kp (by_ r)
    · exact Or.inr ⟨e2, this⟩
    · exact Or.inl (by omega)
  refine ⟨by omega, fun p hp => ?_, fun p q hpq => ?_, fun q hq a => ?_⟩
  · rcases row p (by omega) with ⟨w, e⟩ | ⟨w, e⟩ | ⟨w, e⟩ <;> rw [e]
    · obtain ⟨a, b, q, hq, e2⟩ := h2 p (by omega)
      exact ⟨a, b, q, by omega, e2⟩
    · exact ⟨hb, g, r, by omega, rfl⟩
    · obtain ⟨a, b, q, hq, e2⟩ := h2 (p - 1) (by omega)
      exact ⟨a, b, q, by omega, e2⟩
  · rcases row p (by omega) with ⟨w, e⟩ | ⟨w, e⟩ | ⟨w, e⟩ <;> rcases row q (by omega) with ⟨w2, e2⟩ | ⟨w2, e2⟩ | ⟨w2, e2⟩ <;> rw [e, e2]
    · exact h3 p q (by omega)
    · exact lw p (by omega)
    · exact h3 p (q - 1) (by omega)
    · omega
    · omega
    · exact Or.inl (hg (q - 1) (by omega))
    · omega
    · omega
    · exact h3 (p - 1) (q - 1) (by omega)
  · by_cases e : q = r
    · exact ⟨i, by omega, by rw [e]; exact insA_at⟩
    · obtain ⟨p, hp, e2⟩ := h4 q (by omega) a
      by_cases w : p < i
      · exact ⟨p, by omega, by rw [insA_lo w]; exact e2⟩
      · refine ⟨p + 1, by omega, ?_⟩
        rw [insA_hi (by omega), show p + 1 - 1 = p by omega]
        exact e2
theorem Ahd.irr {num kp : Int → Int} {x : Int} (h : Ahd num kp x x) : False := by
  rcases h with h | h <;> omega
theorem Ahd.asym {num kp : Int → Int} {x y : Int} (h : Ahd num kp x y) (g : Ahd num kp y x) : False := by
  rcases h with h | h <;> rcases g with g | g <;> omega
section
variable {n : Int} {num by_ : Int → Int} {A : Int → Prop} {kp R : Int → Int} {cnt : Int}
theorem RkI.nmb (h : RkI n num by_ A kp R cnt n) : ∀ k : Nat, k ≤ cnt → cntP (fun y => ∃ j, (0 ≤ j ∧ j < (k : Int)) ∧ R j = y) n.toNat = k
  | 0, _ => cntP_0 _ (fun x _ z => by obtain ⟨j, hj, -⟩ := z; omega)
  | k + 1, hk => by
    have ih := h.nmb k (by omega)
    have h2 := (h.2.1 k (by omega)).1
    rw [cntP_in (P := fun y => ∃ j, (0 ≤ j ∧ j < (k : Int)) ∧ R j = y) (v := R k) (by omega) (fun x _ => ?_) (fun z => ?_), ih]
    · omega
    · constructor
      · intro ⟨j, hj, e⟩
        by_cases w : j = k
        · rw [w] at e; exact Or.inr e.symm
        · exact Or.inl ⟨j, by omega, e⟩
      · intro z
        rcases z with ⟨j, hj, e⟩ | z
        · exact ⟨j, by omega, e⟩
        · exact ⟨k, by omega, z.symm⟩
    · obtain ⟨j, hj, e⟩ := z
      have := h.2.2.1 j k (by omega)
      rw [e] at this
      exact this.irr
theorem RkI.mem (h : RkI n num by_ A kp R cnt n) (hs : ∀ x, 0 ≤ x ∧ x < n → ∃ q, (0 ≤ q ∧ q < n) ∧ by_ q = x) {x : Int} (hx : 0 ≤ x ∧ x < n) : A x ↔ ∃ j, (0 ≤ j ∧ j < cnt) ∧ R j = x := by
  constructor
  · intro a
    obtain ⟨q, hq, e⟩ := hs x hx
    rw [← e] at a ⊢
    exact h.2.2.2 q hq a
  · intro ⟨j, hj, e⟩
    rw [← e]
    exact (h.2.1 j hj).2.1
theorem RkI.all (h : RkI n num by_ A kp R cnt n) (hs : ∀ x, 0 ≤ x ∧ x < n → ∃ q, (0 ≤ q ∧ q < n) ∧ by_ q = x) : cnt = cntP A n.toNat := by
  have := h.nmb cnt.toNat (by have := h.1; omega)
  rw [show ((cnt.toNat : Nat) : Int) = cnt by have := h.1; omega] at this
  rw [← this]
  exact cntP_c (fun x hx => (h.mem hs (by omega)).symm)
theorem RkI.ahd (h : RkI n num by_ A kp R cnt n) (hs : ∀ x, 0 ≤ x ∧ x < n → ∃ q, (0 ≤ q ∧ q < n) ∧ by_ q = x) {i : Int} (hi : 0 ≤ i ∧ i < cnt) : cntP (fun y => A y ∧ Ahd num kp y (R i)) n.toNat = i := by
  have := h.nmb i.toNat (by omega)
  rw [show ((i.toNat : Nat) : Int) = i by omega] at this
  refine Eq.trans (cntP_c (fun x hx => ?_)) this
  constructor
  · intro ⟨a, b⟩
    obtain ⟨j, hj, e⟩ := (h.mem hs (by omega)).mp a
    refine ⟨j, ⟨hj.1, ?_⟩, e⟩
    rw [← e] at b
    have w : j < i ∨ j = i ∨ i < j := by omega
    rcases w with w | w | w
    · omega
    · rw [w] at b; exact b.irr.elim
    · exact (b.asym (h.2.2.1 i j (by omega))).elim
  · intro ⟨j, hj, e⟩
    refine ⟨(h.mem hs (by omega)).mpr ⟨j, by omega, e⟩, ?_⟩
    rw [← e]
    exact h.2.2.1 j i (by omega)
end
def RkF (σ σ0 : Nat → Int → Int) (o : Nat) : Prop := Fr σ σ0 o 4 ∧ σ0 (o + 1) = σ (o + 1) ∧ σ0 (o + 2) = σ (o + 2) ∧ σ0 (o + 3) = σ (o + 3) ∧ σ0 o 5 = σ o 5
theorem co_X2_356 : CallOK RX2 (.invokevirtual 89) (1, 0, 0, 0, T_Things_size) := call_V S_Things_size (by decide) (ci := 7) rfl (by decide +kernel) (by decide +kernel) (by decide +kernel) (by decide +kernel) (by decide +kernel) (by decide +kernel) T_Things_size_r
theorem co_X2_360 : CallOK RX2 (.invokevirtual 90) (2, 1, 0, 0, T_Things_idByRank) := call_V S_Things_idByRank (by decide) (ci := 7) rfl (by decide +kernel) (by decide +kernel) (by decide +kernel) (by decide +kernel) (by decide +kernel) (by decide +kernel) T_Things_idByRank_r
def TF_Life_rank (o : Nat) (t : Nat) (sz sl : Nat) (lay : Nat → Nat × Int) (ρ : Nat → Int → Nat) (σ : Nat → Int → Int) (τ : Nat → Int → Int64) (k : Option AV → Mm → Prop) : Prop := LLife lay ρ o ∧ LThings lay ρ t ∧ (0 ≤ σ t 12 ∧ σ t 12 ≤ 600) ∧ (t + 13 ≤ o) ∧ ThB σ t ∧ (∀ σ2 : Nat → Int → Int, RkF σ σ2 o → RkI (σ t 12) (σ (t + 1)) (σ (t + 7)) (fun x => 0 < σ (o + 2) x) (σ (o + 3)) (σ2 (o + 4)) (σ2 o 4) (σ t 12) → k none (sz, sl, lay, ρ, σ2, τ))
def T_Life_rank : Tr := mkT 2 fun o as M k => pR as fun t as => as = [] ∧ TF_Life_rank o t M.1 M.2.1 M.2.2.1 M.2.2.2.1 M.2.2.2.2.1 M.2.2.2.2.2 k
theorem T_Life_rank_e {o : Nat} {t : Nat} {sz sl : Nat} {lay : Nat → Nat × Int} {ρ : Nat → Int → Nat} {σ : Nat → Int → Int} {τ : Nat → Int → Int64} {k : Option AV → Mm → Prop} : T_Life_rank [vR o, vR t] (sz, sl, lay, ρ, σ, τ) k = (lay o = (12, 0) ∧ TF_Life_rank o t sz sl lay ρ σ τ k) := by simp [T_Life_rank, mkT_e, pI_e, pR_e, pL_e]
theorem T_Life_rank_r (as : List AV) (M : Mm) (k : Option AV → Mm → Prop) (h : T_Life_rank as M k) : ∃ b As, as = vR b :: As ∧ M.2.2.1 b = (10 + 2, 0) := by
  obtain ⟨b, As, h1, h2, -⟩ := mkT_r h
  exact ⟨b, As, h1, h2⟩
def tb_Life_rank : List (Nat × Option (List Nat) × Instr × List Nat) := [(0, none, .aload_n 0, []), (1, none, .iconst 0, []), (2, none, .putfield 24, []), (5, none, .iconst 0, []), (6, none, .istore_n 2, []), (7, some [0, 1, 2], .iload_n 2, []), (8, none, .aload_n 1, []), (9, none, .invokevirtual 89, []), (12, none, .if_icmp .ge 106, [118]), (15, none, .aload_n 1, []), (16, none, .iload_n 2, []), (17, none, .invokevirtual 90, []), (20, none, .istore_n 3, []), (21, none, .aload_n 0, []), (22, none, .iload_n 3, []), (23, none, .invokevirtual 93, []), (26, none, .ifCond .eq 86, [112]), (29, none, .aload_n 0, []), (30, none, .getfield 24, []), (33, none, .sipush 600, []), (36, none, .if_icmp .ge 76, [112]), (39, none, .aload_n 0, []), (40, none, .getfield 24, []), (43, none, .istore 4, []), (45, some [0, 1, 2, 3, 4], .iload 4, []), (47, none, .ifCond .le 47, [94]), (50, none, .aload_n 0, []), (51, none, .aload_n 0, []), (52, none, .getfield 21, []), (55, none, .iload 4, []), (57, none, .iconst 1, []), (58, none, .isub, []), (59, none, .iaload, []), (60, none, .invokevirtual 86, []), (63, none, .aload_n 0, []), (64, none, .getfield 18, []), (67, none, .iload_n 3, []), (68, none, .iaload, []), (69, none, .if_icmp .ge 25, [94]), (72, none, .aload_n 0, []), (73, none, .getfield 21, []), (76, none, .iload 4, []), (78, none, .aload_n 0, []), (79, none, .getfield 21, []), (82, none, .iload 4, []), (84, none, .iconst 1, []), (85, none, .isub, []), (86, none, .iaload, []), (87, none, .iastore, []), (88, none, .iinc 4 (-1), []), (91, none, .goto (-46), [45]), (94, none, .aload_n 0, []), (95, none, .getfield 21, []), (98, none, .iload 4, []), (100, none, .iload_n 3, []), (101, none, .iastore, []), (102, none, .aload_n 0, []), (103, none, .dup, []), (104, none, .getfield 24, []), (107, none, .iconst 1, []), (108, none, .iadd, []), (109, none, .putfield 24, []), (112, none, .iinc 2 1, []), (115, none, .goto (-108), [7]), (118, none, .return_, [])]
def P_Life_rank : Nat → Option (List Nat) × Instr × List Nat := plk tb_Life_rank
theorem r_Life_rank_0 : P_Life_rank 0 = (none, .aload_n 0, []) := by decide +kernel
theorem r_Life_rank_1 : P_Life_rank 1 = (none, .iconst 0, []) := by decide +kernel
theorem r_Life_rank_2 : P_Life_rank 2 = (none, .putfield 24, []) := by decide +kernel
theorem r_Life_rank_5 : P_Life_rank 5 = (none, .iconst 0, []) := by decide +kernel
theorem r_Life_rank_6 : P_Life_rank 6 = (none, .istore_n 2, []) := by decide +kernel
theorem r_Life_rank_7 : P_Life_rank 7 = (some [0, 1, 2], .iload_n 2, []) := by decide +kernel
theorem r_Life_rank_8 : P_Life_rank 8 = (none, .aload_n 1, []) := by decide +kernel
theorem r_Life_rank_9 : P_Life_rank 9 = (none, .invokevirtual 89, []) := by decide +kernel
theorem r_Life_rank_12 : P_Life_rank 12 = (none, .if_icmp .ge 106, [118]) := by decide +kernel
theorem r_Life_rank_15 : P_Life_rank 15 = (none, .aload_n 1, []) := by decide +kernel
theorem r_Life_rank_16 : P_Life_rank 16 = (none, .iload_n 2, []) := by decide +kernel
theorem r_Life_rank_17 : P_Life_rank 17 = (none, .invokevirtual 90, []) := by decide +kernel
theorem r_Life_rank_20 : P_Life_rank 20 = (none, .istore_n 3, []) := by decide +kernel
theorem r_Life_rank_21 : P_Life_rank 21 = (none, .aload_n 0, []) := by decide +kernel
theorem r_Life_rank_22 : P_Life_rank 22 = (none, .iload_n 3, []) := by decide +kernel
theorem r_Life_rank_23 : P_Life_rank 23 = (none, .invokevirtual 93, []) := by decide +kernel
theorem r_Life_rank_26 : P_Life_rank 26 = (none, .ifCond .eq 86, [112]) := by decide +kernel
theorem r_Life_rank_29 : P_Life_rank 29 = (none, .aload_n 0, []) := by decide +kernel
theorem r_Life_rank_30 : P_Life_rank 30 = (none, .getfield 24, []) := by decide +kernel
theorem r_Life_rank_33 : P_Life_rank 33 = (none, .sipush 600, []) := by decide +kernel
theorem r_Life_rank_36 : P_Life_rank 36 = (none, .if_icmp .ge 76, [112]) := by decide +kernel
theorem r_Life_rank_39 : P_Life_rank 39 = (none, .aload_n 0, []) := by decide +kernel
theorem r_Life_rank_40 : P_Life_rank 40 = (none, .getfield 24, []) := by decide +kernel
theorem r_Life_rank_43 : P_Life_rank 43 = (none, .istore 4, []) := by decide +kernel
theorem r_Life_rank_45 : P_Life_rank 45 = (some [0, 1, 2, 3, 4], .iload 4, []) := by decide +kernel
theorem r_Life_rank_47 : P_Life_rank 47 = (none, .ifCond .le 47, [94]) := by decide +kernel
theorem r_Life_rank_50 : P_Life_rank 50 = (none, .aload_n 0, []) := by decide +kernel
theorem r_Life_rank_51 : P_Life_rank 51 = (none, .aload_n 0, []) := by decide +kernel
theorem r_Life_rank_52 : P_Life_rank 52 = (none, .getfield 21, []) := by decide +kernel
theorem r_Life_rank_55 : P_Life_rank 55 = (none, .iload 4, []) := by decide +kernel
theorem r_Life_rank_57 : P_Life_rank 57 = (none, .iconst 1, []) := by decide +kernel
theorem r_Life_rank_58 : P_Life_rank 58 = (none, .isub, []) := by decide +kernel
theorem r_Life_rank_59 : P_Life_rank 59 = (none, .iaload, []) := by decide +kernel
theorem r_Life_rank_60 : P_Life_rank 60 = (none, .invokevirtual 86, []) := by decide +kernel
theorem r_Life_rank_63 : P_Life_rank 63 = (none, .aload_n 0, []) := by decide +kernel
theorem r_Life_rank_64 : P_Life_rank 64 = (none, .getfield 18, []) := by decide +kernel
theorem r_Life_rank_67 : P_Life_rank 67 = (none, .iload_n 3, []) := by decide +kernel
theorem r_Life_rank_68 : P_Life_rank 68 = (none, .iaload, []) := by decide +kernel
theorem r_Life_rank_69 : P_Life_rank 69 = (none, .if_icmp .ge 25, [94]) := by decide +kernel
theorem r_Life_rank_72 : P_Life_rank 72 = (none, .aload_n 0, []) := by decide +kernel
theorem r_Life_rank_73 : P_Life_rank 73 = (none, .getfield 21, []) := by decide +kernel
theorem r_Life_rank_76 : P_Life_rank 76 = (none, .iload 4, []) := by decide +kernel
theorem r_Life_rank_78 : P_Life_rank 78 = (none, .aload_n 0, []) := by decide +kernel
theorem r_Life_rank_79 : P_Life_rank 79 = (none, .getfield 21, []) := by decide +kernel
theorem r_Life_rank_82 : P_Life_rank 82 = (none, .iload 4, []) := by decide +kernel
theorem r_Life_rank_84 : P_Life_rank 84 = (none, .iconst 1, []) := by decide +kernel
theorem r_Life_rank_85 : P_Life_rank 85 = (none, .isub, []) := by decide +kernel
theorem r_Life_rank_86 : P_Life_rank 86 = (none, .iaload, []) := by decide +kernel
theorem r_Life_rank_87 : P_Life_rank 87 = (none, .iastore, []) := by decide +kernel
theorem r_Life_rank_88 : P_Life_rank 88 = (none, .iinc 4 (-1), []) := by decide +kernel
theorem r_Life_rank_91 : P_Life_rank 91 = (none, .goto (-46), [45]) := by decide +kernel
theorem r_Life_rank_94 : P_Life_rank 94 = (none, .aload_n 0, []) := by decide +kernel
theorem r_Life_rank_95 : P_Life_rank 95 = (none, .getfield 21, []) := by decide +kernel
theorem r_Life_rank_98 : P_Life_rank 98 = (none, .iload 4, []) := by decide +kernel
theorem r_Life_rank_100 : P_Life_rank 100 = (none, .iload_n 3, []) := by decide +kernel
theorem r_Life_rank_101 : P_Life_rank 101 = (none, .iastore, []) := by decide +kernel
theorem r_Life_rank_102 : P_Life_rank 102 = (none, .aload_n 0, []) := by decide +kernel
theorem r_Life_rank_103 : P_Life_rank 103 = (none, .dup, []) := by decide +kernel
theorem r_Life_rank_104 : P_Life_rank 104 = (none, .getfield 24, []) := by decide +kernel
theorem r_Life_rank_107 : P_Life_rank 107 = (none, .iconst 1, []) := by decide +kernel
theorem r_Life_rank_108 : P_Life_rank 108 = (none, .iadd, []) := by decide +kernel
theorem r_Life_rank_109 : P_Life_rank 109 = (none, .putfield 24, []) := by decide +kernel
theorem r_Life_rank_112 : P_Life_rank 112 = (none, .iinc 2 1, []) := by decide +kernel
theorem r_Life_rank_115 : P_Life_rank 115 = (none, .goto (-108), [7]) := by decide +kernel
theorem r_Life_rank_118 : P_Life_rank 118 = (none, .return_, []) := by decide +kernel
def E_Life_rank : List (Nat × Ent) := [(344, (2, 2, 0, 0, T_Life_keptOf)), (356, (1, 0, 0, 0, T_Things_size)), (360, (2, 1, 0, 0, T_Things_idByRank)), (372, (2, 1, 0, 0, T_Life_lives))]
def X_Life_rank : Cx := (llk (0, 0, 9) ftX2, llk 99 ntX2, llk none kcX2, llk none klX2, llk dEnt E_Life_rank, 3, 3, false)
theorem xok_Life_rank : Xok RX2 X_Life_rank := xok_of ftX2_ok ntX2_ok kcX2_ok klX2_ok (E := E_Life_rank) (List.forall_mem_cons.mpr ⟨co_X2_344, List.forall_mem_cons.mpr ⟨co_X2_356, List.forall_mem_cons.mpr ⟨co_X2_360, List.forall_mem_cons.mpr ⟨co_X2_372, fun _ h => absurd h List.not_mem_nil⟩⟩⟩⟩)
theorem xf_Life_rank_18 : xfl X_Life_rank 18 = (2, 2, 1) := by decide +kernel
theorem xf_Life_rank_21 : xfl X_Life_rank 21 = (2, 3, 1) := by decide +kernel
theorem xf_Life_rank_24 : xfl X_Life_rank 24 = (2, 4, 0) := by decide +kernel
theorem xe_Life_rank_344 : xE X_Life_rank (4 * 86 + 0) = (2, 2, 0, 0, T_Life_keptOf) := rfl
theorem xe_Life_rank_356 : xE X_Life_rank (4 * 89 + 0) = (1, 0, 0, 0, T_Things_size) := rfl
theorem xe_Life_rank_360 : xE X_Life_rank (4 * 90 + 0) = (2, 1, 0, 0, T_Things_idByRank) := rfl
theorem xe_Life_rank_372 : xE X_Life_rank (4 * 93 + 0) = (2, 1, 0, 0, T_Life_lives) := rfl
theorem xd_Life_rank : xd X_Life_rank = 3 := rfl
theorem xrb_Life_rank : xrb X_Life_rank = 3 := rfl
theorem xin_Life_rank : xin X_Life_rank = false := rfl
set_option maxHeartbeats 4000000 in
set_option maxRecDepth 100000 in
theorem S_Life_rank : Snd yX2_rank cX2_rank 5 none T_Life_rank 3 0 0 := by
  refine snd_of (X := X_Life_rank) (P := P_Life_rank) (tb := tb_Life_rank) (own := RX2) (by decide) rfl rfl (by decide +kernel) xok_Life_rank rfl rk3 (fun h => by first | rfl | cases h) ?_
  intro as M k has hM hT0
  obtain ⟨sz, sl, lay, ρ, σ, τ⟩ := M
  obtain ⟨o, as1, e, hlo, hT1⟩ := mkT_r hT0
  clear hT0
  subst e
  obtain ⟨t, as2, e, hT2⟩ := pR_x hT1
  clear hT1
  subst e
  obtain ⟨e, hT⟩ := hT2
  subst e
  replace hlo : lay o = (12, 0) := hlo
  clear has
  replace hM : ∀ a i, -2147483648 ≤ σ a i ∧ σ a i ≤ 2147483647 := hM
  replace hT : TF_Life_rank o t sz sl lay ρ σ τ k := hT
  unfold TF_Life_rank at hT
  obtain ⟨hF, hL, hn, hto, hB, hT⟩ := hT
  obtain ⟨J, hJd⟩ : ∃ J : Nat → List AV → Mm → Prop, J = (fun c vs M1 => (c = 7 ∧ ∃ (r : Int) (σ1 : Nat → Int → Int), (0 ≤ r ∧ r ≤ σ t 12) ∧ RkF σ σ1 o ∧ RkI (σ t 12) (σ (t + 1)) (σ (t + 7)) (fun x => 0 < σ (o + 2) x) (σ (o + 3)) (σ1 (o + 4)) (σ1 o 4) r ∧ vs = [vR o, vR t, vI r] ∧ M1 = (sz, sl, lay, ρ, σ1, τ)) ∨ (c = 45 ∧ ∃ (r i : Int) (σ1 : Nat → Int → Int), (0 ≤ r ∧ r < σ t 12) ∧ RkF σ σ1 o ∧ RkI (σ t 12) (σ (t + 1)) (σ (t + 7)) (fun x => 0 < σ (o + 2) x) (σ (o + 3)) (σ1 (o + 4)) (σ1 o 4) r ∧ 0 < σ (o + 2) (σ (t + 7) r) ∧ (0 ≤ i ∧ i ≤ σ1 o 4) ∧ (∀ p, i ≤ p ∧ p < σ1 o 4 → σ (o + 3) (σ1 (o + 4) p) < σ (o + 3) (σ (t + 7) r)) ∧ vs = [vR o, vR t, vI r, vI (σ (t + 7) r), vI i] ∧ M1 = (sz, sl, lay, ρ, fu σ1 (o + 4) (shf (σ1 (o + 4)) i (σ1 o 4)), τ))) := ⟨_, rfl⟩
  obtain ⟨μ, hμ⟩ : ∃ μ : Nat → List AV → Mm → Nat, μ = (fun c vs _ => if c = 7 then ((601 - gI (vs.getD 2 vN)) * 2000).toNat else ((601 - gI (vs.getD 2 vN)) * 2000 - 1000 + gI (vs.getD 4 vN)).toNat) := ⟨_, rfl⟩
  refine ⟨Nat.le_of_ble_eq_true rfl, J, μ, 73, ?_, ?_⟩
  · obtain ⟨fh, fp0, fp1, fp2, fp3, fq0, fq1, fq2, fq3⟩ := (show LLife lay ρ _ from hF)
    obtain ⟨lh, lp0, lp1, lp2, lp3, lp4, lp5, lp6, lp7, lp8, lp9, lp10, lp11, lq0, lq1, lq2, lq3, lq4, lq5, lq6, lq7, lq8, lq9, lq10, lq11⟩ := (show LThings lay ρ _ from hL)
    unfold wps
    simp only [si_iload_n0, si_iload_n1, si_iload_n2, si_iload_n3, si_iload, si_lload_n0, si_lload_n1, si_lload_n2, si_lload_n3, si_lload, si_aload_n0, si_aload_n1, si_aload_n2, si_aload_n3, si_aload, si_istore_n0, si_istore_n1, si_istore_n2, si_istore_n3, si_istore, si_astore_n0, si_astore_n1, si_astore_n2, si_astore_n3, si_astore, si_lstore_n0, si_lstore_n1, si_lstore_n2, si_lstore_n3, si_lstore, si_iconst, si_bipush, si_sipush, si_ldc, si_ldc2_w, si_lconst0, si_lconst1, si_aconst_null, si_iinc, si_dup, si_dup2, si_iadd, si_isub, si_imul, si_idiv, si_irem, si_iand, si_ior, si_ishl, si_ishr, si_ladd, si_lmul, si_lor, si_lxor, si_lshl, si_lushr, si_lcmp, si_i2b, si_i2l, si_l2i, si_icmp_eq, si_icmp_ne, si_icmp_lt, si_icmp_ge, si_icmp_gt, si_icmp_le, si_if_eq, si_if_ne, si_if_lt, si_if_ge, si_if_gt, si_if_le, si_ifnull, si_ifnonnull, si_goto, si_tableswitch, si_lookupswitch, si_getfield, si_putfield, si_getstatic, si_iaload, si_baload, si_laload, si_aaload, si_iastore, si_bastore, si_lastore, si_aastore, si_arraylength, si_new, si_newarray, si_anewarray, si_invokevirtual, si_invokespecial, si_invokestatic, si_ireturn, si_lreturn, si_areturn, si_return_, pI_e, pL_e, pR_e, pA_r, pA_n, pN_n, pN_r, oI_e, oL_e, oA_r, oA_n, lget_e, lrm1_0, lrm2_0, lrm1_i, lrm1_r, lrm1_n, lrm1_l, lrm2_i, lrm2_r, lrm2_n, lrm2_l, popN_0, popN_s, acat_i, acat_l, acat_r, acat_n, stw_0, stw_s, psh_s, psh_n, wgf_r, wgf_i, wgf_b, wgf_n, wgf_m, wpf_i, wpf_r, wpf_b, wnew_e, callE_e, rbk_0, rbk_1, tsw_0, tsw_s, lsw_0, lsw_s, wp_s, wq_t, wq_f, oV_e, pick_0, pick_s, oZ_e, oY_e, r_Life_rank_0, r_Life_rank_1, r_Life_rank_2, r_Life_rank_5, r_Life_rank_6, r_Life_rank_7, r_Life_rank_8, r_Life_rank_9, r_Life_rank_12, r_Life_rank_15, r_Life_rank_16, r_Life_rank_17, r_Life_rank_20, r_Life_rank_21, r_Life_rank_22, r_Life_rank_23, r_Life_rank_26, r_Life_rank_29, r_Life_rank_30, r_Life_rank_33, r_Life_rank_36, r_Life_rank_39, r_Life_rank_40, r_Life_rank_43, r_Life_rank_45, r_Life_rank_47, r_Life_rank_50, r_Life_rank_51, r_Life_rank_52, r_Life_rank_55, r_Life_rank_57, r_Life_rank_58, r_Life_rank_59, r_Life_rank_60, r_Life_rank_63, r_Life_rank_64, r_Life_rank_67, r_Life_rank_68, r_Life_rank_69, r_Life_rank_72, r_Life_rank_73, r_Life_rank_76, r_Life_rank_78, r_Life_rank_79, r_Life_rank_82, r_Life_rank_84, r_Life_rank_85, r_Life_rank_86, r_Life_rank_87, r_Life_rank_88, r_Life_rank_91, r_Life_rank_94, r_Life_rank_95, r_Life_rank_98, r_Life_rank_100, r_Life_rank_101, r_Life_rank_102, r_Life_rank_103, r_Life_rank_104, r_Life_rank_107, r_Life_rank_108, r_Life_rank_109, r_Life_rank_112, r_Life_rank_115, r_Life_rank_118, xf_Life_rank_18, xf_Life_rank_21, xf_Life_rank_24, xe_Life_rank_344, xe_Life_rank_356, xe_Life_rank_360, xe_Life_rank_372, xd_Life_rank, xrb_Life_rank, xin_Life_rank, T_Life_keptOf_e, TF_Life_keptOf, T_Things_size_e, TF_Things_size, T_Things_idByRank_e, TF_Things_idByRank, T_Life_lives_e, TF_Life_lives, fu_f1, fu_f2, fu_f3, fu_f4, hto, fu_skip, shf_m1, fh, fp0, fp1, fp2, fp3, fq0, fq1, fq2, fq3, lh, lp0, lp1, lp2, lp3, lp4, lp5, lp6, lp7, lp8, lp9, lp10, lp11, lq0, lq1, lq2, lq3, lq4, lq5, lq6, lq7, lq8, lq9, lq10, lq11, Nat.reduceAdd, Nat.reduceMul, Nat.reduceEqDiff, reduceIte, Int.reduceNeg, Int.reduceLE, Int.reduceLT, Int.reduceAdd, Int.reduceSub, Int.reduceToNat, true_and, and_true, inR_e, Nat.reduceLT, Nat.reduceLeDiff, reduceCtorEq, Nat.add_zero, Nat.zero_add, or_false, false_or, or_true, true_or, not_true_eq_false, not_false_eq_true, Classical.not_not, Nat.add_eq_zero_iff, and_false, false_and, Int.reduceEq, List.mem_cons, List.not_mem_nil, forall_eq_or_imp, forall_eq, false_implies, implies_true, forall_const, aargs_0, aargs_i, aargs_r, aargs_l, aargs_n, nfT_e, eq_self, and_self, Nat.le_refl, fu_s, fu_fu, iu_iu, iu_s, fu_am, fu_a0, fu_0a, iu_l, Nat.reduceBEq, Int.reduceBEq, T_objInit_e]
    clear fp0 fp1 fp2 fp3 lp0 lp1 lp2 lp3 lp4 lp5 lp6 lp7 lp8 lp9 lp10 lp11
    rw [hJd]
    refine Or.inl ⟨rfl, 0, _, by omega, ⟨Fr.rfl'.fu (by omega), fu_0a (by decide), fu_0a (by decide), fu_0a (by decide), by rw [fu_s, iu_l (by decide)]⟩, ?_, rfl, rfl⟩
    rw [fu_s, iu_s]
    exact ⟨by omega, fun i hi => by omega, fun i j hi => by omega, fun q hq => by omega⟩
  · intro cp vs M1 hvs hM1 hlen hJ
    rw [hJd] at hJ
    rcases hJ with ⟨rfl, r, σ1, g1, g2, g3, rfl, rfl⟩ | ⟨rfl, r, i, σ1, g1, g2, g3, g4, g5, g6, rfl, rfl⟩
    · have e0 : σ1 t = σ t := g2.1.lo (by omega)
      have e7 : σ1 (t + 7) = σ (t + 7) := g2.1.lo (by omega)
      have e2 := g2.2.2.1
      have e3 := g2.2.2.2.1
      have h1 := g3.1
      (obtain ⟨fh, fp0, fp1, fp2, fp3, fq0, fq1, fq2, fq3⟩ := (show LLife lay ρ _ from hF); obtain ⟨lh, lp0, lp1, lp2, lp3, lp4, lp5, lp6, lp7, lp8, lp9, lp10, lp11, lq0, lq1, lq2, lq3, lq4, lq5, lq6, lq7, lq8, lq9, lq10, lq11⟩ := (show LThings lay ρ _ from hL); unfold wps; simp only [Option.getD_some, List.zip_cons_cons, List.zip_nil_left, List.zip_nil_right, List.zip_nil_right, e0, e7, e2, e3, si_iload_n0, si_iload_n1, si_iload_n2, si_iload_n3, si_iload, si_lload_n0, si_lload_n1, si_lload_n2, si_lload_n3, si_lload, si_aload_n0, si_aload_n1, si_aload_n2, si_aload_n3, si_aload, si_istore_n0, si_istore_n1, si_istore_n2, si_istore_n3, si_istore, si_astore_n0, si_astore_n1, si_astore_n2, si_astore_n3, si_astore, si_lstore_n0, si_lstore_n1, si_lstore_n2, si_lstore_n3, si_lstore, si_iconst, si_bipush, si_sipush, si_ldc, si_ldc2_w, si_lconst0, si_lconst1, si_aconst_null, si_iinc, si_dup, si_dup2, si_iadd, si_isub, si_imul, si_idiv, si_irem, si_iand, si_ior, si_ishl, si_ishr, si_ladd, si_lmul, si_lor, si_lxor, si_lshl, si_lushr, si_lcmp, si_i2b, si_i2l, si_l2i, si_icmp_eq, si_icmp_ne, si_icmp_lt, si_icmp_ge, si_icmp_gt, si_icmp_le, si_if_eq, si_if_ne, si_if_lt, si_if_ge, si_if_gt, si_if_le, si_ifnull, si_ifnonnull, si_goto, si_tableswitch, si_lookupswitch, si_getfield, si_putfield, si_getstatic, si_iaload, si_baload, si_laload, si_aaload, si_iastore, si_bastore, si_lastore, si_aastore, si_arraylength, si_new, si_newarray, si_anewarray, si_invokevirtual, si_invokespecial, si_invokestatic, si_ireturn, si_lreturn, si_areturn, si_return_, pI_e, pL_e, pR_e, pA_r, pA_n, pN_n, pN_r, oI_e, oL_e, oA_r, oA_n, lget_e, lrm1_0, lrm2_0, lrm1_i, lrm1_r, lrm1_n, lrm1_l, lrm2_i, lrm2_r, lrm2_n, lrm2_l, popN_0, popN_s, acat_i, acat_l, acat_r, acat_n, stw_0, stw_s, psh_s, psh_n, wgf_r, wgf_i, wgf_b, wgf_n, wgf_m, wpf_i, wpf_r, wpf_b, wnew_e, callE_e, rbk_0, rbk_1, tsw_0, tsw_s, lsw_0, lsw_s, wp_s, wq_t, wq_f, oV_e, pick_0, pick_s, oZ_e, oY_e, r_Life_rank_0, r_Life_rank_1, r_Life_rank_2, r_Life_rank_5, r_Life_rank_6, r_Life_rank_7, r_Life_rank_8, r_Life_rank_9, r_Life_rank_12, r_Life_rank_15, r_Life_rank_16, r_Life_rank_17, r_Life_rank_20, r_Life_rank_21, r_Life_rank_22, r_Life_rank_23, r_Life_rank_26, r_Life_rank_29, r_Life_rank_30, r_Life_rank_33, r_Life_rank_36, r_Life_rank_39, r_Life_rank_40, r_Life_rank_43, r_Life_rank_45, r_Life_rank_47, r_Life_rank_50, r_Life_rank_51, r_Life_rank_52, r_Life_rank_55, r_Life_rank_57, r_Life_rank_58, r_Life_rank_59, r_Life_rank_60, r_Life_rank_63, r_Life_rank_64, r_Life_rank_67, r_Life_rank_68, r_Life_rank_69, r_Life_rank_72, r_Life_rank_73, r_Life_rank_76, r_Life_rank_78, r_Life_rank_79, r_Life_rank_82, r_Life_rank_84, r_Life_rank_85, r_Life_rank_86, r_Life_rank_87, r_Life_rank_88, r_Life_rank_91, r_Life_rank_94, r_Life_rank_95, r_Life_rank_98, r_Life_rank_100, r_Life_rank_101, r_Life_rank_102, r_Life_rank_103, r_Life_rank_104, r_Life_rank_107, r_Life_rank_108, r_Life_rank_109, r_Life_rank_112, r_Life_rank_115, r_Life_rank_118, xf_Life_rank_18, xf_Life_rank_21, xf_Life_rank_24, xe_Life_rank_344, xe_Life_rank_356, xe_Life_rank_360, xe_Life_rank_372, xd_Life_rank, xrb_Life_rank, xin_Life_rank, T_Life_keptOf_e, TF_Life_keptOf, T_Things_size_e, TF_Things_size, T_Things_idByRank_e, TF_Things_idByRank, T_Life_lives_e, TF_Life_lives, fu_f1, fu_f2, fu_f3, fu_f4, hto, fu_skip, shf_m1, fh, fp0, fp1, fp2, fp3, fq0, fq1, fq2, fq3, lh, lp0, lp1, lp2, lp3, lp4, lp5, lp6, lp7, lp8, lp9, lp10, lp11, lq0, lq1, lq2, lq3, lq4, lq5, lq6, lq7, lq8, lq9, lq10, lq11, Nat.reduceAdd, Nat.reduceMul, Nat.reduceEqDiff, reduceIte, Int.reduceNeg, Int.reduceLE, Int.reduceLT, Int.reduceAdd, Int.reduceSub, Int.reduceToNat, true_and, and_true, inR_e, Nat.reduceLT, Nat.reduceLeDiff, reduceCtorEq, Nat.add_zero, Nat.zero_add, or_false, false_or, or_true, true_or, not_true_eq_false, not_false_eq_true, Classical.not_not, Nat.add_eq_zero_iff, and_false, false_and, Int.reduceEq, List.mem_cons, List.not_mem_nil, forall_eq_or_imp, forall_eq, false_implies, implies_true, forall_const, aargs_0, aargs_i, aargs_r, aargs_l, aargs_n, nfT_e, eq_self, and_self, Nat.le_refl, fu_s, fu_fu, iu_iu, iu_s, fu_am, fu_a0, fu_0a, iu_l, Nat.reduceBEq, Int.reduceBEq, T_objInit_e]; clear fp0 fp1 fp2 fp3 lp0 lp1 lp2 lp3 lp4 lp5 lp6 lp7 lp8 lp9 lp10 lp11)
      refine ⟨fun h => hT σ1 g2 (by rw [show r = σ t 12 by omega] at g3; exact g3), fun h => ⟨hL, hn, fun a => ?_, fun z => absurd z (by omega)⟩⟩
      have hb := hB.1 r a
      refine ⟨hF, fun b => ⟨fun c => by omega, fun c => ⟨?_, (by rw [hμ]; simp only [gI_e, List.getD_cons_succ, List.getD_cons_zero, Nat.reduceEqDiff, reduceIte]; omega)⟩⟩, fun b => ⟨by omega, ?_, (by rw [hμ]; simp only [gI_e, List.getD_cons_succ, List.getD_cons_zero, Nat.reduceEqDiff, reduceIte]; omega)⟩⟩
      · rw [hJd]
        exact Or.inr ⟨rfl, r, σ1 o 4, σ1, by omega, g2, g3, b.2.2, by omega, fun p hp => by omega, rfl, by rw [shf_c, fu_self]⟩
      · rw [hJd]
        exact Or.inl ⟨rfl, r + 1, σ1, by omega, g2, g3.skip (fun z => b ⟨hb.1, by omega, z⟩), rfl, rfl⟩
    · have e0 : σ1 t = σ t := g2.1.lo (by omega)
      have e7 : σ1 (t + 7) = σ (t + 7) := g2.1.lo (by omega)
      have e2 := g2.2.2.1
      have e3 := g2.2.2.2.1
      have h1 := g3.1
      have hb := hB.1 r (by omega)
      (obtain ⟨fh, fp0, fp1, fp2, fp3, fq0, fq1, fq2, fq3⟩ := (show LLife lay ρ _ from hF); obtain ⟨lh, lp0, lp1, lp2, lp3, lp4, lp5, lp6, lp7, lp8, lp9, lp10, lp11, lq0, lq1, lq2, lq3, lq4, lq5, lq6, lq7, lq8, lq9, lq10, lq11⟩ := (show LThings lay ρ _ from hL); unfold wps; simp only [Option.getD_some, List.zip_cons_cons, List.zip_nil_left, List.zip_nil_right, List.zip_nil_right, e0, e7, e2, e3, si_iload_n0, si_iload_n1, si_iload_n2, si_iload_n3, si_iload, si_lload_n0, si_lload_n1, si_lload_n2, si_lload_n3, si_lload, si_aload_n0, si_aload_n1, si_aload_n2, si_aload_n3, si_aload, si_istore_n0, si_istore_n1, si_istore_n2, si_istore_n3, si_istore, si_astore_n0, si_astore_n1, si_astore_n2, si_astore_n3, si_astore, si_lstore_n0, si_lstore_n1, si_lstore_n2, si_lstore_n3, si_lstore, si_iconst, si_bipush, si_sipush, si_ldc, si_ldc2_w, si_lconst0, si_lconst1, si_aconst_null, si_iinc, si_dup, si_dup2, si_iadd, si_isub, si_imul, si_idiv, si_irem, si_iand, si_ior, si_ishl, si_ishr, si_ladd, si_lmul, si_lor, si_lxor, si_lshl, si_lushr, si_lcmp, si_i2b, si_i2l, si_l2i, si_icmp_eq, si_icmp_ne, si_icmp_lt, si_icmp_ge, si_icmp_gt, si_icmp_le, si_if_eq, si_if_ne, si_if_lt, si_if_ge, si_if_gt, si_if_le, si_ifnull, si_ifnonnull, si_goto, si_tableswitch, si_lookupswitch, si_getfield, si_putfield, si_getstatic, si_iaload, si_baload, si_laload, si_aaload, si_iastore, si_bastore, si_lastore, si_aastore, si_arraylength, si_new, si_newarray, si_anewarray, si_invokevirtual, si_invokespecial, si_invokestatic, si_ireturn, si_lreturn, si_areturn, si_return_, pI_e, pL_e, pR_e, pA_r, pA_n, pN_n, pN_r, oI_e, oL_e, oA_r, oA_n, lget_e, lrm1_0, lrm2_0, lrm1_i, lrm1_r, lrm1_n, lrm1_l, lrm2_i, lrm2_r, lrm2_n, lrm2_l, popN_0, popN_s, acat_i, acat_l, acat_r, acat_n, stw_0, stw_s, psh_s, psh_n, wgf_r, wgf_i, wgf_b, wgf_n, wgf_m, wpf_i, wpf_r, wpf_b, wnew_e, callE_e, rbk_0, rbk_1, tsw_0, tsw_s, lsw_0, lsw_s, wp_s, wq_t, wq_f, oV_e, pick_0, pick_s, oZ_e, oY_e, r_Life_rank_0, r_Life_rank_1, r_Life_rank_2, r_Life_rank_5, r_Life_rank_6, r_Life_rank_7, r_Life_rank_8, r_Life_rank_9, r_Life_rank_12, r_Life_rank_15, r_Life_rank_16, r_Life_rank_17, r_Life_rank_20, r_Life_rank_21, r_Life_rank_22, r_Life_rank_23, r_Life_rank_26, r_Life_rank_29, r_Life_rank_30, r_Life_rank_33, r_Life_rank_36, r_Life_rank_39, r_Life_rank_40, r_Life_rank_43, r_Life_rank_45, r_Life_rank_47, r_Life_rank_50, r_Life_rank_51, r_Life_rank_52, r_Life_rank_55, r_Life_rank_57, r_Life_rank_58, r_Life_rank_59, r_Life_rank_60, r_Life_rank_63, r_Life_rank_64, r_Life_rank_67, r_Life_rank_68, r_Life_rank_69, r_Life_rank_72, r_Life_rank_73, r_Life_rank_76, r_Life_rank_78, r_Life_rank_79, r_Life_rank_82, r_Life_rank_84, r_Life_rank_85, r_Life_rank_86, r_Life_rank_87, r_Life_rank_88, r_Life_rank_91, r_Life_rank_94, r_Life_rank_95, r_Life_rank_98, r_Life_rank_100, r_Life_rank_101, r_Life_rank_102, r_Life_rank_103, r_Life_rank_104, r_Life_rank_107, r_Life_rank_108, r_Life_rank_109, r_Life_rank_112, r_Life_rank_115, r_Life_rank_118, xf_Life_rank_18, xf_Life_rank_21, xf_Life_rank_24, xe_Life_rank_344, xe_Life_rank_356, xe_Life_rank_360, xe_Life_rank_372, xd_Life_rank, xrb_Life_rank, xin_Life_rank, T_Life_keptOf_e, TF_Life_keptOf, T_Things_size_e, TF_Things_size, T_Things_idByRank_e, TF_Things_idByRank, T_Life_lives_e, TF_Life_lives, fu_f1, fu_f2, fu_f3, fu_f4, hto, fu_skip, shf_m1, fh, fp0, fp1, fp2, fp3, fq0, fq1, fq2, fq3, lh, lp0, lp1, lp2, lp3, lp4, lp5, lp6, lp7, lp8, lp9, lp10, lp11, lq0, lq1, lq2, lq3, lq4, lq5, lq6, lq7, lq8, lq9, lq10, lq11, Nat.reduceAdd, Nat.reduceMul, Nat.reduceEqDiff, reduceIte, Int.reduceNeg, Int.reduceLE, Int.reduceLT, Int.reduceAdd, Int.reduceSub, Int.reduceToNat, true_and, and_true, inR_e, Nat.reduceLT, Nat.reduceLeDiff, reduceCtorEq, Nat.add_zero, Nat.zero_add, or_false, false_or, or_true, true_or, not_true_eq_false, not_false_eq_true, Classical.not_not, Nat.add_eq_zero_iff, and_false, false_and, Int.reduceEq, List.mem_cons, List.not_mem_nil, forall_eq_or_imp, forall_eq, false_implies, implies_true, forall_const, aargs_0, aargs_i, aargs_r, aargs_l, aargs_n, nfT_e, eq_self, and_self, Nat.le_refl, fu_s, fu_fu, iu_iu, iu_s, fu_am, fu_a0, fu_0a, iu_l, Nat.reduceBEq, Int.reduceBEq, T_objInit_e]; clear fp0 fp1 fp2 fp3 lp0 lp1 lp2 lp3 lp4 lp5 lp6 lp7 lp8 lp9 lp10 lp11)
      have ins : (i = 0 ∨ σ (o + 3) (σ (t + 7) r) ≤ σ (o + 3) (σ1 (o + 4) (i - 1))) → J 7 [vR o, vR t, vI (r + 1)] (sz, sl, lay, ρ, fu (fu σ1 (o + 4) (iu (shf (σ1 (o + 4)) i (σ1 o 4)) i (σ (t + 7) r))) o (iu (σ1 o) 4 (σ1 o 4 + 1)), τ) := by
        intro w
        rw [hJd]
        refine Or.inl ⟨rfl, r + 1, _, by omega, ⟨(g2.1.fu (by omega)).fu (by omega), by rw [fu_0a (by decide), fu_am (by decide)]; exact g2.2.1, by rw [fu_0a (by decide), fu_am (by decide)]; exact g2.2.2.1, by rw [fu_0a (by decide), fu_am (by decide)]; exact g2.2.2.2.1, by rw [fu_s, iu_l (by decide)]; exact g2.2.2.2.2⟩, ?_, rfl, rfl⟩
        rw [fu_0a (by decide), fu_s, fu_s, iu_s]
        exact g3.ins g1 g4 hb (fun q hq => hB.2.1 q r (by omega)) g5 w g6
      refine ⟨fun h => ⟨by omega, by omega, by omega, by omega, ins (Or.inl (by omega)), (by rw [hμ]; simp only [gI_e, List.getD_cons_succ, List.getD_cons_zero, Nat.reduceEqDiff, reduceIte]; omega)⟩, fun h => ?_⟩
      have hp := (g3.2.1 (i - 1) (by omega)).1
      have hp2 := (g3.2.1 (i - 1) (by omega)).2.1
      refine ⟨by omega, by omega, by omega, hF, fun _ => ⟨by omega, by omega, fun w => ⟨by omega, by omega, by omega, by omega, ins (Or.inr w), (by rw [hμ]; simp only [gI_e, List.getD_cons_succ, List.getD_cons_zero, Nat.reduceEqDiff, reduceIte]; omega)⟩, fun w => ⟨by omega, by omega, by omega, by omega, by omega, by omega, ?_, (by rw [hμ]; simp only [gI_e, List.getD_cons_succ, List.getD_cons_zero, Nat.reduceEqDiff, reduceIte]; omega)⟩⟩, fun z => absurd ⟨hp.1, by omega, hp2⟩ z⟩
      rw [hJd, show i + -1 = i - 1 by omega]
      refine Or.inr ⟨rfl, r, i - 1, σ1, g1, g2, g3, g4, by omega, fun p hp => ?_, rfl, by rw [shf_step (by omega)]⟩
      by_cases e : p = i - 1
      · rw [e]; omega
      · exact g6 p (by omega)

theorem cntP_le {P Q : Int → Prop} : ∀ {N : Nat}, (∀ x : Int, 0 ≤ x ∧ x < N → P x → Q x) → cntP P N ≤ cntP Q N
  | 0, _ => Int.le_refl _
  | N + 1, h => by
    have ih := cntP_le (P := P) (Q := Q) (N := N) (fun x hx => h x (by omega))
    have h1 := h N (by omega)
    by_cases a : P N
    · rw [cntP_st a, cntP_st (h1 a)]; omega
    · rw [cntP_sf a]
      by_cases b : Q N
      · rw [cntP_st b]; omega
      · rw [cntP_sf b]; exact ih
/-! ===== the living, in the graph's own terms ===== -/
def lvP (U : Int → Int) (st : Nat → Int → Int) (x : Int) : Prop := RA (edg U st 0) (-1) x
def dmP (U : Int → Int) (st : Nat → Int → Int) (y x : Int) : Prop := ¬ RA (edg U st 0) y x
noncomputable def hgP (U : Int → Int) (st : Nat → Int → Int) (x : Int) : Int := cntP (fun y => lvP U st y ∧ dmP U st y x) (st 0 7).toNat
def szP (U : Int → Int) (st : Nat → Int → Int) (i : Int) : Int := szv U (st 1) (st 2 i)
noncomputable def ktP (U : Int → Int) (st : Nat → Int → Int) (y : Int) : Int := sumP (fun x => lvP U st x ∧ dmP U st y x) (szP U st) (st 0 7).toNat
/-- b is the keeper of x; -1: there is none -/
def KpR (U : Int → Int) (st : Nat → Int → Int) (x b : Int) : Prop := (b = -1 ∧ ∀ y, 0 ≤ y ∧ y < st 0 7 → lvP U st y → ¬ y = x → ¬ dmP U st y x) ∨ ((0 ≤ b ∧ b < st 0 7) ∧ (lvP U st b ∧ ¬ b = x ∧ dmP U st b x) ∧ ∀ y, 0 ≤ y ∧ y < st 0 7 → lvP U st y → ¬ y = x → dmP U st y x → ¬ y = b → hgP U st y < hgP U st b)
theorem KpR.u {U : Int → Int} {st : Nat → Int → Int} {x b c : Int} (h : KpR U st x b) (g : KpR U st x c) : b = c := by
  rcases h with ⟨h1, h2⟩ | ⟨h1, ⟨h2, h3, h4⟩, h5⟩ <;> rcases g with ⟨g1, g2⟩ | ⟨g1, ⟨g2, g3, g4⟩, g5⟩
  · omega
  · exact absurd g4 (h2 c g1 g2 g3)
  · exact absurd h4 (g2 b h1 h2 h3)
  · by_cases e : b = c
    · exact e
    · have := h5 c g1 g2 g3 g4 (fun z => e z.symm)
      have := g5 b h1 h2 h3 h4 e
      omega
section
variable {σ : Nat → Int → Int} {τ : Nat → Int → Int64} {o : Nat} {U : Int → Int} {len : Int} {st : Nat → Int → Int}
theorem PR.life (h : PR σ τ o U len st) (hn : 0 ≤ st 0 7 ∧ st 0 7 ≤ 600) : (∀ x, 0 ≤ x ∧ x < st 0 7 → (0 < σ (o + 35 + 2) x ↔ lvP U st x)) ∧ (∀ x, 0 ≤ x ∧ x < st 0 7 → lvP U st x → σ (o + 35 + 2) x = hgP U st x) ∧ (∀ x, 0 ≤ x ∧ x < st 0 7 → lvP U st x → σ (o + 35 + 3) x = ktP U st x) ∧ (∀ x, 0 ≤ x ∧ x < st 0 7 → lvP U st x → KpR U st x (σ (o + 35 + 1) x)) ∧ σ (o + 35) 5 = sumP (fun x => lvP U st x) (szP U st) (st 0 7).toNat := by
  obtain ⟨⟨b1, b2, b3, b4, b5⟩, ⟨bp, hI⟩, -, ⟨l1, l2, l3, l4, l5, l6, l7⟩, -⟩ := h
  have n12 := b3.1
  have eg := gX_e b3 b4 hn.1 (s := 0)
  unfold SpW at hI
  rw [eg, n12] at hI
  rw [eg] at l1 l2
  rw [n12] at l3 l5 l6
  have lv : ∀ x, Lv (σ (o + 27 + 1)) (σ (o + 27) 3) x ↔ (0 ≤ x ∧ x < st 0 7) ∧ lvP U st x := by
    intro x
    constructor
    · intro z
      have := hI.lv_ra.mp z
      have r := hI.lv_R z
      exact ⟨r, this.2⟩
    · intro z
      exact hI.lv_ra.mpr ⟨z.1.1, z.2⟩
  have fx : ∀ x, Lv (σ (o + 27 + 1)) (σ (o + 27) 3) x → ∀ y, 0 ≤ y → (Ch (σ (o + 35 + 1)) y x ↔ dmP U st y x) := fun x hx y hy => l1.fix hI l2 hx hy
  have fx2 : ∀ x, Lv (σ (o + 27 + 1)) (σ (o + 27) 3) x → ∀ y, 0 ≤ y → (Ch (σ (o + 35 + 1)) y x ↔ lvP U st y ∧ dmP U st y x) := by
    intro x hx y hy
    constructor
    · intro z
      exact ⟨((lv y).mp ((l1.ch hI z hx.w).1.v hy)).2, (fx x hx y hy).mp z⟩
    · intro z
      exact (fx x hx y hy).mpr z.2
  have szE : ∀ x : Int, 0 ≤ x ∧ x < ((st 0 7).toNat : Int) → σ (o + 8 + 5) x = szP U st x := fun x hx => (b3.2.2.2.2.2.1 x (by omega)).1.2.2.2.2
  have hgE : ∀ x, Lv (σ (o + 27 + 1)) (σ (o + 27) 3) x → cntP (fun y => Ch (σ (o + 35 + 1)) y x) (st 0 7).toNat = hgP U st x := fun x hx => cntP_c (fun y hy => fx2 x hx y hy.1)
  have hpos : ∀ x, 0 ≤ x ∧ x < st 0 7 → lvP U st x → 1 ≤ hgP U st x := by
    intro x hx hl
    have hL := (lv x).mpr ⟨hx, hl⟩
    rw [← hgE x hL]
    have k := l1.h2 hI hL
    have := @cntP_R (fun y => Ch (σ (o + 35 + 1)) y (σ (o + 35 + 1) x)) (st 0 7).toNat
    omega
  refine ⟨fun x hx => ?_, fun x hx hl => ?_, fun x hx hl => ?_, fun x hx hl => ?_, ?_⟩
  · constructor
    · intro z
      by_cases e : Lv (σ (o + 27 + 1)) (σ (o + 27) 3) x
      · exact ((lv x).mp e).2
      · have := l4 x (by omega) e
        omega
    · intro z
      have hL := (lv x).mpr ⟨hx, z⟩
      rw [l3 x hL, hgE x hL]
      have := hpos x hx z
      omega
  · have hL := (lv x).mpr ⟨hx, hl⟩
    rw [l3 x hL, hgE x hL]
  · have hL := (lv x).mpr ⟨hx, hl⟩
    rw [l5 x hL]
    refine sumP_c (fun y hy => ?_) szE
    constructor
    · intro z
      exact ⟨((lv y).mp z.1).2, (fx y z.1 x hx.1).mp z.2⟩
    · intro z
      have hLy := (lv y).mpr ⟨by omega, z.1⟩
      exact ⟨hLy, (fx y hLy x hx.1).mpr z.2⟩
  · have hL := (lv x).mpr ⟨hx, hl⟩
    obtain ⟨k1, k2, -, -⟩ := l1 x hL
    have up : ∀ y, 0 ≤ y → ¬ y = x → dmP U st y x → Ch (σ (o + 35 + 1)) y (σ (o + 35 + 1) x) := by
      intro y hy ne hd
      rcases ((fx x hL y hy).mpr hd).cs with e | e
      · exact absurd e ne
      · exact e.2
    rcases hI.lw_c k1 with e | e
    · left
      refine ⟨e, fun y hy _ ne hd => ?_⟩
      have := up y hy.1 ne hd
      rw [e] at this
      have := this.m1
      omega
    · right
      have r := (lv _).mp e
      have ne : ¬ σ (o + 35 + 1) x = x := fun z => by
        rw [z, dv_p hx.1] at k2
        omega
      refine ⟨r.1, ⟨r.2, ne, (fx x hL _ r.1.1).mp (Ch.up hx.1 Ch.rf)⟩, fun y hy hly nex hd neb => ?_⟩
      have hc := up y hy.1 nex hd
      have hLy := (lv y).mpr ⟨hy, hly⟩
      rw [← hgE y hLy, ← hgE _ e]
      have h2 := l1.h2 hI e
      rcases hc.cs with z | z
      · exact absurd z neb
      · rw [h2]
        have mono : cntP (fun w => Ch (σ (o + 35 + 1)) w y) (st 0 7).toNat ≤ cntP (fun w => Ch (σ (o + 35 + 1)) w (σ (o + 35 + 1) (σ (o + 35 + 1) x))) (st 0 7).toNat := by
          refine cntP_le (fun w _ hw => hw.tr z.2)
        omega
  · rw [l6]
    refine sumP_c (fun y hy => ?_) szE
    rw [lv]
    exact ⟨fun z => z.2, fun z => ⟨by omega, z⟩⟩
/-- the ranking, in the graph's own terms -/
theorem PR.rank (h : PR σ τ o U len st) (hn : 0 ≤ st 0 7 ∧ st 0 7 ≤ 600) : σ (o + 35) 4 = cntP (fun x => lvP U st x) (st 0 7).toNat ∧ (∀ i, 0 ≤ i ∧ i < σ (o + 35) 4 → (0 ≤ σ (o + 35 + 4) i ∧ σ (o + 35 + 4) i < st 0 7) ∧ lvP U st (σ (o + 35 + 4) i) ∧ cntP (fun y => lvP U st y ∧ Ahd (numA U (st 2)) (ktP U st) y (σ (o + 35 + 4) i)) (st 0 7).toNat = i) := by
  obtain ⟨q1, q2, q3, -, -⟩ := h.life hn
  obtain ⟨⟨b1, b2, b3, b4, b5⟩, -, -, ⟨l1, l2, l3, l4, l5, l6, l7⟩, -⟩ := h
  have n12 := b3.1
  rw [n12] at l7
  have hs : ∀ x, 0 ≤ x ∧ x < st 0 7 → ∃ q, (0 ≤ q ∧ q < st 0 7) ∧ σ (o + 8 + 7) q = x := by
    have := b3.2.1.2.2
    rw [n12] at this
    exact this
  refine ⟨?_, fun i hi => ?_⟩
  · rw [l7.all hs]
    exact cntP_c (fun x hx => q1 x (by omega))
  · obtain ⟨r1, r2, -⟩ := l7.2.1 i hi
    have hl := (q1 _ r1).mp r2
    refine ⟨r1, hl, ?_⟩
    have := l7.ahd hs hi
    refine Eq.trans (cntP_c (fun y hy => ?_)) this
    rw [q1 y (by omega)]
    constructor
    · intro ⟨z1, z2⟩
      refine ⟨z1, ?_⟩
      unfold Ahd at z2 ⊢
      rw [q3 y (by omega) z1, q3 _ r1 hl, (b3.2.2.2.2.2.1 y (by omega)).1.1, (b3.2.2.2.2.2.1 _ r1).1.1]
      exact z2
    · intro ⟨z1, z2⟩
      refine ⟨z1, ?_⟩
      unfold Ahd at z2 ⊢
      rw [q3 y (by omega) z1, q3 _ r1 hl, (b3.2.2.2.2.2.1 y (by omega)).1.1, (b3.2.2.2.2.2.1 _ r1).1.1] at z2
      exact z2
end

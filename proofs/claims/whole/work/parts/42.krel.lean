/-- the bytes of a tape; 0 beyond its end -/
def tU (σ : Nat → Int → Int) (t : Nat) : Int → Int := fun i => if 0 ≤ i ∧ i < σ t 1 then σ (t + 1) i % 256 else 0
theorem tU_R (σ : Nat → Int → Int) (t : Nat) (x : Int) : 0 ≤ tU σ t x ∧ tU σ t x < 256 := by
  unfold tU
  split <;> omega
theorem tU_i {σ : Nat → Int → Int} {t : Nat} {x : Int} (h : 0 ≤ x ∧ x < σ t 1) : tU σ t x = σ (t + 1) x % 256 := if_pos h
theorem tU_o {σ : Nat → Int → Int} {t : Nat} {x : Int} (h : ¬ (0 ≤ x ∧ x < σ t 1)) : tU σ t x = 0 := if_neg h
theorem tU_c {σ σ2 : Nat → Int → Int} {t : Nat} (h : σ2 t 1 = σ t 1) (g : σ2 (t + 1) = σ (t + 1)) : tU σ2 t = tU σ t := by
  funext x
  unfold tU
  rw [h, g]
/-- the kinds of a picture, as they were read -/
def KR (σ : Nat → Int → Int) (o : Nat) (U A : Int → Int) : Prop := (∀ k, 0 ≤ k ∧ k < 40 → (A k < 0 → σ (o + 1) k = 0) ∧ (0 ≤ A k → ¬ σ (o + 1) k = 0 ∧ σ (o + 2) k = (if U (A k + 2) = 255 then -1 else U (A k + 2)) ∧ σ (o + 3) k = fL U A (ch U A (U (A k + 2))) ∧ σ (o + 4) k = fL U A (ch U A k) ∧ σ (o + 5) k = wL U A (ch U A k) ∧ ∀ i, 0 ≤ i ∧ i < U (A k + 3) → σ (o + 6) (k * 12 + i) = U (A k + 4 + i))) ∧ ∀ y, 0 ≤ σ (o + 3) y ∧ σ (o + 3) y ≤ 1000
section
variable {σ : Nat → Int → Int} {o : Nat} {U A : Int → Int}
theorem KR.kno (h : KR σ o U A) {k : Int} : (0 ≤ k ∧ k < 40 ∧ ¬ σ (o + 1) k = 0) ↔ ((0 ≤ k ∧ k < 40) ∧ 0 ≤ A k) := by
  constructor
  · intro ⟨h1, h2, h3⟩
    refine ⟨⟨h1, h2⟩, ?_⟩
    by_cases e : A k < 0
    · exact absurd ((h.1 k ⟨h1, h2⟩).1 e) h3
    · omega
  · intro ⟨h1, h2⟩
    exact ⟨h1.1, h1.2, ((h.1 k h1).2 h2).1⟩
theorem kSort_e (hK : KW U A) (h : KR σ o U A) {j : Int} : ∀ (f : Nat) (k : Int), kn5 A k → (ch U A k).length ≤ f → 0 ≤ j ∧ j < fL U A (ch U A k) → kSort σ o j f k = sL U A (ch U A k) j
  | 0, k, hk, hl, hj => by
    have : ch U A k = [] := List.eq_nil_of_length_eq_zero (by omega)
    rw [this] at hj
    have : fL U A [] = 0 := rfl
    omega
  | f + 1, k, hk, hl, hj => by
    rcases hk with e | e
    · rw [e, ch_255] at hj
      have : fL U A [] = 0 := rfl
      omega
    · obtain ⟨q1, q2, q3, q4, q5, q6⟩ := (h.1 k e.1).2 e.2
      have hc := ch_k hK e.1 e.2
      rw [hc] at hj hl ⊢
      have hj2 : j < U (A k + 3) + fL U A (ch U A (U (A k + 2))) := hj.2
      have h12 := (hK.2 k e.1 e.2).2.2.1
      rw [show kSort σ o j (f + 1) k = (if 0 ≤ k ∧ k < 40 ∧ ¬ σ (o + 1) k = 0 then (if 0 ≤ j - σ (o + 3) k then (if j - σ (o + 3) k < 12 then σ (o + 6) (k * 12 + (j - σ (o + 3) k)) else -1) else kSort σ o j f (σ (o + 2) k)) else -1) from rfl, if_pos ⟨e.1.1, e.1.2, q1⟩, q3]
      rw [show sL U A (k :: ch U A (U (A k + 2))) j = (if fL U A (ch U A (U (A k + 2))) ≤ j then U (A k + 4 + (j - fL U A (ch U A (U (A k + 2))))) else sL U A (ch U A (U (A k + 2))) j) from rfl]
      by_cases g : fL U A (ch U A (U (A k + 2))) ≤ j
      · rw [if_pos g, if_pos (by omega), if_pos (by omega), q6 _ (by omega)]
      · rw [if_neg g, if_neg (by omega), q2]
        have hp := hK.par e.1 e.2
        have hne : ¬ U (A k + 2) = 255 := fun z => by
          rw [z, ch_255] at g
          exact g hj.1
        rw [if_neg hne]
        rw [List.length_cons] at hl
        exact kSort_e hK h f _ hp (by omega) (by omega)
theorem kDesc_e (hK : KW U A) (h : KR σ o U A) {y : Int} : ∀ (f : Nat) (k : Int), kn5 A k → (ch U A k).length ≤ f → (kDesc σ o y f (if k = 255 then -1 else k) = true ↔ y ∈ ch U A k)
  | 0, k, hk, hl => by
    have : ch U A k = [] := List.eq_nil_of_length_eq_zero (by omega)
    rw [this]
    simp [kDesc]
  | f + 1, k, hk, hl => by
    rcases hk with e | e
    · rw [if_pos e, e, ch_255]
      rw [show kDesc σ o y (f + 1) (-1) = (if 0 ≤ (-1 : Int) ∧ (-1 : Int) < 40 ∧ ¬ σ (o + 1) (-1) = 0 then (if (-1 : Int) = y then true else kDesc σ o y f (σ (o + 2) (-1))) else false) from rfl, if_neg (by omega)]
      simp
    · obtain ⟨q1, q2, q3, q4, q5, q6⟩ := (h.1 k e.1).2 e.2
      have hc := ch_k hK e.1 e.2
      rw [hc] at hl ⊢
      rw [if_neg (by omega)]
      rw [show kDesc σ o y (f + 1) k = (if 0 ≤ k ∧ k < 40 ∧ ¬ σ (o + 1) k = 0 then (if k = y then true else kDesc σ o y f (σ (o + 2) k)) else false) from rfl, if_pos ⟨e.1.1, e.1.2, q1⟩, q2]
      rw [List.length_cons] at hl
      have ih := kDesc_e hK h (y := y) f _ (hK.par e.1 e.2) (by omega)
      by_cases g : k = y
      · rw [if_pos g, g]; simp
      · rw [if_neg g, ih, List.mem_cons]
        constructor
        · exact Or.inr
        · intro z
          rcases z with z | z
          · exact absurd z.symm g
          · exact z
end

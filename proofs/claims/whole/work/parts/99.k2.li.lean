theorem TwS.ct {σ σ1 σ2 σ3 : Nat → Int → Int} {τ τ2 : Nat → Int → Int64} {t o : Nat} (h : TwS σ σ1 τ t o) (e : ∀ j, j ≤ 12 → σ2 (t + j) = σ (t + j)) (eo : ∀ j, j ≤ 3 → σ3 (o + j) = σ1 (o + j)) (et : τ2 (t + 10) = τ (t + 10)) : TwS σ2 σ3 τ2 t o := by
  have h1 := h.cg e
  have eo0 : σ3 o = σ1 o := eo 0 (by omega)
  have eL : LkT σ2 τ2 t = LkT σ2 τ t := by
    funext i j
    unfold LkT
    rw [et]
  have eM : Mem σ2 τ2 t = Mem σ2 τ t := by
    funext x N
    unfold Mem
    rw [eL]
  have eF : Fst σ2 τ2 t = Fst σ2 τ t := by
    funext x
    unfold Fst
    rw [eL]
  have eG : GpT σ2 τ2 t = GpT σ2 τ t := by
    funext x
    unfold GpT
    rw [eF, eM]
  unfold TwS
  rw [eo0, eo 1 (by omega), eo 2 (by omega), eG, eM]
  exact h1
theorem PR.cg {σ σ2 : Nat → Int → Int} {τ τ2 : Nat → Int → Int64} {o : Nat} {U : Int → Int} {len : Int} {st : Nat → Int → Int} (h : PR σ τ o U len st) (e : ∀ j, j ≤ 43 → σ2 (o + j) = σ (o + j)) (et : τ2 (o + 18) = τ (o + 18)) : PR σ2 τ2 o U len st := by
  obtain ⟨h1, h2, h3, h4, h5⟩ := h
  have e8 : ∀ j, j ≤ 15 → σ2 (o + 8 + j) = σ (o + 8 + j) := fun j hj => by rw [Nat.add_assoc]; exact e _ (by omega)
  exact ⟨h1.cg (fun j hj => e j (by omega)) et, h2.cg e8 (fun j hj => by rw [Nat.add_assoc]; exact e _ (by omega)), h3.cg e8 (fun j hj => by rw [Nat.add_assoc]; exact e _ (by omega)), h4.cg e8 (fun j hj => by rw [Nat.add_assoc]; exact e _ (by omega)) (fun j hj => by rw [Nat.add_assoc]; exact e _ (by omega)), h5.ct (fun j hj => e8 j (by omega)) (fun j hj => by rw [Nat.add_assoc]; exact e _ (by omega)) et⟩
theorem PR.zero {σ : Nat → Int → Int} {τ : Nat → Int → Int64} {o : Nat} (h : Zr σ o 43) : PR σ τ o (fun _ => 0) 0 st0 := by
  have z : ∀ j : Nat, j ≤ 43 → ∀ i, σ (o + j) i = 0 := fun j hj i => h (o + j) (by omega) i
  have z0 : ∀ i, σ o i = 0 := z 0 (by omega)
  have s0 : ∀ i, st0 0 i = 0 := fun _ => rfl
  have s1 : ∀ i, st0 1 i = -1 := fun _ => rfl
  have nE : ∀ s u v, ¬ gX σ (o + 8) s u v := by
    intro s u v hg
    rcases hg with ⟨_, hg⟩ | hg
    · obtain ⟨_, i, hi, _⟩ := hg
      rw [show o + 8 + 13 = o + 21 from rfl, z 21 (by omega)] at hi
      omega
    · have := hg.1
      rw [z 8 (by omega)] at this
      omega
  have nL : ∀ w x, w ≤ 40 → ¬ Lv (σ (o + w + 1)) (σ (o + w) 3) x := by
    intro w x hw hx
    obtain ⟨q, hq, _⟩ := hx
    rw [z w (by omega)] at hq
    omega
  have sp : ∀ s w, w ≤ 40 → pW σ (o + 8) (o + w) s := by
    intro s w hw
    refine ⟨fun _ => 0, ?_⟩
    unfold SpW SpF SpI
    rw [z w (by omega)]
    refine ⟨by omega, fun q hq => by omega, fun q r hq => by omega, fun x hx => Or.inl ?_, fun b x hb he => absurd he (nE _ _ _), fun x hx => hx.elim⟩
    exact z (w + 2) (by omega) x
  refine ⟨⟨⟨z0 8, z0 9, z0 10, z0 11⟩, ⟨⟨fun k hk => ⟨fun _ => z 2 (by omega) k, fun q => by rw [s1] at q; omega⟩, fun y => ?_⟩, z 1 (by omega) 6⟩, ?_, ?_, ?_⟩, sp 0 27 (by omega), sp 1 31 (by omega), ?_, ?_⟩
  · rw [z (1 + 3) (by omega)]; omega
  · refine ⟨z 8 (by omega) 12, ?_, ⟨z (8 + 8) (by omega) 0, z (8 + 9) (by omega) 0⟩, fun i hi => ?_, fun i j hij => ?_, fun i hi => ?_, fun j hj => ?_, fun i hi => ?_, ?_⟩
    · unfold ThB
      rw [z 8 (by omega)]
      exact ⟨fun r hr => by omega, fun r s hr => by omega, fun i hi => by omega⟩
    · have a := z (8 + 8) (by omega) i
      have b := z (8 + 9) (by omega) i
      rw [show o + 8 + 8 = o + (8 + 8) from rfl, show o + 8 + 9 = o + (8 + 9) from rfl, a, b]
      omega
    · have a := z (8 + 8) (by omega)
      have b := z (8 + 9) (by omega)
      rw [show o + 8 + 8 = o + (8 + 8) from rfl, show o + 8 + 9 = o + (8 + 9) from rfl, a, a, b, b]
      omega
    · rw [s0] at hi; omega
    · rw [show o + 8 + 9 = o + (8 + 9) from rfl, z (8 + 9) (by omega)] at hj; omega
    · rw [s0] at hi; omega
    · rw [show o + 8 + 9 = o + (8 + 9) from rfl, z (8 + 9) (by omega), z 8 (by omega)]; rfl
  · refine ⟨z 21 (by omega) 2, fun i hi => by rw [s0] at hi; omega, ?_⟩
    rw [z 21 (by omega), s0]; rfl
  · exact ⟨z 24 (by omega) 2, z 24 (by omega) 3, fun i hi => by rw [s0] at hi; omega⟩
  · refine ⟨fun x hx => absurd hx (nL 27 x (by omega)), fun u v hu => absurd hu (nL 27 u (by omega)), fun x hx => absurd hx (nL 27 x (by omega)), fun x _ _ => z (35 + 2) (by omega) x, fun y hy => absurd hy (nL 27 y (by omega)), ?_, ?_⟩
    · rw [z 35 (by omega), z 8 (by omega)]; rfl
    · unfold RkI
      rw [z 35 (by omega), z 8 (by omega)]
      exact ⟨by omega, fun i hi => by omega, fun i j hi => by omega, fun q hq => by omega⟩
  · refine ⟨?_, fun x hx => ?_⟩
    · rw [z 40 (by omega), z 8 (by omega)]; rfl
    · rw [z 8 (by omega)] at hx; omega
theorem MR.zero {σ : Nat → Int → Int} {m : Nat} {p : Int} (hp : 0 ≤ p ∧ p < 3) (h : ∀ a, m ≤ a ∧ a ≤ m + 26 → ¬ a = m + 11 → ∀ i, σ a i = 0) (h11 : ∀ x, 0 ≤ x ∧ x < 120 → σ (m + 11) x = -1) : MR σ m p (fun _ => 0) 0 st0 := by
  have z : ∀ j : Nat, j ≤ 26 → ¬ j = 11 → ∀ i, σ (m + j) i = 0 := fun j hj hn i => h (m + j) (by omega) (by omega) i
  have s0 : ∀ i, st0 0 i = 0 := fun _ => rfl
  have s1 : ∀ i, st0 1 i = -1 := fun _ => rfl
  have sw := SW.st0W (U := fun _ => 0) (len := 0) (fun _ => by omega) (by omega)
  unfold MR MB
  refine ⟨⟨hp, by omega, fun i hi => by omega, fun k hk => ?_, sw.1, fun k _ q => by rw [s1] at q; omega, fun i => by rw [z 2 (by omega) (by omega)]; omega⟩, z 3 (by omega) (by omega) p, ⟨z 4 (by omega) (by omega) p, z 5 (by omega) (by omega) p, z 6 (by omega) (by omega) p⟩, ⟨z 7 (by omega) (by omega) p, z 8 (by omega) (by omega) p, fun i hi => by rw [s0] at hi; omega⟩, z 12 (by omega) (by omega) p, ⟨z 14 (by omega) (by omega) p, fun i hi => by rw [s0] at hi; omega⟩, z 15 (by omega) (by omega) p, ⟨z 17 (by omega) (by omega) p, fun i hi => by rw [s0] at hi; omega⟩, fun x hx => ?_⟩
  · rw [h11 (40 * p + k) (by omega)]; rfl
  · rw [z 26 (by omega) (by omega)]; rfl
/-- what stands between the class and the reference from call to call -/
def LPs (X Mo : Nat) (σ : Nat → Int → Int) (τ : Nat → Int → Int64) : Prop := ∀ p, 0 ≤ p ∧ p < 3 → ∃ (U : Int → Int) (len : Int) (st : Nat → Int → Int), SW U len st ∧ PR σ τ (X + 6 + 44 * p.toNat) U len st ∧ MR σ Mo p U len st
def LTp (X Mo : Nat) (σ : Nat → Int → Int) : Prop := (0 ≤ σ (X + 1) 1 ∧ σ (X + 1) 1 ≤ 8000) ∧ σ Mo 1 = σ (X + 1) 1 ∧ (∀ j, 0 ≤ j ∧ j < σ (X + 1) 1 → σ (X + 2) j = σ (Mo + 1) j) ∧ ∀ j, -128 ≤ σ (Mo + 1) j ∧ σ (Mo + 1) j ≤ 127
def LWy (X Mo : Nat) (σ : Nat → Int → Int) : Prop := (0 ≤ σ (X + 3) 1 ∧ σ (X + 3) 1 ≤ 600) ∧ σ Mo 23 = σ (X + 3) 1 ∧ ∀ j, 0 ≤ j ∧ j < σ (X + 3) 1 → σ (X + 4) j = σ (Mo + 22) j
def LI (X Mo : Nat) (lay : Nat → Nat × Int) (ρ : Nat → Int → Nat) (σ : Nat → Int → Int) (τ : Nat → Int → Int64) : Prop := (LRd lay ρ X ∧ LModel lay ρ Mo ∧ Mo = X + 138) ∧ (Wd lay ρ σ ∧ ρ 0 0 < X) ∧ LPs X Mo σ τ ∧ LTp X Mo σ ∧ LWy X Mo σ
section
variable {X Mo : Nat} {lay : Nat → Nat × Int} {ρ : Nat → Int → Nat} {σ σ2 : Nat → Int → Int} {τ τ2 : Nat → Int → Int64}
theorem LPs.cg (h : LPs X Mo σ τ) (hMo : Mo = X + 138) (e : ∀ x, X + 6 ≤ x ∧ x < Mo → σ2 x = σ x ∧ τ2 x = τ x) (em : ∀ j, 2 ≤ j → j ≤ 17 → σ2 (Mo + j) = σ (Mo + j)) (em2 : σ2 (Mo + 26) = σ (Mo + 26)) : LPs X Mo σ2 τ2 := fun p hp => by
  obtain ⟨U, len, st, h1, h2, h3⟩ := h p hp
  exact ⟨U, len, st, h1, h2.cg (fun j hj => (e _ (by omega)).1) (e _ (by omega)).2, h3.cg em em2⟩
theorem LI.pic (h : LI X Mo lay ρ σ τ) (p : Int) : ∃ (U : Int → Int) (len : Int) (st : Nat → Int → Int), RdP lay ρ σ τ X p U len st ∧ MdP σ Mo p U len st := by
  by_cases hp : 0 ≤ p ∧ p < 3
  · obtain ⟨U, len, st, h1, h2, h3⟩ := h.2.2.1 p hp
    exact ⟨U, len, st, ⟨h.1.1, fun _ => ⟨h1, h2⟩⟩, fun _ => ⟨h1, h3⟩⟩
  · exact ⟨fun _ => 0, 0, fun _ _ => 0, ⟨h.1.1, fun z => absurd z hp⟩, fun z => absurd z hp⟩
theorem Wd.lw (h : Wd lay ρ σ) (hr : ρ 0 0 < X) (e : ∀ x, x < X → σ2 x = σ x) : Wd lay ρ σ2 := by
  unfold Wd
  rw [e _ hr]
  exact h
theorem LI.qf (h : LI X Mo lay ρ σ τ) (q : QF σ σ2 Mo) : LI X Mo lay ρ σ2 τ := by
  obtain ⟨h1, h2, h3, h4, h5⟩ := h
  have hMo := h1.2.2
  refine ⟨h1, ⟨h2.1.lw h2.2 (fun x hx => q x (by omega) (by omega)), h2.2⟩, h3.cg hMo (fun x hx => ⟨q x (by omega) (by omega), rfl⟩) (fun j _ _ => q _ (by omega) (by omega)) (q _ (by omega) (by omega)), ?_, ?_⟩
  · unfold LTp
    rw [q (X + 1) (by omega) (by omega), q (X + 2) (by omega) (by omega), q Mo (by omega) (by omega), q (Mo + 1) (by omega) (by omega)]
    exact h4
  · unfold LWy
    rw [q (X + 3) (by omega) (by omega), q (X + 4) (by omega) (by omega), q Mo (by omega) (by omega), q (Mo + 22) (by omega) (by omega)]
    exact h5
end
theorem pr_about {X Mo sz sl : Nat} {lay : Nat → Nat × Int} {ρ : Nat → Int → Nat} {σ : Nat → Int → Int} {τ : Nat → Int → Int64} {p w : Int} (h : LI X Mo lay ρ σ τ) (k : Option AV → Mm → Prop) (H : ∀ (v : Int) (σ1 : Nat → Int → Int) (τ1 : Nat → Int → Int64), (∀ x, x < X → σ1 x = σ x) → (∀ k2 : Option AV → Mm → Prop, (∀ σ2 : Nat → Int → Int, (∀ x, x < X → σ2 x = σ x) → LI X Mo lay ρ σ2 τ1 → k2 (some (vI v)) (sz, sl, lay, ρ, σ2, τ1)) → TF_Model_about Mo p w sz sl lay ρ σ1 τ1 k2) → k (some (vI v)) (sz, sl, lay, ρ, σ1, τ1)) : TF_PR_about X p w sz sl lay ρ σ τ k := by
  obtain ⟨U, len, st, hRP, hMP⟩ := h.pic p
  have hMo := h.1.2.2
  obtain ⟨v0, hc, hm⟩ := at_about (sz := sz) (sl := sl) (w := w) hRP h.1.2.1 hMP
  exact hc k (H v0 σ τ (fun _ _ => rfl) (fun k2 hk2 => hm k2 (fun σ2 hq => hk2 σ2 (fun x hx => hq x (by omega) (by omega)) (h.qf hq))))
theorem pr_hole {X Mo sz sl : Nat} {lay : Nat → Nat × Int} {ρ : Nat → Int → Nat} {σ : Nat → Int → Int} {τ : Nat → Int → Int64} {p i w : Int} (h : LI X Mo lay ρ σ τ) (k : Option AV → Mm → Prop) (H : ∀ (v : Int) (σ1 : Nat → Int → Int) (τ1 : Nat → Int → Int64), (∀ x, x < X → σ1 x = σ x) → (∀ k2 : Option AV → Mm → Prop, (∀ σ2 : Nat → Int → Int, (∀ x, x < X → σ2 x = σ x) → LI X Mo lay ρ σ2 τ1 → k2 (some (vI v)) (sz, sl, lay, ρ, σ2, τ1)) → TF_Model_hole Mo p i w sz sl lay ρ σ1 τ1 k2) → k (some (vI v)) (sz, sl, lay, ρ, σ1, τ1)) : TF_PR_hole X p i w sz sl lay ρ σ τ k := by
  obtain ⟨U, len, st, hRP, hMP⟩ := h.pic p
  have hMo := h.1.2.2
  obtain ⟨v0, hc, hm⟩ := at_hole (sz := sz) (sl := sl) (i := i) (w := w) hRP h.1.2.1 hMP
  exact hc k (H v0 σ τ (fun _ _ => rfl) (fun k2 hk2 => hm k2 (fun σ2 hq => hk2 σ2 (fun x hx => hq x (by omega) (by omega)) (h.qf hq))))
theorem pr_thing {X Mo sz sl : Nat} {lay : Nat → Nat × Int} {ρ : Nat → Int → Nat} {σ : Nat → Int → Int} {τ : Nat → Int → Int64} {p i : Int} (h : LI X Mo lay ρ σ τ) (k : Option AV → Mm → Prop) (H : ∀ (v : Int) (σ1 : Nat → Int → Int) (τ1 : Nat → Int → Int64), (∀ x, x < X → σ1 x = σ x) → (∀ k2 : Option AV → Mm → Prop, (∀ σ2 : Nat → Int → Int, (∀ x, x < X → σ2 x = σ x) → LI X Mo lay ρ σ2 τ1 → k2 (some (vI v)) (sz, sl, lay, ρ, σ2, τ1)) → TF_Model_thing Mo p i sz sl lay ρ σ1 τ1 k2) → k (some (vI v)) (sz, sl, lay, ρ, σ1, τ1)) : TF_PR_thing X p i sz sl lay ρ σ τ k := by
  obtain ⟨U, len, st, hRP, hMP⟩ := h.pic p
  have hMo := h.1.2.2
  obtain ⟨v0, hc, hm⟩ := at_thing (sz := sz) (sl := sl) (i := i) hRP h.1.2.1 hMP
  exact hc k (H v0 σ τ (fun _ _ => rfl) (fun k2 hk2 => hm k2 (fun σ2 hq => hk2 σ2 (fun x hx => hq x (by omega) (by omega)) (h.qf hq))))
theorem pr_told {X Mo sz sl : Nat} {lay : Nat → Nat × Int} {ρ : Nat → Int → Nat} {σ : Nat → Int → Int} {τ : Nat → Int → Int64} {p x w : Int} (h : LI X Mo lay ρ σ τ) (k : Option AV → Mm → Prop) (H : ∀ (v : Int) (σ1 : Nat → Int → Int) (τ1 : Nat → Int → Int64), (∀ x, x < X → σ1 x = σ x) → (∀ k2 : Option AV → Mm → Prop, (∀ σ2 : Nat → Int → Int, (∀ x, x < X → σ2 x = σ x) → LI X Mo lay ρ σ2 τ1 → k2 (some (vI v)) (sz, sl, lay, ρ, σ2, τ1)) → TF_Model_told Mo p x w sz sl lay ρ σ1 τ1 k2) → k (some (vI v)) (sz, sl, lay, ρ, σ1, τ1)) : TF_PR_told X p x w sz sl lay ρ σ τ k := by
  obtain ⟨U, len, st, hRP, hMP⟩ := h.pic p
  have hMo := h.1.2.2
  obtain ⟨v0, hc, hm⟩ := at_told (sz := sz) (sl := sl) (x := x) (w := w) hRP h.1.2.1 hMP
  exact hc k (H v0 σ τ (fun _ _ => rfl) (fun k2 hk2 => hm k2 (fun σ2 hq => hk2 σ2 (fun x hx => hq x (by omega) (by omega)) (h.qf hq))))
theorem pr_ref {X Mo sz sl : Nat} {lay : Nat → Nat × Int} {ρ : Nat → Int → Nat} {σ : Nat → Int → Int} {τ : Nat → Int → Int64} {p x j : Int} (h : LI X Mo lay ρ σ τ) (k : Option AV → Mm → Prop) (H : ∀ (v : Int) (σ1 : Nat → Int → Int) (τ1 : Nat → Int → Int64), (∀ x, x < X → σ1 x = σ x) → (∀ k2 : Option AV → Mm → Prop, (∀ σ2 : Nat → Int → Int, (∀ x, x < X → σ2 x = σ x) → LI X Mo lay ρ σ2 τ1 → k2 (some (vI v)) (sz, sl, lay, ρ, σ2, τ1)) → TF_Model_ref Mo p x j sz sl lay ρ σ1 τ1 k2) → k (some (vI v)) (sz, sl, lay, ρ, σ1, τ1)) : TF_PR_ref X p x j sz sl lay ρ σ τ k := by
  obtain ⟨U, len, st, hRP, hMP⟩ := h.pic p
  have hMo := h.1.2.2
  obtain ⟨v0, hc, hm⟩ := at_ref (sz := sz) (sl := sl) (x := x) (j := j) hRP h.1.2.1 hMP
  exact hc k (H v0 σ τ (fun _ _ => rfl) (fun k2 hk2 => hm k2 (fun σ2 hq => hk2 σ2 (fun x hx => hq x (by omega) (by omega)) (h.qf hq))))
theorem pr_under {X Mo sz sl : Nat} {lay : Nat → Nat × Int} {ρ : Nat → Int → Nat} {σ : Nat → Int → Int} {τ : Nat → Int → Int64} {p a b : Int} (h : LI X Mo lay ρ σ τ) (k : Option AV → Mm → Prop) (H : ∀ (v : Int) (σ1 : Nat → Int → Int) (τ1 : Nat → Int → Int64), (∀ x, x < X → σ1 x = σ x) → (∀ k2 : Option AV → Mm → Prop, (∀ σ2 : Nat → Int → Int, (∀ x, x < X → σ2 x = σ x) → LI X Mo lay ρ σ2 τ1 → k2 (some (vI v)) (sz, sl, lay, ρ, σ2, τ1)) → TF_Model_under Mo p a b sz sl lay ρ σ1 τ1 k2) → k (some (vI v)) (sz, sl, lay, ρ, σ1, τ1)) : TF_PR_under X p a b sz sl lay ρ σ τ k := by
  obtain ⟨U, len, st, hRP, hMP⟩ := h.pic p
  have hMo := h.1.2.2
  obtain ⟨v0, hc, hm⟩ := at_under (sz := sz) (sl := sl) (a := a) (b := b) hRP h.1.2.1 hMP
  exact hc k (H v0 σ τ (fun _ _ => rfl) (fun k2 hk2 => hm k2 (fun σ2 hq => hk2 σ2 (fun x hx => hq x (by omega) (by omega)) (h.qf hq))))
theorem pr_alive {X Mo sz sl : Nat} {lay : Nat → Nat × Int} {ρ : Nat → Int → Nat} {σ : Nat → Int → Int} {τ : Nat → Int → Int64} {p x : Int} (h : LI X Mo lay ρ σ τ) (k : Option AV → Mm → Prop) (H : ∀ (v : Int) (σ1 : Nat → Int → Int) (τ1 : Nat → Int → Int64), (∀ x, x < X → σ1 x = σ x) → (∀ k2 : Option AV → Mm → Prop, (∀ σ2 : Nat → Int → Int, (∀ x, x < X → σ2 x = σ x) → LI X Mo lay ρ σ2 τ1 → k2 (some (vI v)) (sz, sl, lay, ρ, σ2, τ1)) → TF_Model_alive Mo p x sz sl lay ρ σ1 τ1 k2) → k (some (vI v)) (sz, sl, lay, ρ, σ1, τ1)) : TF_PR_alive X p x sz sl lay ρ σ τ k := by
  obtain ⟨U, len, st, hRP, hMP⟩ := h.pic p
  have hMo := h.1.2.2
  obtain ⟨v0, hc, hm⟩ := at_alive (sz := sz) (sl := sl) (x := x) hRP h.1.2.1 hMP
  exact hc k (H v0 σ τ (fun _ _ => rfl) (fun k2 hk2 => hm k2 (fun σ2 hq => hk2 σ2 (fun x hx => hq x (by omega) (by omega)) (h.qf hq))))
theorem pr_keeper {X Mo sz sl : Nat} {lay : Nat → Nat × Int} {ρ : Nat → Int → Nat} {σ : Nat → Int → Int} {τ : Nat → Int → Int64} {p x : Int} (h : LI X Mo lay ρ σ τ) (k : Option AV → Mm → Prop) (H : ∀ (v : Int) (σ1 : Nat → Int → Int) (τ1 : Nat → Int → Int64), (∀ x, x < X → σ1 x = σ x) → (∀ k2 : Option AV → Mm → Prop, (∀ σ2 : Nat → Int → Int, (∀ x, x < X → σ2 x = σ x) → LI X Mo lay ρ σ2 τ1 → k2 (some (vI v)) (sz, sl, lay, ρ, σ2, τ1)) → TF_Model_keeper Mo p x sz sl lay ρ σ1 τ1 k2) → k (some (vI v)) (sz, sl, lay, ρ, σ1, τ1)) : TF_PR_keeper X p x sz sl lay ρ σ τ k := by
  obtain ⟨U, len, st, hRP, hMP⟩ := h.pic p
  have hMo := h.1.2.2
  obtain ⟨v0, hc, hm⟩ := at_keeper (sz := sz) (sl := sl) (x := x) hRP h.1.2.1 hMP
  exact hc k (H v0 σ τ (fun _ _ => rfl) (fun k2 hk2 => hm k2 (fun σ2 hq => hk2 σ2 (fun x hx => hq x (by omega) (by omega)) (h.qf hq))))
theorem pr_kept {X Mo sz sl : Nat} {lay : Nat → Nat × Int} {ρ : Nat → Int → Nat} {σ : Nat → Int → Int} {τ : Nat → Int → Int64} {p x : Int} (h : LI X Mo lay ρ σ τ) (k : Option AV → Mm → Prop) (H : ∀ (v : Int) (σ1 : Nat → Int → Int) (τ1 : Nat → Int → Int64), (∀ x, x < X → σ1 x = σ x) → (∀ k2 : Option AV → Mm → Prop, (∀ σ2 : Nat → Int → Int, (∀ x, x < X → σ2 x = σ x) → LI X Mo lay ρ σ2 τ1 → k2 (some (vI v)) (sz, sl, lay, ρ, σ2, τ1)) → TF_Model_kept Mo p x sz sl lay ρ σ1 τ1 k2) → k (some (vI v)) (sz, sl, lay, ρ, σ1, τ1)) : TF_PR_kept X p x sz sl lay ρ σ τ k := by
  obtain ⟨U, len, st, hRP, hMP⟩ := h.pic p
  have hMo := h.1.2.2
  obtain ⟨v0, hc, hm⟩ := at_kept (sz := sz) (sl := sl) (x := x) hRP h.1.2.1 hMP
  exact hc k (H v0 σ τ (fun _ _ => rfl) (fun k2 hk2 => hm k2 (fun σ2 hq => hk2 σ2 (fun x hx => hq x (by omega) (by omega)) (h.qf hq))))
theorem pr_height {X Mo sz sl : Nat} {lay : Nat → Nat × Int} {ρ : Nat → Int → Nat} {σ : Nat → Int → Int} {τ : Nat → Int → Int64} {p x : Int} (h : LI X Mo lay ρ σ τ) (k : Option AV → Mm → Prop) (H : ∀ (v : Int) (σ1 : Nat → Int → Int) (τ1 : Nat → Int → Int64), (∀ x, x < X → σ1 x = σ x) → (∀ k2 : Option AV → Mm → Prop, (∀ σ2 : Nat → Int → Int, (∀ x, x < X → σ2 x = σ x) → LI X Mo lay ρ σ2 τ1 → k2 (some (vI v)) (sz, sl, lay, ρ, σ2, τ1)) → TF_Model_height Mo p x sz sl lay ρ σ1 τ1 k2) → k (some (vI v)) (sz, sl, lay, ρ, σ1, τ1)) : TF_PR_height X p x sz sl lay ρ σ τ k := by
  obtain ⟨U, len, st, hRP, hMP⟩ := h.pic p
  have hMo := h.1.2.2
  obtain ⟨v0, hc, hm⟩ := at_height (sz := sz) (sl := sl) (x := x) hRP h.1.2.1 hMP
  exact hc k (H v0 σ τ (fun _ _ => rfl) (fun k2 hk2 => hm k2 (fun σ2 hq => hk2 σ2 (fun x hx => hq x (by omega) (by omega)) (h.qf hq))))
theorem pr_groups {X Mo sz sl : Nat} {lay : Nat → Nat × Int} {ρ : Nat → Int → Nat} {σ : Nat → Int → Int} {τ : Nat → Int → Int64} {p : Int} (h : LI X Mo lay ρ σ τ) (k : Option AV → Mm → Prop) (H : ∀ (v : Int) (σ1 : Nat → Int → Int) (τ1 : Nat → Int → Int64), (∀ x, x < X → σ1 x = σ x) → (∀ k2 : Option AV → Mm → Prop, (∀ σ2 : Nat → Int → Int, (∀ x, x < X → σ2 x = σ x) → LI X Mo lay ρ σ2 τ1 → k2 (some (vI v)) (sz, sl, lay, ρ, σ2, τ1)) → TF_Model_groups Mo p sz sl lay ρ σ1 τ1 k2) → k (some (vI v)) (sz, sl, lay, ρ, σ1, τ1)) : TF_PR_groups X p sz sl lay ρ σ τ k := by
  obtain ⟨U, len, st, hRP, hMP⟩ := h.pic p
  have hMo := h.1.2.2
  obtain ⟨v0, hc, hm⟩ := at_groups (sz := sz) (sl := sl)  hRP h.1.2.1 hMP
  exact hc k (H v0 σ τ (fun _ _ => rfl) (fun k2 hk2 => hm k2 (fun σ2 hq => hk2 σ2 (fun x hx => hq x (by omega) (by omega)) (h.qf hq))))
theorem pr_group {X Mo sz sl : Nat} {lay : Nat → Nat × Int} {ρ : Nat → Int → Nat} {σ : Nat → Int → Int} {τ : Nat → Int → Int64} {p i w : Int} (h : LI X Mo lay ρ σ τ) (k : Option AV → Mm → Prop) (H : ∀ (v : Int) (σ1 : Nat → Int → Int) (τ1 : Nat → Int → Int64), (∀ x, x < X → σ1 x = σ x) → (∀ k2 : Option AV → Mm → Prop, (∀ σ2 : Nat → Int → Int, (∀ x, x < X → σ2 x = σ x) → LI X Mo lay ρ σ2 τ1 → k2 (some (vI v)) (sz, sl, lay, ρ, σ2, τ1)) → TF_Model_group Mo p i w sz sl lay ρ σ1 τ1 k2) → k (some (vI v)) (sz, sl, lay, ρ, σ1, τ1)) : TF_PR_group X p i w sz sl lay ρ σ τ k := by
  obtain ⟨U, len, st, hRP, hMP⟩ := h.pic p
  have hMo := h.1.2.2
  obtain ⟨v0, hc, hm⟩ := at_group (sz := sz) (sl := sl) (i := i) (w := w) hRP h.1.2.1 hMP
  exact hc k (H v0 σ τ (fun _ _ => rfl) (fun k2 hk2 => hm k2 (fun σ2 hq => hk2 σ2 (fun x hx => hq x (by omega) (by omega)) (h.qf hq))))
theorem pr_top {X Mo sz sl : Nat} {lay : Nat → Nat × Int} {ρ : Nat → Int → Nat} {σ : Nat → Int → Int} {τ : Nat → Int → Int64} {p i : Int} (h : LI X Mo lay ρ σ τ) (k : Option AV → Mm → Prop) (H : ∀ (v : Int) (σ1 : Nat → Int → Int) (τ1 : Nat → Int → Int64), (∀ x, x < X → σ1 x = σ x) → (∀ k2 : Option AV → Mm → Prop, (∀ σ2 : Nat → Int → Int, (∀ x, x < X → σ2 x = σ x) → LI X Mo lay ρ σ2 τ1 → k2 (some (vI v)) (sz, sl, lay, ρ, σ2, τ1)) → TF_Model_top Mo p i sz sl lay ρ σ1 τ1 k2) → k (some (vI v)) (sz, sl, lay, ρ, σ1, τ1)) : TF_PR_top X p i sz sl lay ρ σ τ k := by
  obtain ⟨U, len, st, hRP, hMP⟩ := h.pic p
  have hMo := h.1.2.2
  obtain ⟨v0, hc, hm⟩ := at_top (sz := sz) (sl := sl) (i := i) hRP h.1.2.1 hMP
  exact hc k (H v0 σ τ (fun _ _ => rfl) (fun k2 hk2 => hm k2 (fun σ2 hq => hk2 σ2 (fun x hx => hq x (by omega) (by omega)) (h.qf hq))))
theorem pr_value {X Mo sz sl : Nat} {lay : Nat → Nat × Int} {ρ : Nat → Int → Nat} {σ : Nat → Int → Int} {τ : Nat → Int → Int64} {p x j : Int} (h : LI X Mo lay ρ σ τ) (k : Option AV → Mm → Prop) (H : ∀ (v : Int64) (σ1 : Nat → Int → Int) (τ1 : Nat → Int → Int64), (∀ x, x < X → σ1 x = σ x) → (∀ k2 : Option AV → Mm → Prop, (∀ σ2 : Nat → Int → Int, (∀ x, x < X → σ2 x = σ x) → LI X Mo lay ρ σ2 τ1 → k2 (some (vL v)) (sz, sl, lay, ρ, σ2, τ1)) → TF_Model_value Mo p x j sz sl lay ρ σ1 τ1 k2) → k (some (vL v)) (sz, sl, lay, ρ, σ1, τ1)) : TF_PR_value X p x j sz sl lay ρ σ τ k := by
  obtain ⟨U, len, st, hRP, hMP⟩ := h.pic p
  have hMo := h.1.2.2
  obtain ⟨v0, hc, hm⟩ := at_value (sz := sz) (sl := sl) (x := x) (j := j) hRP h.1.2.1 hMP
  exact hc k (H v0 σ τ (fun _ _ => rfl) (fun k2 hk2 => hm k2 (fun σ2 hq => hk2 σ2 (fun x hx => hq x (by omega) (by omega)) (h.qf hq))))
theorem pr_differ {X Mo sz sl : Nat} {lay : Nat → Nat × Int} {ρ : Nat → Int → Nat} {σ : Nat → Int → Int} {τ : Nat → Int → Int64} {p q w : Int} (h : LI X Mo lay ρ σ τ) (k : Option AV → Mm → Prop) (H : ∀ (v : Int) (σ1 : Nat → Int → Int) (τ1 : Nat → Int → Int64), (∀ x, x < X → σ1 x = σ x) → (∀ k2 : Option AV → Mm → Prop, (∀ σ2 : Nat → Int → Int, (∀ x, x < X → σ2 x = σ x) → LI X Mo lay ρ σ2 τ1 → k2 (some (vI v)) (sz, sl, lay, ρ, σ2, τ1)) → TF_Model_differ Mo p q w sz sl lay ρ σ1 τ1 k2) → k (some (vI v)) (sz, sl, lay, ρ, σ1, τ1)) : TF_PR_differ X p q w sz sl lay ρ σ τ k := by
  obtain ⟨U, len, st, hRP, hMP⟩ := h.pic p
  obtain ⟨V, lem, su, hRQ, hMQ⟩ := h.pic q
  have hMo := h.1.2.2
  obtain ⟨v0, hc, hm⟩ := at_differ (sz := sz) (sl := sl) (w := w) hRP hRQ h.1.2.1 hMP hMQ
  exact hc k (H v0 σ τ (fun _ _ => rfl) (fun k2 hk2 => hm k2 (fun σ2 hq => hk2 σ2 (fun x hx => hq x (by omega) (by omega)) (h.qf hq))))
theorem pr_differs {X Mo sz sl : Nat} {lay : Nat → Nat × Int} {ρ : Nat → Int → Nat} {σ : Nat → Int → Int} {τ : Nat → Int → Int64} {p q w y : Int} (h : LI X Mo lay ρ σ τ) (k : Option AV → Mm → Prop) (H : ∀ (v : Int) (σ1 : Nat → Int → Int) (τ1 : Nat → Int → Int64), (∀ x, x < X → σ1 x = σ x) → (∀ k2 : Option AV → Mm → Prop, (∀ σ2 : Nat → Int → Int, (∀ x, x < X → σ2 x = σ x) → LI X Mo lay ρ σ2 τ1 → k2 (some (vI v)) (sz, sl, lay, ρ, σ2, τ1)) → TF_Model_differs Mo p q w y sz sl lay ρ σ1 τ1 k2) → k (some (vI v)) (sz, sl, lay, ρ, σ1, τ1)) : TF_PR_differs X p q w y sz sl lay ρ σ τ k := by
  obtain ⟨U, len, st, hRP, hMP⟩ := h.pic p
  obtain ⟨V, lem, su, hRQ, hMQ⟩ := h.pic q
  have hMo := h.1.2.2
  obtain ⟨v0, hc, hm⟩ := at_differs (sz := sz) (sl := sl) (w := w) (y := y) hRP hRQ h.1.2.1 hMP hMQ
  exact hc k (H v0 σ τ (fun _ _ => rfl) (fun k2 hk2 => hm k2 (fun σ2 hq => hk2 σ2 (fun x hx => hq x (by omega) (by omega)) (h.qf hq))))
theorem pr_grown {X Mo sz sl : Nat} {lay : Nat → Nat × Int} {ρ : Nat → Int → Nat} {σ : Nat → Int → Int} {τ : Nat → Int → Int64} {p q x : Int} (h : LI X Mo lay ρ σ τ) (k : Option AV → Mm → Prop) (H : ∀ (v : Int) (σ1 : Nat → Int → Int) (τ1 : Nat → Int → Int64), (∀ x, x < X → σ1 x = σ x) → (∀ k2 : Option AV → Mm → Prop, (∀ σ2 : Nat → Int → Int, (∀ x, x < X → σ2 x = σ x) → LI X Mo lay ρ σ2 τ1 → k2 (some (vI v)) (sz, sl, lay, ρ, σ2, τ1)) → TF_Model_grown Mo p q x sz sl lay ρ σ1 τ1 k2) → k (some (vI v)) (sz, sl, lay, ρ, σ1, τ1)) : TF_PR_grown X p q x sz sl lay ρ σ τ k := by
  obtain ⟨U, len, st, hRP, hMP⟩ := h.pic p
  obtain ⟨V, lem, su, hRQ, hMQ⟩ := h.pic q
  have hMo := h.1.2.2
  obtain ⟨v0, hc, hm⟩ := at_grown (sz := sz) (sl := sl) (x := x) hRP hRQ h.1.2.1 hMP hMQ
  exact hc k (H v0 σ τ (fun _ _ => rfl) (fun k2 hk2 => hm k2 (fun σ2 hq => hk2 σ2 (fun x hx => hq x (by omega) (by omega)) (h.qf hq))))
theorem pr_step {X Mo sz sl : Nat} {lay : Nat → Nat × Int} {ρ : Nat → Int → Nat} {σ : Nat → Int → Int} {τ : Nat → Int → Int64} {j : Int} (h : LI X Mo lay ρ σ τ) (k : Option AV → Mm → Prop) (H : ∀ (v : Int) (σ1 : Nat → Int → Int) (τ1 : Nat → Int → Int64), (∀ x, x < X → σ1 x = σ x) → (∀ k2 : Option AV → Mm → Prop, (∀ σ2 : Nat → Int → Int, (∀ x, x < X → σ2 x = σ x) → LI X Mo lay ρ σ2 τ1 → k2 (some (vI v)) (sz, sl, lay, ρ, σ2, τ1)) → TF_Model_step Mo j sz sl lay ρ σ1 τ1 k2) → k (some (vI v)) (sz, sl, lay, ρ, σ1, τ1)) : TF_PR_step X j sz sl lay ρ σ τ k := by
  obtain ⟨h1, h2, h3, h4, ⟨h5, h6, h7⟩⟩ := (show LI X Mo lay ρ σ τ from h)
  by_cases hj : 0 ≤ j ∧ j < σ (X + 3) 1
  · refine ⟨h1.1, h5, fun _ => H _ σ τ (fun _ _ => rfl) (fun k2 hk2 => ⟨h1.2.1, by rw [h6]; exact h5, fun _ => ?_, fun z => absurd (by rw [h6]; exact hj) z⟩), fun z => absurd hj z⟩
    rw [← h7 j hj]
    exact hk2 σ (fun _ _ => rfl) h
  · exact ⟨h1.1, h5, fun z => absurd z hj, fun _ => H _ σ τ (fun _ _ => rfl) (fun k2 hk2 => ⟨h1.2.1, by rw [h6]; exact h5, fun z => absurd (by rw [h6] at z; exact z) hj, fun _ => hk2 σ (fun _ _ => rfl) h⟩)⟩
theorem pr_end {X Mo sz sl : Nat} {lay : Nat → Nat × Int} {ρ : Nat → Int → Nat} {σ : Nat → Int → Int} {τ : Nat → Int → Int64} {n : Int} (h : LI X Mo lay ρ σ τ) (k : Option AV → Mm → Prop) (H : ∀ (v : Int) (σ1 : Nat → Int → Int) (τ1 : Nat → Int → Int64), (∀ x, x < X → σ1 x = σ x) → (∀ k2 : Option AV → Mm → Prop, (∀ σ2 : Nat → Int → Int, (∀ x, x < X → σ2 x = σ x) → LI X Mo lay ρ σ2 τ1 → k2 (some (vI v)) (sz, sl, lay, ρ, σ2, τ1)) → TF_Model_end Mo n sz sl lay ρ σ1 τ1 k2) → k (some (vI v)) (sz, sl, lay, ρ, σ1, τ1)) : TF_PR_end X n sz sl lay ρ σ τ k := by
  obtain ⟨h1, h2, h3, ⟨h4, h5, h6, h7⟩, h8⟩ := (show LI X Mo lay ρ σ τ from h)
  have hMo := h1.2.2
  by_cases hn : 0 ≤ n ∧ n ≤ σ (X + 1) 1
  · refine ⟨h1.1, fun _ => H n _ τ (fun x hx => fu_n (by omega)) (fun k2 hk2 => ⟨h1.2.1, fun _ => hk2 _ (fun x hx => by rw [fu_n (by omega), fu_n (by omega)]) ?_, fun z => absurd ?_ z⟩), fun z => absurd hn z⟩
    · have o : ∀ x, ¬ x = Mo → ¬ x = X + 1 → fu (fu σ (X + 1) (iu (σ (X + 1)) 1 n)) Mo (iu (fu σ (X + 1) (iu (σ (X + 1)) 1 n) Mo) 1 n) x = σ x := fun x a b => by rw [fu_n a, fu_n b]
      refine ⟨h1, ⟨h2.1.lw h2.2 (fun x hx => o x (by omega) (by omega)), h2.2⟩, h3.cg hMo (fun x hx => ⟨o x (by omega) (by omega), rfl⟩) (fun j _ _ => o _ (by omega) (by omega)) (o _ (by omega) (by omega)), ?_, ?_⟩
      · unfold LTp
        rw [o (X + 2) (by omega) (by omega), o (Mo + 1) (by omega) (by omega), fu_s, iu_s, fu_n (show ¬ X + 1 = Mo by omega), fu_s, iu_s]
        exact ⟨by omega, rfl, fun j hj => h6 j (by omega), h7⟩
      · unfold LWy
        rw [o (X + 3) (by omega) (by omega), o (X + 4) (by omega) (by omega), o (Mo + 22) (by omega) (by omega), fu_s, iu_n (by omega), fu_n (show ¬ Mo = X + 1 by omega)]
        exact h8
    · rw [fu_n (show ¬ Mo = X + 1 by omega), h5]; exact hn
  · exact ⟨h1.1, fun z => absurd z hn, fun _ => H (-1) σ τ (fun _ _ => rfl) (fun k2 hk2 => ⟨h1.2.1, fun z => absurd (by rw [h5] at z; exact z) hn, fun _ => hk2 σ (fun _ _ => rfl) h⟩)⟩

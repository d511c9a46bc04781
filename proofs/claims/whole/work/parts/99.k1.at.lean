theorem at_thing {X Mo sz sl : Nat} {lay : Nat → Nat × Int} {ρ : Nat → Int → Nat} {σ : Nat → Int → Int} {τ : Nat → Int → Int64} {U : Int → Int} {len : Int} {st : Nat → Int → Int} {p i : Int} (hRP : RdP lay ρ σ τ X p U len st) (hL : LModel lay ρ Mo) (hMP : MdP σ Mo p U len st) : ∃ v0 : Int, (∀ k, k (some (vI v0)) (sz, sl, lay, ρ, σ, τ) → TF_PR_thing X p i sz sl lay ρ σ τ k) ∧ (∀ k, (∀ σ2, QF σ σ2 Mo → k (some (vI v0)) (sz, sl, lay, ρ, σ2, τ)) → TF_Model_thing Mo p i sz sl lay ρ σ τ k) := by
  by_cases hp : 0 ≤ p ∧ p < 3
  rotate_left
  · exact ⟨-1, fun k hk => ⟨U, len, st, hRP, fun z => absurd z hp, fun _ => hk⟩, fun k hk => ⟨hL, U, len, st, hMP, fun z => absurd z hp, fun _ => hk σ QF.rf⟩⟩
  obtain ⟨hS, hR⟩ := hMP hp
  have hPR := (hRP.2 hp).2
  obtain ⟨w0, w1, w2, w3, w4, w5, w6, w7, w8, w9, w10, w11, w12, w13, w14⟩ := (show SW U len st from hS)
  by_cases h : 0 ≤ i ∧ i < st 0 7
  · exact ⟨numA U (st 2) i, fun k hk => ⟨U, len, st, hRP, fun _ => ⟨fun _ => hk, fun z => absurd h z⟩, fun z => absurd hp z⟩, fun k hk => ⟨hL, U, len, st, hMP, fun _ => ⟨fun _ => hk σ QF.rf, fun z => absurd h z⟩, fun z => absurd hp z⟩⟩
  · exact ⟨-1, fun k hk => ⟨U, len, st, hRP, fun _ => ⟨fun z => absurd z h, fun _ => hk⟩, fun z => absurd hp z⟩, fun k hk => ⟨hL, U, len, st, hMP, fun _ => ⟨fun z => absurd z h, fun _ => hk σ QF.rf⟩, fun z => absurd hp z⟩⟩
theorem at_hole {X Mo sz sl : Nat} {lay : Nat → Nat × Int} {ρ : Nat → Int → Nat} {σ : Nat → Int → Int} {τ : Nat → Int → Int64} {U : Int → Int} {len : Int} {st : Nat → Int → Int} {p i w : Int} (hRP : RdP lay ρ σ τ X p U len st) (hL : LModel lay ρ Mo) (hMP : MdP σ Mo p U len st) : ∃ v0 : Int, (∀ k, k (some (vI v0)) (sz, sl, lay, ρ, σ, τ) → TF_PR_hole X p i w sz sl lay ρ σ τ k) ∧ (∀ k, (∀ σ2, QF σ σ2 Mo → k (some (vI v0)) (sz, sl, lay, ρ, σ2, τ)) → TF_Model_hole Mo p i w sz sl lay ρ σ τ k) := by
  by_cases hp : 0 ≤ p ∧ p < 3
  rotate_left
  · exact ⟨-1, fun k hk => ⟨U, len, st, hRP, fun z => absurd z hp, fun _ => hk⟩, fun k hk => ⟨hL, U, len, st, hMP, fun z => absurd z hp, fun _ => hk σ QF.rf⟩⟩
  obtain ⟨hS, hR⟩ := hMP hp
  have hPR := (hRP.2 hp).2
  obtain ⟨w0, w1, w2, w3, w4, w5, w6, w7, w8, w9, w10, w11, w12, w13, w14⟩ := (show SW U len st from hS)
  by_cases e0 : 0 ≤ i ∧ i < st 0 4 ∧ w = 0
  · exact ⟨st 4 i, fun k hk => ⟨U, len, st, hRP, fun _ => ⟨fun _ => hk, fun z => by omega, fun z => by omega⟩, fun z => absurd hp z⟩, fun k hk => ⟨hL, U, len, st, hMP, fun _ => ⟨fun _ => hk σ QF.rf, fun z => by omega, fun z => by omega⟩, fun z => absurd hp z⟩⟩
  by_cases e1 : 0 ≤ i ∧ i < st 0 4 ∧ w = 1
  · exact ⟨st 5 i, fun k hk => ⟨U, len, st, hRP, fun _ => ⟨fun z => by omega, fun _ => hk, fun z => by omega⟩, fun z => absurd hp z⟩, fun k hk => ⟨hL, U, len, st, hMP, fun _ => ⟨fun z => by omega, fun _ => hk σ QF.rf, fun z => by omega⟩, fun z => absurd hp z⟩⟩
  exact ⟨-1, fun k hk => ⟨U, len, st, hRP, fun _ => ⟨fun z => absurd z e0, fun z => absurd z e1, fun _ => hk⟩, fun z => absurd hp z⟩, fun k hk => ⟨hL, U, len, st, hMP, fun _ => ⟨fun z => absurd z e0, fun z => absurd z e1, fun _ => hk σ QF.rf⟩, fun z => absurd hp z⟩⟩
theorem at_told {X Mo sz sl : Nat} {lay : Nat → Nat × Int} {ρ : Nat → Int → Nat} {σ : Nat → Int → Int} {τ : Nat → Int → Int64} {U : Int → Int} {len : Int} {st : Nat → Int → Int} {p x w : Int} (hRP : RdP lay ρ σ τ X p U len st) (hL : LModel lay ρ Mo) (hMP : MdP σ Mo p U len st) : ∃ v0 : Int, (∀ k, k (some (vI v0)) (sz, sl, lay, ρ, σ, τ) → TF_PR_told X p x w sz sl lay ρ σ τ k) ∧ (∀ k, (∀ σ2, QF σ σ2 Mo → k (some (vI v0)) (sz, sl, lay, ρ, σ2, τ)) → TF_Model_told Mo p x w sz sl lay ρ σ τ k) := by
  by_cases hp : 0 ≤ p ∧ p < 3
  rotate_left
  · exact ⟨-1, fun k hk => ⟨U, len, st, hRP, fun z => absurd z hp, fun _ => hk⟩, fun k hk => ⟨hL, U, len, st, hMP, fun z => absurd z hp, fun _ => hk σ QF.rf⟩⟩
  obtain ⟨hS, hR⟩ := hMP hp
  have hPR := (hRP.2 hp).2
  obtain ⟨w0, w1, w2, w3, w4, w5, w6, w7, w8, w9, w10, w11, w12, w13, w14⟩ := (show SW U len st from hS)
  by_cases e0 : 0 ≤ fn U st x ∧ w = 0
  · exact ⟨srt U (st 2 (fn U st x)), fun k hk => ⟨U, len, st, hRP, fun _ => ⟨fun _ => hk, fun z => by omega, fun z => by omega, fun z => by omega, fun z => by omega, fun z => by omega, fun z => by omega, fun z => by omega⟩, fun z => absurd hp z⟩, fun k hk => ⟨hL, U, len, st, hMP, fun _ => fun σ2 hq => ⟨fun _ => hk σ2 hq, fun z => by omega, fun z => by omega, fun z => by omega, fun z => by omega, fun z => by omega, fun z => by omega, fun z => by omega⟩, fun z => absurd hp z⟩⟩
  by_cases e1 : 0 ≤ fn U st x ∧ w = 1
  · exact ⟨kdv U (st 2 (fn U st x)), fun k hk => ⟨U, len, st, hRP, fun _ => ⟨fun z => by omega, fun _ => hk, fun z => by omega, fun z => by omega, fun z => by omega, fun z => by omega, fun z => by omega, fun z => by omega⟩, fun z => absurd hp z⟩, fun k hk => ⟨hL, U, len, st, hMP, fun _ => fun σ2 hq => ⟨fun z => by omega, fun _ => hk σ2 hq, fun z => by omega, fun z => by omega, fun z => by omega, fun z => by omega, fun z => by omega, fun z => by omega⟩, fun z => absurd hp z⟩⟩
  by_cases e2 : 0 ≤ fn U st x ∧ w = 2
  · exact ⟨nV U (st 1) (st 2 (fn U st x)), fun k hk => ⟨U, len, st, hRP, fun _ => ⟨fun z => by omega, fun z => by omega, fun _ => hk, fun z => by omega, fun z => by omega, fun z => by omega, fun z => by omega, fun z => by omega⟩, fun z => absurd hp z⟩, fun k hk => ⟨hL, U, len, st, hMP, fun _ => fun σ2 hq => ⟨fun z => by omega, fun z => by omega, fun _ => hk σ2 hq, fun z => by omega, fun z => by omega, fun z => by omega, fun z => by omega, fun z => by omega⟩, fun z => absurd hp z⟩⟩
  by_cases e3 : 0 ≤ fn U st x ∧ w = 3
  · exact ⟨szP U st (fn U st x), fun k hk => ⟨U, len, st, hRP, fun _ => ⟨fun z => by omega, fun z => by omega, fun z => by omega, fun _ => hk, fun z => by omega, fun z => by omega, fun z => by omega, fun z => by omega⟩, fun z => absurd hp z⟩, fun k hk => ⟨hL, U, len, st, hMP, fun _ => fun σ2 hq => ⟨fun z => by omega, fun z => by omega, fun z => by omega, fun _ => hk σ2 hq, fun z => by omega, fun z => by omega, fun z => by omega, fun z => by omega⟩, fun z => absurd hp z⟩⟩
  by_cases e4 : 0 ≤ fn U st x ∧ w = 4
  · exact ⟨st 2 (fn U st x), fun k hk => ⟨U, len, st, hRP, fun _ => ⟨fun z => by omega, fun z => by omega, fun z => by omega, fun z => by omega, fun _ => hk, fun z => by omega, fun z => by omega, fun z => by omega⟩, fun z => absurd hp z⟩, fun k hk => ⟨hL, U, len, st, hMP, fun _ => fun σ2 hq => ⟨fun z => by omega, fun z => by omega, fun z => by omega, fun z => by omega, fun _ => hk σ2 hq, fun z => by omega, fun z => by omega, fun z => by omega⟩, fun z => absurd hp z⟩⟩
  by_cases e5 : 0 ≤ fn U st x ∧ w = 5
  · exact ⟨r5 U (st 1) (st 2 (fn U st x)) (nV U (st 1) (st 2 (fn U st x))).toNat, fun k hk => ⟨U, len, st, hRP, fun _ => ⟨fun z => by omega, fun z => by omega, fun z => by omega, fun z => by omega, fun z => by omega, fun _ => hk, fun z => by omega, fun z => by omega⟩, fun z => absurd hp z⟩, fun k hk => ⟨hL, U, len, st, hMP, fun _ => fun σ2 hq => ⟨fun z => by omega, fun z => by omega, fun z => by omega, fun z => by omega, fun z => by omega, fun _ => hk σ2 hq, fun z => by omega, fun z => by omega⟩, fun z => absurd hp z⟩⟩
  by_cases e6 : 0 ≤ fn U st x ∧ w = 6
  · exact ⟨ptP U st (fn U st x), fun k hk => ⟨U, len, st, hRP, fun _ => ⟨fun z => by omega, fun z => by omega, fun z => by omega, fun z => by omega, fun z => by omega, fun z => by omega, fun _ => hk, fun z => by omega⟩, fun z => absurd hp z⟩, fun k hk => ⟨hL, U, len, st, hMP, fun _ => fun σ2 hq => ⟨fun z => by omega, fun z => by omega, fun z => by omega, fun z => by omega, fun z => by omega, fun z => by omega, fun _ => hk σ2 hq, fun z => by omega⟩, fun z => absurd hp z⟩⟩
  exact ⟨-1, fun k hk => ⟨U, len, st, hRP, fun _ => ⟨fun z => absurd z e0, fun z => absurd z e1, fun z => absurd z e2, fun z => absurd z e3, fun z => absurd z e4, fun z => absurd z e5, fun z => absurd z e6, fun _ => hk⟩, fun z => absurd hp z⟩, fun k hk => ⟨hL, U, len, st, hMP, fun _ => fun σ2 hq => ⟨fun z => absurd z e0, fun z => absurd z e1, fun z => absurd z e2, fun z => absurd z e3, fun z => absurd z e4, fun z => absurd z e5, fun z => absurd z e6, fun _ => hk σ2 hq⟩, fun z => absurd hp z⟩⟩
theorem at_about {X Mo sz sl : Nat} {lay : Nat → Nat × Int} {ρ : Nat → Int → Nat} {σ : Nat → Int → Int} {τ : Nat → Int → Int64} {U : Int → Int} {len : Int} {st : Nat → Int → Int} {p w : Int} (hRP : RdP lay ρ σ τ X p U len st) (hL : LModel lay ρ Mo) (hMP : MdP σ Mo p U len st) : ∃ v0 : Int, (∀ k, k (some (vI v0)) (sz, sl, lay, ρ, σ, τ) → TF_PR_about X p w sz sl lay ρ σ τ k) ∧ (∀ k, (∀ σ2, QF σ σ2 Mo → k (some (vI v0)) (sz, sl, lay, ρ, σ2, τ)) → TF_Model_about Mo p w sz sl lay ρ σ τ k) := by
  by_cases hp : 0 ≤ p ∧ p < 3
  rotate_left
  · exact ⟨-1, fun k hk => ⟨U, len, st, hRP, fun z => absurd z hp, fun _ => hk⟩, fun k hk => ⟨hL, U, len, st, hMP, fun z => absurd z hp, fun _ => hk σ QF.rf⟩⟩
  obtain ⟨hS, hR⟩ := hMP hp
  have hPR := (hRP.2 hp).2
  obtain ⟨w0, w1, w2, w3, w4, w5, w6, w7, w8, w9, w10, w11, w12, w13, w14⟩ := (show SW U len st from hS)
  by_cases e0 : w = 0
  · exact ⟨len, fun k hk => ⟨U, len, st, hRP, fun _ => ⟨fun _ => hk, fun z => by omega, fun z => by omega, fun z => by omega, fun z => by omega, fun z => by omega, fun z => by omega, fun z => by omega, fun z => by omega, fun z => by omega, fun z => by omega, fun z => by omega, fun z => by omega, fun z => by omega⟩, fun z => absurd hp z⟩, fun k hk => ⟨hL, U, len, st, hMP, fun _ => fun σ2 hq => ⟨fun _ => hk σ2 hq, fun z => by omega, fun z => by omega, fun z => by omega, fun z => by omega, fun z => by omega, fun z => by omega, fun z => by omega, fun z => by omega, fun z => by omega, fun z => by omega, fun z => by omega, fun z => by omega, fun z => by omega⟩, fun z => absurd hp z⟩⟩
  by_cases e1 : w = 1
  · exact ⟨st 0 1, fun k hk => ⟨U, len, st, hRP, fun _ => ⟨fun z => by omega, fun _ => hk, fun z => by omega, fun z => by omega, fun z => by omega, fun z => by omega, fun z => by omega, fun z => by omega, fun z => by omega, fun z => by omega, fun z => by omega, fun z => by omega, fun z => by omega, fun z => by omega⟩, fun z => absurd hp z⟩, fun k hk => ⟨hL, U, len, st, hMP, fun _ => fun σ2 hq => ⟨fun z => by omega, fun _ => hk σ2 hq, fun z => by omega, fun z => by omega, fun z => by omega, fun z => by omega, fun z => by omega, fun z => by omega, fun z => by omega, fun z => by omega, fun z => by omega, fun z => by omega, fun z => by omega, fun z => by omega⟩, fun z => absurd hp z⟩⟩
  by_cases e2 : w = 2
  · exact ⟨st 0 2, fun k hk => ⟨U, len, st, hRP, fun _ => ⟨fun z => by omega, fun z => by omega, fun _ => hk, fun z => by omega, fun z => by omega, fun z => by omega, fun z => by omega, fun z => by omega, fun z => by omega, fun z => by omega, fun z => by omega, fun z => by omega, fun z => by omega, fun z => by omega⟩, fun z => absurd hp z⟩, fun k hk => ⟨hL, U, len, st, hMP, fun _ => fun σ2 hq => ⟨fun z => by omega, fun z => by omega, fun _ => hk σ2 hq, fun z => by omega, fun z => by omega, fun z => by omega, fun z => by omega, fun z => by omega, fun z => by omega, fun z => by omega, fun z => by omega, fun z => by omega, fun z => by omega, fun z => by omega⟩, fun z => absurd hp z⟩⟩
  by_cases e3 : w = 3
  · exact ⟨st 0 3, fun k hk => ⟨U, len, st, hRP, fun _ => ⟨fun z => by omega, fun z => by omega, fun z => by omega, fun _ => hk, fun z => by omega, fun z => by omega, fun z => by omega, fun z => by omega, fun z => by omega, fun z => by omega, fun z => by omega, fun z => by omega, fun z => by omega, fun z => by omega⟩, fun z => absurd hp z⟩, fun k hk => ⟨hL, U, len, st, hMP, fun _ => fun σ2 hq => ⟨fun z => by omega, fun z => by omega, fun z => by omega, fun _ => hk σ2 hq, fun z => by omega, fun z => by omega, fun z => by omega, fun z => by omega, fun z => by omega, fun z => by omega, fun z => by omega, fun z => by omega, fun z => by omega, fun z => by omega⟩, fun z => absurd hp z⟩⟩
  by_cases e4 : w = 4
  · exact ⟨st 0 4, fun k hk => ⟨U, len, st, hRP, fun _ => ⟨fun z => by omega, fun z => by omega, fun z => by omega, fun z => by omega, fun _ => hk, fun z => by omega, fun z => by omega, fun z => by omega, fun z => by omega, fun z => by omega, fun z => by omega, fun z => by omega, fun z => by omega, fun z => by omega⟩, fun z => absurd hp z⟩, fun k hk => ⟨hL, U, len, st, hMP, fun _ => fun σ2 hq => ⟨fun z => by omega, fun z => by omega, fun z => by omega, fun z => by omega, fun _ => hk σ2 hq, fun z => by omega, fun z => by omega, fun z => by omega, fun z => by omega, fun z => by omega, fun z => by omega, fun z => by omega, fun z => by omega, fun z => by omega⟩, fun z => absurd hp z⟩⟩
  by_cases e5 : w = 5
  · exact ⟨st 0 5, fun k hk => ⟨U, len, st, hRP, fun _ => ⟨fun z => by omega, fun z => by omega, fun z => by omega, fun z => by omega, fun z => by omega, fun _ => hk, fun z => by omega, fun z => by omega, fun z => by omega, fun z => by omega, fun z => by omega, fun z => by omega, fun z => by omega, fun z => by omega⟩, fun z => absurd hp z⟩, fun k hk => ⟨hL, U, len, st, hMP, fun _ => fun σ2 hq => ⟨fun z => by omega, fun z => by omega, fun z => by omega, fun z => by omega, fun z => by omega, fun _ => hk σ2 hq, fun z => by omega, fun z => by omega, fun z => by omega, fun z => by omega, fun z => by omega, fun z => by omega, fun z => by omega, fun z => by omega⟩, fun z => absurd hp z⟩⟩
  by_cases e6 : w = 6
  · exact ⟨st 0 6, fun k hk => ⟨U, len, st, hRP, fun _ => ⟨fun z => by omega, fun z => by omega, fun z => by omega, fun z => by omega, fun z => by omega, fun z => by omega, fun _ => hk, fun z => by omega, fun z => by omega, fun z => by omega, fun z => by omega, fun z => by omega, fun z => by omega, fun z => by omega⟩, fun z => absurd hp z⟩, fun k hk => ⟨hL, U, len, st, hMP, fun _ => fun σ2 hq => ⟨fun z => by omega, fun z => by omega, fun z => by omega, fun z => by omega, fun z => by omega, fun z => by omega, fun _ => hk σ2 hq, fun z => by omega, fun z => by omega, fun z => by omega, fun z => by omega, fun z => by omega, fun z => by omega, fun z => by omega⟩, fun z => absurd hp z⟩⟩
  by_cases e7 : w = 7
  · exact ⟨st 0 7, fun k hk => ⟨U, len, st, hRP, fun _ => ⟨fun z => by omega, fun z => by omega, fun z => by omega, fun z => by omega, fun z => by omega, fun z => by omega, fun z => by omega, fun _ => hk, fun z => by omega, fun z => by omega, fun z => by omega, fun z => by omega, fun z => by omega, fun z => by omega⟩, fun z => absurd hp z⟩, fun k hk => ⟨hL, U, len, st, hMP, fun _ => fun σ2 hq => ⟨fun z => by omega, fun z => by omega, fun z => by omega, fun z => by omega, fun z => by omega, fun z => by omega, fun z => by omega, fun _ => hk σ2 hq, fun z => by omega, fun z => by omega, fun z => by omega, fun z => by omega, fun z => by omega, fun z => by omega⟩, fun z => absurd hp z⟩⟩
  by_cases e8 : w = 8
  · exact ⟨st 0 9, fun k hk => ⟨U, len, st, hRP, fun _ => ⟨fun z => by omega, fun z => by omega, fun z => by omega, fun z => by omega, fun z => by omega, fun z => by omega, fun z => by omega, fun z => by omega, fun _ => hk, fun z => by omega, fun z => by omega, fun z => by omega, fun z => by omega, fun z => by omega⟩, fun z => absurd hp z⟩, fun k hk => ⟨hL, U, len, st, hMP, fun _ => fun σ2 hq => ⟨fun z => by omega, fun z => by omega, fun z => by omega, fun z => by omega, fun z => by omega, fun z => by omega, fun z => by omega, fun z => by omega, fun _ => hk σ2 hq, fun z => by omega, fun z => by omega, fun z => by omega, fun z => by omega, fun z => by omega⟩, fun z => absurd hp z⟩⟩
  by_cases e9 : w = 9
  · exact ⟨unP U st + cntZ (fun i => decide (fn U st (st 3 i) = -1)) (st 0 9).toNat, fun k hk => ⟨U, len, st, hRP, fun _ => ⟨fun z => by omega, fun z => by omega, fun z => by omega, fun z => by omega, fun z => by omega, fun z => by omega, fun z => by omega, fun z => by omega, fun z => by omega, fun _ => hk, fun z => by omega, fun z => by omega, fun z => by omega, fun z => by omega⟩, fun z => absurd hp z⟩, fun k hk => ⟨hL, U, len, st, hMP, fun _ => fun σ2 hq => ⟨fun z => by omega, fun z => by omega, fun z => by omega, fun z => by omega, fun z => by omega, fun z => by omega, fun z => by omega, fun z => by omega, fun z => by omega, fun _ => hk σ2 hq, fun z => by omega, fun z => by omega, fun z => by omega, fun z => by omega⟩, fun z => absurd hp z⟩⟩
  by_cases e10 : w = 10
  · exact ⟨sumZ (szP U st) (st 0 7).toNat, fun k hk => ⟨U, len, st, hRP, fun _ => ⟨fun z => by omega, fun z => by omega, fun z => by omega, fun z => by omega, fun z => by omega, fun z => by omega, fun z => by omega, fun z => by omega, fun z => by omega, fun z => by omega, fun _ => hk, fun z => by omega, fun z => by omega, fun z => by omega⟩, fun z => absurd hp z⟩, fun k hk => ⟨hL, U, len, st, hMP, fun _ => fun σ2 hq => ⟨fun z => by omega, fun z => by omega, fun z => by omega, fun z => by omega, fun z => by omega, fun z => by omega, fun z => by omega, fun z => by omega, fun z => by omega, fun z => by omega, fun _ => hk σ2 hq, fun z => by omega, fun z => by omega, fun z => by omega⟩, fun z => absurd hp z⟩⟩
  by_cases e11 : w = 11
  · exact ⟨cntP (fun x => lvP U st x) (st 0 7).toNat, fun k hk => ⟨U, len, st, hRP, fun _ => ⟨fun z => by omega, fun z => by omega, fun z => by omega, fun z => by omega, fun z => by omega, fun z => by omega, fun z => by omega, fun z => by omega, fun z => by omega, fun z => by omega, fun z => by omega, fun _ => hk, fun z => by omega, fun z => by omega⟩, fun z => absurd hp z⟩, fun k hk => ⟨hL, U, len, st, hMP, fun _ => fun σ2 hq => ⟨fun z => by omega, fun z => by omega, fun z => by omega, fun z => by omega, fun z => by omega, fun z => by omega, fun z => by omega, fun z => by omega, fun z => by omega, fun z => by omega, fun z => by omega, fun _ => hk σ2 hq, fun z => by omega, fun z => by omega⟩, fun z => absurd hp z⟩⟩
  by_cases e12 : w = 12
  · exact ⟨sumP (fun x => lvP U st x) (szP U st) (st 0 7).toNat, fun k hk => ⟨U, len, st, hRP, fun _ => ⟨fun z => by omega, fun z => by omega, fun z => by omega, fun z => by omega, fun z => by omega, fun z => by omega, fun z => by omega, fun z => by omega, fun z => by omega, fun z => by omega, fun z => by omega, fun z => by omega, fun _ => hk, fun z => by omega⟩, fun z => absurd hp z⟩, fun k hk => ⟨hL, U, len, st, hMP, fun _ => fun σ2 hq => ⟨fun z => by omega, fun z => by omega, fun z => by omega, fun z => by omega, fun z => by omega, fun z => by omega, fun z => by omega, fun z => by omega, fun z => by omega, fun z => by omega, fun z => by omega, fun z => by omega, fun _ => hk σ2 hq, fun z => by omega⟩, fun z => absurd hp z⟩⟩
  exact ⟨-1, fun k hk => ⟨U, len, st, hRP, fun _ => ⟨fun z => absurd z e0, fun z => absurd z e1, fun z => absurd z e2, fun z => absurd z e3, fun z => absurd z e4, fun z => absurd z e5, fun z => absurd z e6, fun z => absurd z e7, fun z => absurd z e8, fun z => absurd z e9, fun z => absurd z e10, fun z => absurd z e11, fun z => absurd z e12, fun _ => hk⟩, fun z => absurd hp z⟩, fun k hk => ⟨hL, U, len, st, hMP, fun _ => fun σ2 hq => ⟨fun z => absurd z e0, fun z => absurd z e1, fun z => absurd z e2, fun z => absurd z e3, fun z => absurd z e4, fun z => absurd z e5, fun z => absurd z e6, fun z => absurd z e7, fun z => absurd z e8, fun z => absurd z e9, fun z => absurd z e10, fun z => absurd z e11, fun z => absurd z e12, fun _ => hk σ2 hq⟩, fun z => absurd hp z⟩⟩
theorem at_value {X Mo sz sl : Nat} {lay : Nat → Nat × Int} {ρ : Nat → Int → Nat} {σ : Nat → Int → Int} {τ : Nat → Int → Int64} {U : Int → Int} {len : Int} {st : Nat → Int → Int} {p x j : Int} (hRP : RdP lay ρ σ τ X p U len st) (hL : LModel lay ρ Mo) (hMP : MdP σ Mo p U len st) : ∃ v0 : Int64, (∀ k, k (some (vL v0)) (sz, sl, lay, ρ, σ, τ) → TF_PR_value X p x j sz sl lay ρ σ τ k) ∧ (∀ k, (∀ σ2, QF σ σ2 Mo → k (some (vL v0)) (sz, sl, lay, ρ, σ2, τ)) → TF_Model_value Mo p x j sz sl lay ρ σ τ k) := by
  by_cases hp : 0 ≤ p ∧ p < 3
  rotate_left
  · exact ⟨0, fun k hk => ⟨U, len, st, hRP, fun z => absurd z hp, fun _ => hk⟩, fun k hk => ⟨hL, U, len, st, hMP, fun z => absurd z hp, fun _ => hk σ QF.rf⟩⟩
  obtain ⟨hS, hR⟩ := hMP hp
  have hPR := (hRP.2 hp).2
  obtain ⟨w0, w1, w2, w3, w4, w5, w6, w7, w8, w9, w10, w11, w12, w13, w14⟩ := (show SW U len st from hS)
  by_cases h : 0 ≤ fn U st x ∧ 0 ≤ j ∧ j < nV U (st 1) (st 2 (fn U st x))
  · exact ⟨Int64.ofInt (vZ U (st 1) (st 2 (fn U st x)) j), fun k hk => ⟨U, len, st, hRP, fun _ => ⟨fun _ => hk, fun z => absurd h z⟩, fun z => absurd hp z⟩, fun k hk => ⟨hL, U, len, st, hMP, fun _ => fun σ2 hq => ⟨fun _ => hk σ2 hq, fun z => absurd h z⟩, fun z => absurd hp z⟩⟩
  · exact ⟨0, fun k hk => ⟨U, len, st, hRP, fun _ => ⟨fun z => absurd z h, fun _ => hk⟩, fun z => absurd hp z⟩, fun k hk => ⟨hL, U, len, st, hMP, fun _ => fun σ2 hq => ⟨fun z => absurd z h, fun _ => hk σ2 hq⟩, fun z => absurd hp z⟩⟩
theorem at_under {X Mo sz sl : Nat} {lay : Nat → Nat × Int} {ρ : Nat → Int → Nat} {σ : Nat → Int → Int} {τ : Nat → Int → Int64} {U : Int → Int} {len : Int} {st : Nat → Int → Int} {p a b : Int} (hRP : RdP lay ρ σ τ X p U len st) (hL : LModel lay ρ Mo) (hMP : MdP σ Mo p U len st) : ∃ v0 : Int, (∀ k, k (some (vI v0)) (sz, sl, lay, ρ, σ, τ) → TF_PR_under X p a b sz sl lay ρ σ τ k) ∧ (∀ k, (∀ σ2, QF σ σ2 Mo → k (some (vI v0)) (sz, sl, lay, ρ, σ2, τ)) → TF_Model_under Mo p a b sz sl lay ρ σ τ k) := by
  by_cases hp : 0 ≤ p ∧ p < 3
  rotate_left
  · exact ⟨-1, fun k hk => ⟨U, len, st, hRP, fun z => absurd z hp, fun _ => hk⟩, fun k hk => ⟨hL, U, len, st, hMP, fun z => absurd z hp, fun _ => hk σ QF.rf⟩⟩
  obtain ⟨hS, hR⟩ := hMP hp
  have hPR := (hRP.2 hp).2
  obtain ⟨w0, w1, w2, w3, w4, w5, w6, w7, w8, w9, w10, w11, w12, w13, w14⟩ := (show SW U len st from hS)
  by_cases h : ((0 ≤ a ∧ a < 40) ∧ 0 ≤ st 1 a) ∧ ((0 ≤ b ∧ b < 40) ∧ 0 ≤ st 1 b)
  · by_cases g : b ∈ ch U (st 1) a
    · exact ⟨1, fun k hk => ⟨U, len, st, hRP, fun _ => ⟨fun _ _ => ⟨fun _ => hk, fun z => absurd g z⟩, fun z => absurd h z⟩, fun z => absurd hp z⟩, fun k hk => ⟨hL, U, len, st, hMP, fun _ => fun σ2 hq => ⟨fun _ _ => ⟨fun _ => hk σ2 hq, fun z => absurd g z⟩, fun z => absurd h z⟩, fun z => absurd hp z⟩⟩
    · exact ⟨0, fun k hk => ⟨U, len, st, hRP, fun _ => ⟨fun _ _ => ⟨fun z => absurd z g, fun _ => hk⟩, fun z => absurd h z⟩, fun z => absurd hp z⟩, fun k hk => ⟨hL, U, len, st, hMP, fun _ => fun σ2 hq => ⟨fun _ _ => ⟨fun z => absurd z g, fun _ => hk σ2 hq⟩, fun z => absurd h z⟩, fun z => absurd hp z⟩⟩
  · exact ⟨-1, fun k hk => ⟨U, len, st, hRP, fun _ => ⟨fun za zb => absurd ⟨za, zb⟩ h, fun _ => hk⟩, fun z => absurd hp z⟩, fun k hk => ⟨hL, U, len, st, hMP, fun _ => fun σ2 hq => ⟨fun za zb => absurd ⟨za, zb⟩ h, fun _ => hk σ2 hq⟩, fun z => absurd hp z⟩⟩
theorem at_alive {X Mo sz sl : Nat} {lay : Nat → Nat × Int} {ρ : Nat → Int → Nat} {σ : Nat → Int → Int} {τ : Nat → Int → Int64} {U : Int → Int} {len : Int} {st : Nat → Int → Int} {p x : Int} (hRP : RdP lay ρ σ τ X p U len st) (hL : LModel lay ρ Mo) (hMP : MdP σ Mo p U len st) : ∃ v0 : Int, (∀ k, k (some (vI v0)) (sz, sl, lay, ρ, σ, τ) → TF_PR_alive X p x sz sl lay ρ σ τ k) ∧ (∀ k, (∀ σ2, QF σ σ2 Mo → k (some (vI v0)) (sz, sl, lay, ρ, σ2, τ)) → TF_Model_alive Mo p x sz sl lay ρ σ τ k) := by
  by_cases hp : 0 ≤ p ∧ p < 3
  rotate_left
  · exact ⟨-1, fun k hk => ⟨U, len, st, hRP, fun z => absurd z hp, fun _ => hk⟩, fun k hk => ⟨hL, U, len, st, hMP, fun z => absurd z hp, fun _ => hk σ QF.rf⟩⟩
  obtain ⟨hS, hR⟩ := hMP hp
  have hPR := (hRP.2 hp).2
  obtain ⟨w0, w1, w2, w3, w4, w5, w6, w7, w8, w9, w10, w11, w12, w13, w14⟩ := (show SW U len st from hS)
  have fR := hS.fnR x
  by_cases h : fn U st x = -1
  · exact ⟨-1, fun k hk => ⟨U, len, st, hRP, fun _ => ⟨fun _ => hk, fun z => by omega, fun z => by omega⟩, fun z => absurd hp z⟩, fun k hk => ⟨hL, U, len, st, hMP, fun _ => ⟨fun _ => hk σ QF.rf, fun z => by omega⟩, fun z => absurd hp z⟩⟩
  by_cases g : lvP U st (fn U st x)
  · exact ⟨1, fun k hk => ⟨U, len, st, hRP, fun _ => ⟨fun z => absurd z h, fun _ _ => hk, fun _ z => absurd g z⟩, fun z => absurd hp z⟩, fun k hk => ⟨hL, U, len, st, hMP, fun _ => ⟨fun z => absurd z h, fun _ σ2 hq => ⟨fun _ => hk σ2 hq, fun z => absurd g z⟩⟩, fun z => absurd hp z⟩⟩
  · exact ⟨0, fun k hk => ⟨U, len, st, hRP, fun _ => ⟨fun z => absurd z h, fun _ z => absurd z g, fun _ _ => hk⟩, fun z => absurd hp z⟩, fun k hk => ⟨hL, U, len, st, hMP, fun _ => ⟨fun z => absurd z h, fun _ σ2 hq => ⟨fun z => absurd z g, fun _ => hk σ2 hq⟩⟩, fun z => absurd hp z⟩⟩
theorem at_kept {X Mo sz sl : Nat} {lay : Nat → Nat × Int} {ρ : Nat → Int → Nat} {σ : Nat → Int → Int} {τ : Nat → Int → Int64} {U : Int → Int} {len : Int} {st : Nat → Int → Int} {p x : Int} (hRP : RdP lay ρ σ τ X p U len st) (hL : LModel lay ρ Mo) (hMP : MdP σ Mo p U len st) : ∃ v0 : Int, (∀ k, k (some (vI v0)) (sz, sl, lay, ρ, σ, τ) → TF_PR_kept X p x sz sl lay ρ σ τ k) ∧ (∀ k, (∀ σ2, QF σ σ2 Mo → k (some (vI v0)) (sz, sl, lay, ρ, σ2, τ)) → TF_Model_kept Mo p x sz sl lay ρ σ τ k) := by
  by_cases hp : 0 ≤ p ∧ p < 3
  rotate_left
  · exact ⟨-1, fun k hk => ⟨U, len, st, hRP, fun z => absurd z hp, fun _ => hk⟩, fun k hk => ⟨hL, U, len, st, hMP, fun z => absurd z hp, fun _ => hk σ QF.rf⟩⟩
  obtain ⟨hS, hR⟩ := hMP hp
  have hPR := (hRP.2 hp).2
  obtain ⟨w0, w1, w2, w3, w4, w5, w6, w7, w8, w9, w10, w11, w12, w13, w14⟩ := (show SW U len st from hS)
  by_cases h : 0 ≤ fn U st x ∧ lvP U st (fn U st x)
  · exact ⟨ktP U st (fn U st x), fun k hk => ⟨U, len, st, hRP, fun _ => ⟨fun _ _ => hk, fun z => absurd h z⟩, fun z => absurd hp z⟩, fun k hk => ⟨hL, U, len, st, hMP, fun _ => ⟨fun _ _ => hk, fun z => absurd h z⟩, fun z => absurd hp z⟩⟩
  · exact ⟨-1, fun k hk => ⟨U, len, st, hRP, fun _ => ⟨fun za zb => absurd ⟨za, zb⟩ h, fun _ => hk⟩, fun z => absurd hp z⟩, fun k hk => ⟨hL, U, len, st, hMP, fun _ => ⟨fun za zb => absurd ⟨za, zb⟩ h, fun _ => hk⟩, fun z => absurd hp z⟩⟩
theorem at_height {X Mo sz sl : Nat} {lay : Nat → Nat × Int} {ρ : Nat → Int → Nat} {σ : Nat → Int → Int} {τ : Nat → Int → Int64} {U : Int → Int} {len : Int} {st : Nat → Int → Int} {p x : Int} (hRP : RdP lay ρ σ τ X p U len st) (hL : LModel lay ρ Mo) (hMP : MdP σ Mo p U len st) : ∃ v0 : Int, (∀ k, k (some (vI v0)) (sz, sl, lay, ρ, σ, τ) → TF_PR_height X p x sz sl lay ρ σ τ k) ∧ (∀ k, (∀ σ2, QF σ σ2 Mo → k (some (vI v0)) (sz, sl, lay, ρ, σ2, τ)) → TF_Model_height Mo p x sz sl lay ρ σ τ k) := by
  by_cases hp : 0 ≤ p ∧ p < 3
  rotate_left
  · exact ⟨-1, fun k hk => ⟨U, len, st, hRP, fun z => absurd z hp, fun _ => hk⟩, fun k hk => ⟨hL, U, len, st, hMP, fun z => absurd z hp, fun _ => hk σ QF.rf⟩⟩
  obtain ⟨hS, hR⟩ := hMP hp
  have hPR := (hRP.2 hp).2
  obtain ⟨w0, w1, w2, w3, w4, w5, w6, w7, w8, w9, w10, w11, w12, w13, w14⟩ := (show SW U len st from hS)
  by_cases h : 0 ≤ fn U st x ∧ lvP U st (fn U st x)
  · exact ⟨hgP U st (fn U st x), fun k hk => ⟨U, len, st, hRP, fun _ => ⟨fun _ _ => hk, fun z => absurd h z⟩, fun z => absurd hp z⟩, fun k hk => ⟨hL, U, len, st, hMP, fun _ => ⟨fun _ _ => hk, fun z => absurd h z⟩, fun z => absurd hp z⟩⟩
  · exact ⟨-1, fun k hk => ⟨U, len, st, hRP, fun _ => ⟨fun za zb => absurd ⟨za, zb⟩ h, fun _ => hk⟩, fun z => absurd hp z⟩, fun k hk => ⟨hL, U, len, st, hMP, fun _ => ⟨fun za zb => absurd ⟨za, zb⟩ h, fun _ => hk⟩, fun z => absurd hp z⟩⟩
theorem at_keeper {X Mo sz sl : Nat} {lay : Nat → Nat × Int} {ρ : Nat → Int → Nat} {σ : Nat → Int → Int} {τ : Nat → Int → Int64} {U : Int → Int} {len : Int} {st : Nat → Int → Int} {p x : Int} (hRP : RdP lay ρ σ τ X p U len st) (hL : LModel lay ρ Mo) (hMP : MdP σ Mo p U len st) : ∃ v0 : Int, (∀ k, k (some (vI v0)) (sz, sl, lay, ρ, σ, τ) → TF_PR_keeper X p x sz sl lay ρ σ τ k) ∧ (∀ k, (∀ σ2, QF σ σ2 Mo → k (some (vI v0)) (sz, sl, lay, ρ, σ2, τ)) → TF_Model_keeper Mo p x sz sl lay ρ σ τ k) := by
  by_cases hp : 0 ≤ p ∧ p < 3
  rotate_left
  · exact ⟨-1, fun k hk => ⟨U, len, st, hRP, fun z => absurd z hp, fun _ => hk⟩, fun k hk => ⟨hL, U, len, st, hMP, fun z => absurd z hp, fun _ => hk σ QF.rf⟩⟩
  obtain ⟨hS, hR⟩ := hMP hp
  have hPR := (hRP.2 hp).2
  obtain ⟨w0, w1, w2, w3, w4, w5, w6, w7, w8, w9, w10, w11, w12, w13, w14⟩ := (show SW U len st from hS)
  have fR := hS.fnR x
  by_cases h : 0 ≤ fn U st x ∧ lvP U st (fn U st x)
  · have kp := (hPR.life w9).2.2.2.1 (fn U st x) (by omega) h.2
    generalize σ (X + 6 + 44 * p.toNat + 35 + 1) (fn U st x) = b at kp
    by_cases hb : b = -1
    · exact ⟨0, fun k hk => ⟨U, len, st, hRP, fun _ => ⟨fun _ _ c hc => ⟨fun _ => hk, fun z => by have := kp.u hc; omega⟩, fun z => absurd h z⟩, fun z => absurd hp z⟩, fun k hk => ⟨hL, U, len, st, hMP, fun _ => ⟨fun _ _ c hc σ2 hq => ⟨fun _ => hk σ2 hq, fun z => by have := kp.w hc; omega⟩, fun z => absurd h z⟩, fun z => absurd hp z⟩⟩
    · have hb0 : 0 ≤ b := by
        rcases kp with y | y
        · omega
        · omega
      exact ⟨numA U (st 2) b, fun k hk => ⟨U, len, st, hRP, fun _ => ⟨fun _ _ c hc => ⟨fun z => by have := kp.u hc; omega, fun z => by rw [← kp.u hc]; exact hk⟩, fun z => absurd h z⟩, fun z => absurd hp z⟩, fun k hk => ⟨hL, U, len, st, hMP, fun _ => ⟨fun _ _ c hc σ2 hq => ⟨fun z => by have := kp.w hc; omega, fun z => by rw [← kp.w hc]; exact hk σ2 hq⟩, fun z => absurd h z⟩, fun z => absurd hp z⟩⟩
  · exact ⟨-1, fun k hk => ⟨U, len, st, hRP, fun _ => ⟨fun za zb => absurd ⟨za, zb⟩ h, fun _ => hk⟩, fun z => absurd hp z⟩, fun k hk => ⟨hL, U, len, st, hMP, fun _ => ⟨fun za zb => absurd ⟨za, zb⟩ h, fun _ => hk⟩, fun z => absurd hp z⟩⟩
theorem at_groups {X Mo sz sl : Nat} {lay : Nat → Nat × Int} {ρ : Nat → Int → Nat} {σ : Nat → Int → Int} {τ : Nat → Int → Int64} {U : Int → Int} {len : Int} {st : Nat → Int → Int} {p : Int} (hRP : RdP lay ρ σ τ X p U len st) (hL : LModel lay ρ Mo) (hMP : MdP σ Mo p U len st) : ∃ v0 : Int, (∀ k, k (some (vI v0)) (sz, sl, lay, ρ, σ, τ) → TF_PR_groups X p sz sl lay ρ σ τ k) ∧ (∀ k, (∀ σ2, QF σ σ2 Mo → k (some (vI v0)) (sz, sl, lay, ρ, σ2, τ)) → TF_Model_groups Mo p sz sl lay ρ σ τ k) := by
  by_cases hp : 0 ≤ p ∧ p < 3
  rotate_left
  · exact ⟨-1, fun k hk => ⟨U, len, st, hRP, fun z => absurd z hp, fun _ => hk⟩, fun k hk => ⟨hL, U, len, st, hMP, fun z => absurd z hp, fun _ => hk σ QF.rf⟩⟩
  obtain ⟨hS, hR⟩ := hMP hp
  have hPR := (hRP.2 hp).2
  obtain ⟨w0, w1, w2, w3, w4, w5, w6, w7, w8, w9, w10, w11, w12, w13, w14⟩ := (show SW U len st from hS)
  exact ⟨cntP (gpP U st) (st 0 7).toNat, fun k hk => ⟨U, len, st, hRP, fun _ => hk, fun z => absurd hp z⟩, fun k hk => ⟨hL, U, len, st, hMP, fun _ => hk, fun z => absurd hp z⟩⟩
theorem cntP_u {P : Int → Prop} {x y : Int} (hx : 0 ≤ x) (hy : 0 ≤ y) (px : P x) (py : P y) (e : cntP P x.toNat = cntP P y.toNat) : x = y := by
  by_cases a : x < y
  · have := cntP_lt (P := P) (a := x.toNat) (b := y.toNat) (by omega) (by rw [show ((x.toNat : Nat) : Int) = x by omega]; exact px)
    omega
  · by_cases b : y < x
    · have := cntP_lt (P := P) (a := y.toNat) (b := x.toNat) (by omega) (by rw [show ((y.toNat : Nat) : Int) = y by omega]; exact py)
      omega
    · omega
theorem at_group {X Mo sz sl : Nat} {lay : Nat → Nat × Int} {ρ : Nat → Int → Nat} {σ : Nat → Int → Int} {τ : Nat → Int → Int64} {U : Int → Int} {len : Int} {st : Nat → Int → Int} {p i w : Int} (hRP : RdP lay ρ σ τ X p U len st) (hL : LModel lay ρ Mo) (hMP : MdP σ Mo p U len st) : ∃ v0 : Int, (∀ k, k (some (vI v0)) (sz, sl, lay, ρ, σ, τ) → TF_PR_group X p i w sz sl lay ρ σ τ k) ∧ (∀ k, (∀ σ2, QF σ σ2 Mo → k (some (vI v0)) (sz, sl, lay, ρ, σ2, τ)) → TF_Model_group Mo p i w sz sl lay ρ σ τ k) := by
  by_cases hp : 0 ≤ p ∧ p < 3
  rotate_left
  · exact ⟨-1, fun k hk => ⟨U, len, st, hRP, fun z => absurd z hp, fun _ => hk⟩, fun k hk => ⟨hL, U, len, st, hMP, fun z => absurd z hp, fun _ => hk σ QF.rf⟩⟩
  obtain ⟨hS, hR⟩ := hMP hp
  have hPR := (hRP.2 hp).2
  obtain ⟨w0, w1, w2, w3, w4, w5, w6, w7, w8, w9, w10, w11, w12, w13, w14⟩ := (show SW U len st from hS)
  by_cases h : (∃ x, (0 ≤ x ∧ x < st 0 7) ∧ gpP U st x ∧ cntP (gpP U st) x.toNat = i) ∧ 0 ≤ w ∧ w ≤ 2
  · obtain ⟨⟨x, hx, gx, ex⟩, hw⟩ := h
    have lt := cntP_lt (P := gpP U st) (a := x.toNat) (b := (st 0 7).toNat) (by omega) (by rw [show ((x.toNat : Nat) : Int) = x by omega]; exact gx)
    have c0 := cntP_R (P := gpP U st) (N := x.toNat)
    have un : ∀ y, 0 ≤ y ∧ y < st 0 7 → gpP U st y → cntP (gpP U st) y.toNat = i → y = x := fun y hy gy ey => cntP_u hy.1 hx.1 gy gx (ey.trans ex.symm)
    by_cases e0 : w = 0
    · exact ⟨numA U (st 2) x, fun k hk => ⟨U, len, st, hRP, fun _ => ⟨fun y hy gy ey => by rw [un y hy gy ey]; exact ⟨fun _ => hk, fun z => by omega, fun z => by omega⟩, fun z => by omega⟩, fun z => absurd hp z⟩, fun k hk => ⟨hL, U, len, st, hMP, fun _ => fun σ2 hq => ⟨fun y hy gy ey => by rw [un y hy gy ey]; exact ⟨fun _ => hk σ2 hq, fun z => by omega, fun z => by omega⟩, fun z => by omega⟩, fun z => absurd hp z⟩⟩
    by_cases e1 : w = 1
    · exact ⟨mmP U st x, fun k hk => ⟨U, len, st, hRP, fun _ => ⟨fun y hy gy ey => by rw [un y hy gy ey]; exact ⟨fun z => by omega, fun _ => hk, fun z => by omega⟩, fun z => by omega⟩, fun z => absurd hp z⟩, fun k hk => ⟨hL, U, len, st, hMP, fun _ => fun σ2 hq => ⟨fun y hy gy ey => by rw [un y hy gy ey]; exact ⟨fun z => by omega, fun _ => hk σ2 hq, fun z => by omega⟩, fun z => by omega⟩, fun z => absurd hp z⟩⟩
    by_cases e2 : w = 2
    · exact ⟨(mmP U st x - 1) * szP U st x, fun k hk => ⟨U, len, st, hRP, fun _ => ⟨fun y hy gy ey => by rw [un y hy gy ey]; exact ⟨fun z => by omega, fun z => by omega, fun _ => hk⟩, fun z => by omega⟩, fun z => absurd hp z⟩, fun k hk => ⟨hL, U, len, st, hMP, fun _ => fun σ2 hq => ⟨fun y hy gy ey => by rw [un y hy gy ey]; exact ⟨fun z => by omega, fun z => by omega, fun _ => hk σ2 hq⟩, fun z => by omega⟩, fun z => absurd hp z⟩⟩
    · omega
  · exact ⟨-1, fun k hk => ⟨U, len, st, hRP, fun _ => ⟨fun y hy gy ey => ⟨fun z => absurd ⟨⟨y, hy, gy, ey⟩, by omega⟩ h, fun z => absurd ⟨⟨y, hy, gy, ey⟩, by omega⟩ h, fun z => absurd ⟨⟨y, hy, gy, ey⟩, by omega⟩ h⟩, fun _ => hk⟩, fun z => absurd hp z⟩, fun k hk => ⟨hL, U, len, st, hMP, fun _ => fun σ2 hq => ⟨fun y hy gy ey => ⟨fun z => absurd ⟨⟨y, hy, gy, ey⟩, by omega⟩ h, fun z => absurd ⟨⟨y, hy, gy, ey⟩, by omega⟩ h, fun z => absurd ⟨⟨y, hy, gy, ey⟩, by omega⟩ h⟩, fun _ => hk σ2 hq⟩, fun z => absurd hp z⟩⟩
section
variable {U : Int → Int} {len : Int} {st : Nat → Int → Int}
theorem rk_lt {num kp : Int → Int} {A : Int → Prop} {N : Nat} {x y : Int} (hx : 0 ≤ x ∧ x < N) (ax : A x) (h : Ahd num kp x y) : cntP (fun z => A z ∧ Ahd num kp z x) N < cntP (fun z => A z ∧ Ahd num kp z y) N := by
  have e := cntP_in (P := fun z => A z ∧ Ahd num kp z x) (R := fun z => (A z ∧ Ahd num kp z x) ∨ z = x) (N := N) hx (fun z _ => Iff.rfl) (fun z => by rcases z.2 with q | q <;> omega)
  have l := cntP_le (P := fun z => (A z ∧ Ahd num kp z x) ∨ z = x) (Q := fun z => A z ∧ Ahd num kp z y) (N := N) (fun z _ hz => by
    rcases hz with ⟨a, b⟩ | e
    · refine ⟨a, ?_⟩
      unfold Ahd at *
      omega
    · rw [e]; exact ⟨ax, h⟩)
  omega
theorem rk_u (hS : SW U len st) {x y : Int} (hx : 0 ≤ x ∧ x < st 0 7) (hy : 0 ≤ y ∧ y < st 0 7) (ax : lvP U st x) (ay : lvP U st y) (e : cntP (fun z => lvP U st z ∧ Ahd (numA U (st 2)) (ktP U st) z x) (st 0 7).toNat = cntP (fun z => lvP U st z ∧ Ahd (numA U (st 2)) (ktP U st) z y) (st 0 7).toNat) : x = y := by
  by_cases a : Ahd (numA U (st 2)) (ktP U st) x y
  · have := rk_lt (A := fun z => lvP U st z) (N := (st 0 7).toNat) (by omega) ax a
    omega
  · by_cases b : Ahd (numA U (st 2)) (ktP U st) y x
    · have := rk_lt (A := fun z => lvP U st z) (N := (st 0 7).toNat) (by omega) ay b
      omega
    · have en : numA U (st 2) x = numA U (st 2) y := by
        unfold Ahd at a b
        omega
      have h1 := hS.fnN hx
      rw [en, hS.fnN hy] at h1
      exact h1.symm
theorem rk_c {x : Int} (hn : 0 ≤ st 0 7) (hx : 0 ≤ x ∧ x < st 0 7) (ax : lvP U st x) : 0 ≤ cntP (fun z => lvP U st z ∧ Ahd (numA U (st 2)) (ktP U st) z x) (st 0 7).toNat ∧ cntP (fun z => lvP U st z ∧ Ahd (numA U (st 2)) (ktP U st) z x) (st 0 7).toNat < cntP (fun z => lvP U st z) (st 0 7).toNat := by
  have e := cntP_in (P := fun z => lvP U st z ∧ Ahd (numA U (st 2)) (ktP U st) z x) (R := fun z => (lvP U st z ∧ Ahd (numA U (st 2)) (ktP U st) z x) ∨ z = x) (N := (st 0 7).toNat) (by omega) (fun z _ => Iff.rfl) (fun z => by rcases z.2 with q | q <;> omega)
  have l := cntP_le (P := fun z => (lvP U st z ∧ Ahd (numA U (st 2)) (ktP U st) z x) ∨ z = x) (Q := fun z => lvP U st z) (N := (st 0 7).toNat) (fun z _ hz => by
    rcases hz with ⟨a, b⟩ | e
    · exact a
    · rw [e]; exact ax)
  have := cntP_R (P := fun z => lvP U st z ∧ Ahd (numA U (st 2)) (ktP U st) z x) (N := (st 0 7).toNat)
  omega
theorem r5_P {A : Int → Int} {q : Int} (K : Nat) : r5 U A q K = cntP (fun k => sA U A q k = 5) K := cntZ_c K (fun x _ => by
  by_cases h : sA U A q x = 5
  · rw [decide_eq_true h, bP_e.mpr h]
  · rw [decide_eq_false h, bP_f.mpr h])
end
theorem at_top {X Mo sz sl : Nat} {lay : Nat → Nat × Int} {ρ : Nat → Int → Nat} {σ : Nat → Int → Int} {τ : Nat → Int → Int64} {U : Int → Int} {len : Int} {st : Nat → Int → Int} {p i : Int} (hRP : RdP lay ρ σ τ X p U len st) (hL : LModel lay ρ Mo) (hMP : MdP σ Mo p U len st) : ∃ v0 : Int, (∀ k, k (some (vI v0)) (sz, sl, lay, ρ, σ, τ) → TF_PR_top X p i sz sl lay ρ σ τ k) ∧ (∀ k, (∀ σ2, QF σ σ2 Mo → k (some (vI v0)) (sz, sl, lay, ρ, σ2, τ)) → TF_Model_top Mo p i sz sl lay ρ σ τ k) := by
  by_cases hp : 0 ≤ p ∧ p < 3
  rotate_left
  · exact ⟨-1, fun k hk => ⟨U, len, st, hRP, fun z => absurd z hp, fun _ => hk⟩, fun k hk => ⟨hL, U, len, st, hMP, fun z => absurd z hp, fun _ => hk σ QF.rf⟩⟩
  obtain ⟨hS, hR⟩ := hMP hp
  have hPR := (hRP.2 hp).2
  obtain ⟨w0, w1, w2, w3, w4, w5, w6, w7, w8, w9, w10, w11, w12, w13, w14⟩ := (show SW U len st from hS)
  by_cases h : ∃ x, (0 ≤ x ∧ x < st 0 7) ∧ lvP U st x ∧ cntP (fun y => lvP U st y ∧ Ahd (numA U (st 2)) (ktP U st) y x) (st 0 7).toNat = i
  · obtain ⟨x, hx, ax, ex⟩ := h
    have c := rk_c w9.1 hx ax
    have un : ∀ y, 0 ≤ y ∧ y < st 0 7 → lvP U st y → cntP (fun z => lvP U st z ∧ Ahd (numA U (st 2)) (ktP U st) z y) (st 0 7).toNat = i → y = x := fun y hy ay ey => rk_u hS hy hx ay ax (ey.trans ex.symm)
    exact ⟨numA U (st 2) x, fun k hk => ⟨U, len, st, hRP, fun _ => ⟨fun y hy ay ey => by rw [un y hy ay ey]; exact hk, fun z => by omega⟩, fun z => absurd hp z⟩, fun k hk => ⟨hL, U, len, st, hMP, fun _ => ⟨fun y hy ay ey σ2 hq => by rw [un y hy ay ey]; exact hk σ2 hq, fun z => absurd ex (z x hx ax)⟩, fun z => absurd hp z⟩⟩
  · exact ⟨-1, fun k hk => ⟨U, len, st, hRP, fun _ => ⟨fun y hy ay ey => absurd ⟨y, hy, ay, ey⟩ h, fun _ => hk⟩, fun z => absurd hp z⟩, fun k hk => ⟨hL, U, len, st, hMP, fun _ => ⟨fun y hy ay ey => absurd ⟨y, hy, ay, ey⟩ h, fun _ => hk⟩, fun z => absurd hp z⟩⟩
theorem at_ref {X Mo sz sl : Nat} {lay : Nat → Nat × Int} {ρ : Nat → Int → Nat} {σ : Nat → Int → Int} {τ : Nat → Int → Int64} {U : Int → Int} {len : Int} {st : Nat → Int → Int} {p x j : Int} (hRP : RdP lay ρ σ τ X p U len st) (hL : LModel lay ρ Mo) (hMP : MdP σ Mo p U len st) : ∃ v0 : Int, (∀ k, k (some (vI v0)) (sz, sl, lay, ρ, σ, τ) → TF_PR_ref X p x j sz sl lay ρ σ τ k) ∧ (∀ k, (∀ σ2, QF σ σ2 Mo → k (some (vI v0)) (sz, sl, lay, ρ, σ2, τ)) → TF_Model_ref Mo p x j sz sl lay ρ σ τ k) := by
  by_cases hp : 0 ≤ p ∧ p < 3
  rotate_left
  · exact ⟨-1, fun k hk => ⟨U, len, st, hRP, fun z => absurd z hp, fun _ => hk⟩, fun k hk => ⟨hL, U, len, st, hMP, fun z => absurd z hp, fun _ => hk σ QF.rf⟩⟩
  obtain ⟨hS, hR⟩ := hMP hp
  have hPR := (hRP.2 hp).2
  obtain ⟨w0, w1, w2, w3, w4, w5, w6, w7, w8, w9, w10, w11, w12, w13, w14⟩ := (show SW U len st from hS)
  by_cases h : 0 ≤ fn U st x ∧ ∃ i : Nat, i < nV U (st 1) (st 2 (fn U st x)) ∧ sA U (st 1) (st 2 (fn U st x)) i = 5 ∧ r5 U (st 1) (st 2 (fn U st x)) i = j
  · obtain ⟨hf, i, hi, hs, hr⟩ := h
    have un : ∀ y : Nat, sA U (st 1) (st 2 (fn U st x)) y = 5 → r5 U (st 1) (st 2 (fn U st x)) y = j → y = i := fun y hy ey => by
      rw [r5_P] at ey hr
      have := cntP_u (P := fun k => sA U (st 1) (st 2 (fn U st x)) k = 5) (x := (y : Int)) (y := (i : Int)) (by omega) (by omega) hy hs (by rw [Int.toNat_natCast, Int.toNat_natCast]; omega)
      omega
    have lt : 0 ≤ j ∧ j < r5 U (st 1) (st 2 (fn U st x)) (nV U (st 1) (st 2 (fn U st x))).toNat := by
      rw [← hr, r5_P, r5_P]
      have := cntP_lt (P := fun k => sA U (st 1) (st 2 (fn U st x)) k = 5) (a := i) (b := (nV U (st 1) (st 2 (fn U st x))).toNat) (by omega) hs
      have := cntP_R (P := fun k => sA U (st 1) (st 2 (fn U st x)) k = 5) (N := i)
      omega
    exact ⟨vZ U (st 1) (st 2 (fn U st x)) i, fun k hk => ⟨U, len, st, hRP, fun _ => ⟨fun _ y _ sy ey => by rw [un y sy ey]; exact hk, fun z => absurd ⟨hf, lt⟩ z⟩, fun z => absurd hp z⟩, fun k hk => ⟨hL, U, len, st, hMP, fun _ => fun σ2 hq => ⟨fun _ y _ sy ey => by rw [un y sy ey]; exact hk σ2 hq, fun z => absurd ⟨hf, lt⟩ z⟩, fun z => absurd hp z⟩⟩
  · exact ⟨-1, fun k hk => ⟨U, len, st, hRP, fun _ => ⟨fun hf y hy sy ey => absurd ⟨hf, y, hy, sy, ey⟩ h, fun _ => hk⟩, fun z => absurd hp z⟩, fun k hk => ⟨hL, U, len, st, hMP, fun _ => fun σ2 hq => ⟨fun hf y hy sy ey => absurd ⟨hf, y, hy, sy, ey⟩ h, fun _ => hk σ2 hq⟩, fun z => absurd hp z⟩⟩
theorem at_grown {X Mo sz sl : Nat} {lay : Nat → Nat × Int} {ρ : Nat → Int → Nat} {σ : Nat → Int → Int} {τ : Nat → Int → Int64} {U V : Int → Int} {len lem : Int} {st su : Nat → Int → Int} {p q x : Int} (hRP : RdP lay ρ σ τ X p U len st) (hRQ : RdP lay ρ σ τ X q V lem su) (hL : LModel lay ρ Mo) (hMP : MdP σ Mo p U len st) (hMQ : MdP σ Mo q V lem su) : ∃ v0 : Int, (∀ k, k (some (vI v0)) (sz, sl, lay, ρ, σ, τ) → TF_PR_grown X p q x sz sl lay ρ σ τ k) ∧ (∀ k, (∀ σ2, QF σ σ2 Mo → k (some (vI v0)) (sz, sl, lay, ρ, σ2, τ)) → TF_Model_grown Mo p q x sz sl lay ρ σ τ k) := by
  by_cases h : (0 ≤ p ∧ p < 3) ∧ (0 ≤ q ∧ q < 3) ∧ (0 ≤ x ∧ x < 40)
  · exact ⟨cntZ (fun i => decide (srt V (su 2 i) = 0 ∧ kdv V (su 2 i) = x)) (su 0 7).toNat - cntZ (fun i => decide (srt U (st 2 i) = 0 ∧ kdv U (st 2 i) = x)) (st 0 7).toNat, fun k hk => ⟨U, len, st, V, lem, su, hRP, hRQ, fun _ => hk, fun z => absurd h z⟩, fun k hk => ⟨hL, U, len, st, V, lem, su, hMP, hMQ, fun _ => hk σ QF.rf, fun z => absurd h z⟩⟩
  · exact ⟨-100000, fun k hk => ⟨U, len, st, V, lem, su, hRP, hRQ, fun z => absurd z h, fun _ => hk⟩, fun k hk => ⟨hL, U, len, st, V, lem, su, hMP, hMQ, fun z => absurd z h, fun _ => hk σ QF.rf⟩⟩
theorem at_differ {X Mo sz sl : Nat} {lay : Nat → Nat × Int} {ρ : Nat → Int → Nat} {σ : Nat → Int → Int} {τ : Nat → Int → Int64} {U V : Int → Int} {len lem : Int} {st su : Nat → Int → Int} {p q w : Int} (hRP : RdP lay ρ σ τ X p U len st) (hRQ : RdP lay ρ σ τ X q V lem su) (hL : LModel lay ρ Mo) (hMP : MdP σ Mo p U len st) (hMQ : MdP σ Mo q V lem su) : ∃ v0 : Int, (∀ k, k (some (vI v0)) (sz, sl, lay, ρ, σ, τ) → TF_PR_differ X p q w sz sl lay ρ σ τ k) ∧ (∀ k, (∀ σ2, QF σ σ2 Mo → k (some (vI v0)) (sz, sl, lay, ρ, σ2, τ)) → TF_Model_differ Mo p q w sz sl lay ρ σ τ k) := by
  by_cases h : (0 ≤ p ∧ p < 3) ∧ (0 ≤ q ∧ q < 3) ∧ (0 ≤ w ∧ w < 5)
  · exact ⟨cntP (dfP U st V su w) 65536, fun k hk => ⟨U, len, st, V, lem, su, hRP, hRQ, fun _ => hk, fun z => absurd h z⟩, fun k hk => ⟨hL, U, len, st, V, lem, su, hMP, hMQ, fun _ => hk, fun z => absurd h z⟩⟩
  · exact ⟨-1, fun k hk => ⟨U, len, st, V, lem, su, hRP, hRQ, fun z => absurd z h, fun _ => hk⟩, fun k hk => ⟨hL, U, len, st, V, lem, su, hMP, hMQ, fun z => absurd z h, fun _ => hk σ QF.rf⟩⟩
theorem at_differs {X Mo sz sl : Nat} {lay : Nat → Nat × Int} {ρ : Nat → Int → Nat} {σ : Nat → Int → Int} {τ : Nat → Int → Int64} {U V : Int → Int} {len lem : Int} {st su : Nat → Int → Int} {p q w y : Int} (hRP : RdP lay ρ σ τ X p U len st) (hRQ : RdP lay ρ σ τ X q V lem su) (hL : LModel lay ρ Mo) (hMP : MdP σ Mo p U len st) (hMQ : MdP σ Mo q V lem su) : ∃ v0 : Int, (∀ k, k (some (vI v0)) (sz, sl, lay, ρ, σ, τ) → TF_PR_differs X p q w y sz sl lay ρ σ τ k) ∧ (∀ k, (∀ σ2, QF σ σ2 Mo → k (some (vI v0)) (sz, sl, lay, ρ, σ2, τ)) → TF_Model_differs Mo p q w y sz sl lay ρ σ τ k) := by
  by_cases h : (0 ≤ p ∧ p < 3) ∧ (0 ≤ q ∧ q < 3) ∧ (0 ≤ w ∧ w < 5) ∧ 0 ≤ y
  · by_cases g : ∃ x, (0 ≤ x ∧ x < 65536) ∧ dfP U st V su w x ∧ cntP (dfP U st V su w) x.toNat = y
    · obtain ⟨x, hx, dx, ex⟩ := g
      have lt := cntP_lt (P := dfP U st V su w) (a := x.toNat) (b := 65536) (by omega) (by rw [show ((x.toNat : Nat) : Int) = x by omega]; exact dx)
      have un : ∀ z, 0 ≤ z ∧ z < 65536 → dfP U st V su w z → cntP (dfP U st V su w) z.toNat = y → z = x := fun z hz dz ez => cntP_u hz.1 hx.1 dz dx (ez.trans ex.symm)
      exact ⟨x, fun k hk => ⟨U, len, st, V, lem, su, hRP, hRQ, fun _ => ⟨fun z hz dz ez => by rw [un z hz dz ez]; exact hk, fun z => by omega⟩, fun z => absurd h z⟩, fun k hk => ⟨hL, U, len, st, V, lem, su, hMP, hMQ, fun _ σ2 hq => ⟨fun z hz dz ez => by rw [un z hz dz ez]; exact hk σ2 hq, fun z => by omega⟩, fun z => absurd h z⟩⟩
    · exact ⟨-1, fun k hk => ⟨U, len, st, V, lem, su, hRP, hRQ, fun _ => ⟨fun z hz dz ez => absurd ⟨z, hz, dz, ez⟩ g, fun _ => hk⟩, fun z => absurd h z⟩, fun k hk => ⟨hL, U, len, st, V, lem, su, hMP, hMQ, fun _ σ2 hq => ⟨fun z hz dz ez => absurd ⟨z, hz, dz, ez⟩ g, fun _ => hk σ2 hq⟩, fun z => absurd h z⟩⟩
  · exact ⟨-1, fun k hk => ⟨U, len, st, V, lem, su, hRP, hRQ, fun z => absurd z h, fun _ => hk⟩, fun k hk => ⟨hL, U, len, st, V, lem, su, hMP, hMQ, fun z => absurd z h, fun _ => hk σ QF.rf⟩⟩

/-! ===== a picture's graph: pure ===== -/
theorem fidx_c {f g : Int → Int} {x : Int} : ∀ N : Nat, (∀ i : Int, 0 ≤ i ∧ i < N → f i = g i) → fidx f x N = fidx g x N
  | 0, _ => rfl
  | N + 1, h => by
    unfold fidx
    rw [fidx_c N (fun i hi => h i (by omega)), h N (by omega)]
def fn (U : Int → Int) (st : Nat → Int → Int) (x : Int) : Int := fnd U (st 2) (st 0 7) x
/-- where value k of thing i leads -/
def tgt (U : Int → Int) (st : Nat → Int → Int) (i k : Int) : Int := if sA U (st 1) (st 2 i) k = 5 ∧ ¬ vZ U (st 1) (st 2 i) k = 0 then fn U st (vZ U (st 1) (st 2 i) k) else -1
def edg (U : Int → Int) (st : Nat → Int → Int) (s u v : Int) : Prop := (u = -1 ∧ 0 ≤ v ∧ ∃ r, (0 ≤ r ∧ r < st 0 9) ∧ fn U st (st 3 r) = v) ∨ ((0 ≤ u ∧ u < st 0 7) ∧ 0 ≤ v ∧ (¬ s = 0 ∨ ¬ srt U (st 2 u) = 2) ∧ ∃ k, (0 ≤ k ∧ k < nV U (st 1) (st 2 u)) ∧ tgt U st u k = v)
theorem fn_R {U : Int → Int} {st : Nat → Int → Int} (hn : 0 ≤ st 0 7) (x : Int) : fn U st x = -1 ∨ ((0 ≤ fn U st x ∧ fn U st x < st 0 7) ∧ numA U (st 2) (fn U st x) = x) := by
  rcases fidx_R (numA U (st 2)) x (st 0 7).toNat with h | h
  · exact Or.inl h
  · exact Or.inr ⟨⟨h.1, by have := h.2.1; unfold fn fnd; omega⟩, h.2.2⟩
theorem tgt_R {U : Int → Int} {st : Nat → Int → Int} (hn : 0 ≤ st 0 7) (i k : Int) : -1 ≤ tgt U st i k ∧ tgt U st i k < st 0 7 := by
  unfold tgt
  split
  · rcases fn_R (U := U) hn (vZ U (st 1) (st 2 i) k) with e | e <;> omega
  · omega
theorem r5_hit {U A : Int → Int} {q i : Int} : ∀ N : Nat, 0 ≤ i ∧ i < r5 U A q N → ∃ x : Nat, x < N ∧ sA U A q x = 5 ∧ r5 U A q x = i
  | 0, h => by rw [r5_0] at h; omega
  | N + 1, h => by
    by_cases g : i < r5 U A q N
    · obtain ⟨x, h1, h2⟩ := r5_hit N ⟨h.1, g⟩
      exact ⟨x, by omega, h2⟩
    · by_cases e : sA U A q N = 5
      · rw [r5_t e] at h
        exact ⟨N, by omega, e, by omega⟩
      · rw [r5_f e] at h; omega
theorem cntZ_app {q : Int → Bool} {a : Nat} : ∀ b : Nat, cntZ q (a + b) = cntZ q a + cntZ (fun i => q (a + i)) b
  | 0 => by show cntZ q a = cntZ q a + 0; omega
  | b + 1 => by
    have ih := cntZ_app (q := q) (a := a) b
    show cntZ q (a + b) + (if q ((a + b : Nat) : Int) = true then 1 else 0) = cntZ q a + (cntZ (fun i => q (a + i)) b + (if q (a + b) = true then 1 else 0))
    rw [ih, show ((a + b : Nat) : Int) = (a : Int) + b by omega]
    omega
/-- a count over refs is a count over the values of sort 5 -/
theorem r5_cnt {U A : Int → Int} {q : Int} {Q : Int → Bool} {rs : Int} : ∀ k : Nat, cntZ (fun i => Q (rs + i)) (r5 U A q k).toNat = cntZ (fun j => decide (sA U A q j = 5) && Q (rs + r5 U A q j.toNat)) k
  | 0 => rfl
  | k + 1 => by
    have ih := r5_cnt (U := U) (A := A) (q := q) (Q := Q) (rs := rs) k
    have hr := @r5_R U A q k
    by_cases g : sA U A q k = 5
    · rw [r5_t g, show (r5 U A q k + 1).toNat = (r5 U A q k).toNat + 1 by omega]
      have e : (((r5 U A q k).toNat : Nat) : Int) = r5 U A q k := by omega
      have e2 : ((k : Nat) : Int).toNat = k := by omega
      show cntZ _ _ + (if Q (rs + (((r5 U A q k).toNat : Nat) : Int)) = true then 1 else 0) = cntZ _ _ + (if (decide (sA U A q k = 5) && Q (rs + r5 U A q ((k : Int).toNat))) = true then 1 else 0)
      rw [ih, e, e2]
      simp [g]
    · rw [r5_f g, cntZ_f (by simp [g]), ih]
section
variable {σ : Nat → Int → Int} {τ : Nat → Int → Int64} {t : Nat} {U : Int → Int} {st : Nat → Int → Int}
abbrev PTs (σ : Nat → Int → Int) (τ : Nat → Int → Int64) (t : Nat) (U : Int → Int) (st : Nat → Int → Int) : Prop := PT σ τ t U (st 1) (st 2) (st 0 7)
theorem PT.fx (h : PTs σ τ t U st) (x : Int) : fxT σ t x = fn U st x := by
  unfold fxT fn fnd
  rw [h.1]
  exact fidx_c _ (fun i hi => (h.2.2.2.2.2.1 i (by omega)).1.1)
/-- a ref and the value that it is -/
theorem PT.rf (h : PTs σ τ t U st) {i : Int} (hi : 0 ≤ i ∧ i < st 0 7) {k : Nat} (hk : k < nV U (st 1) (st 2 i)) (hs : sA U (st 1) (st 2 i) k = 5) : σ (t + 11) (σ (t + 9) i + r5 U (st 1) (st 2 i) k) = vZ U (st 1) (st 2 i) k ∧ tgF σ t (σ (t + 9) i + r5 U (st 1) (st 2 i) k) = tgt U st i k := by
  have e := (h.2.2.2.2.2.1 i hi).2.2.2.2 k hk hs
  refine ⟨e, ?_⟩
  unfold tgF tgt
  rw [e]
  by_cases g : vZ U (st 1) (st 2 i) k = 0
  · rw [if_pos g, if_neg (fun z => z.2 g)]
  · rw [if_neg g, if_pos ⟨hs, g⟩, h.fx]
theorem PT.cat (h : PTs σ τ t U st) (hnv : ∀ i, 0 ≤ i ∧ i < st 0 7 → 0 ≤ nV U (st 1) (st 2 i)) (Q : Int → Bool) (R : Int → Int → Bool) (hQ : ∀ i, 0 ≤ i ∧ i < st 0 7 → ∀ k : Nat, k < nV U (st 1) (st 2 i) → sA U (st 1) (st 2 i) k = 5 → Q (σ (t + 9) i + r5 U (st 1) (st 2 i) k) = R i k) (hR : ∀ i, 0 ≤ i ∧ i < st 0 7 → ∀ k, 0 ≤ k ∧ k < nV U (st 1) (st 2 i) → ¬ sA U (st 1) (st 2 i) k = 5 → R i k = false) : ∀ N : Nat, N ≤ st 0 7 → cntZ Q (σ (t + 9) N).toNat = sumZ (fun i => cntZ (R i) (nV U (st 1) (st 2 i)).toNat) N
  | 0, _ => by rw [show ((0 : Nat) : Int) = 0 from rfl, h.2.2.1.2]; rfl
  | N + 1, hN => by
    have ih := PT.cat h hnv Q R hQ hR N (by omega)
    have hj := h.2.2.2.2.2.1 N (by omega)
    have b := (h.2.2.2.1 N (by omega)).2
    have hr := @r5_R U (st 1) (st 2 N) (nV U (st 1) (st 2 N)).toNat
    have nv := hnv N (by omega)
    rw [show ((N + 1 : Nat) : Int) = (N : Int) + 1 by omega, hj.2.2.1, show (σ (t + 9) N + r5 U (st 1) (st 2 N) (nV U (st 1) (st 2 N)).toNat).toNat = (σ (t + 9) N).toNat + (r5 U (st 1) (st 2 N) (nV U (st 1) (st 2 N)).toNat).toNat by omega, cntZ_app, ih]
    show _ = sumZ _ N + cntZ (R N) (nV U (st 1) (st 2 N)).toNat
    congr 1
    rw [show (((σ (t + 9) N).toNat : Nat) : Int) = σ (t + 9) N by omega, r5_cnt]
    refine cntZ_c _ (fun k hk => ?_)
    have e : ((k.toNat : Nat) : Int) = k := by omega
    by_cases g : sA U (st 1) (st 2 N) k = 5
    · have := hQ N (by omega) k.toNat (by omega) (by rw [e]; exact g)
      rw [this, e]
      simp [g]
    · rw [hR N (by omega) k (by omega) g]
      simp [g]
/-- the picture's graph is the one that was read -/
theorem gX_e {o : Nat} (h : PTs σ τ (o + 8) U st) (hr : pRt σ o st) (hn : 0 ≤ st 0 7) {s : Int} : gX σ (o + 8) s = edg U st s := by
  funext u v
  apply propext
  unfold gX edg
  constructor
  · intro z
    rcases z with ⟨z1, z2, i, hi, z3⟩ | ⟨z1, z2, z3, k, hk, z4⟩
    · left
      rw [show o + 8 + 13 = o + 21 from rfl, hr.1] at hi
      obtain ⟨r1, r2⟩ := hr.2.1 i hi
      refine ⟨z1, z2, i, hi, ?_⟩
      rw [← r1, ← h.fx, ← r2]
      exact z3
    · right
      rw [h.1] at z1
      have hj := h.2.2.2.2.2.1 u z1
      rw [hj.1.2.1] at z3
      rw [hj.2.2.1] at hk
      obtain ⟨x, x1, x2, x3⟩ := r5_hit (i := k) _ (show 0 ≤ k ∧ k < r5 U (st 1) (st 2 u) (nV U (st 1) (st 2 u)).toNat by omega)
      refine ⟨z1, z2, z3, x, by omega, ?_⟩
      have b1 := (h.2.2.2.1 u (by omega)).2
      have b2 := h.2.2.2.2.1 (u + 1) (st 0 7) (by omega)
      have hj3 := hj.2.2.1
      rw [← (h.rf z1 (k := x) (by omega) x2).2, x3, ← h.2.2.2.2.2.2.1 _ (by omega)]
      exact z4
  · intro z
    rcases z with ⟨z1, z2, i, hi, z3⟩ | ⟨z1, z2, z3, k, hk, z4⟩
    · left
      obtain ⟨r1, r2⟩ := hr.2.1 i hi
      refine ⟨z1, z2, i, by rw [show o + 8 + 13 = o + 21 from rfl, hr.1]; exact hi, ?_⟩
      rw [show o + 8 + 13 + 2 = o + 23 from rfl, r2, h.fx, r1]
      exact z3
    · right
      have hj := h.2.2.2.2.2.1 u z1
      have g5 : sA U (st 1) (st 2 u) k = 5 ∧ ¬ vZ U (st 1) (st 2 u) k = 0 := by
        unfold tgt at z4
        by_cases g : sA U (st 1) (st 2 u) k = 5 ∧ ¬ vZ U (st 1) (st 2 u) k = 0
        · exact g
        · rw [if_neg g] at z4; omega
      have e : ((k.toNat : Nat) : Int) = k := by omega
      have hrf := h.rf z1 (k := k.toNat) (by omega) (by rw [e]; exact g5.1)
      rw [e] at hrf
      have hl := r5_lt (U := U) (A := st 1) (q := st 2 u) (a := k.toNat) (b := (nV U (st 1) (st 2 u)).toNat) (by omega) (by rw [e]; exact g5.1)
      have hr0 := @r5_R U (st 1) (st 2 u) k.toNat
      have b1 := (h.2.2.2.1 u (by omega)).2
      have b2 := h.2.2.2.2.1 (u + 1) (st 0 7) (by omega)
      have hj3 := hj.2.2.1
      refine ⟨by rw [h.1]; exact z1, z2, by rw [hj.1.2.1]; exact z3, r5 U (st 1) (st 2 u) k.toNat, by rw [hj.2.2.1]; omega, ?_⟩
      rw [h.2.2.2.2.2.2.1 _ (by omega), hrf.2]
      exact z4
end

def srt (U : Int → Int) (q : Int) : Int := if U q = 84 then 0 else if U q = 82 then 1 else 2
def kdv (U : Int → Int) (q : Int) : Int := if U q = 83 then 0 else U (q + 3)
def szv (U A : Int → Int) (q : Int) : Int := ((if U q = 83 then 12 else (if U q = 82 then 6 else 4) + (vP U A q (nV U A q) - q)) + 7) / 8 * 8
/-- one thing, as it was read -/
def TI (σ : Nat → Int → Int) (τ : Nat → Int → Int64) (t : Nat) (U A T : Int → Int) (i : Int) : Prop := (σ (t + 1) i = numA U T i ∧ σ (t + 2) i = srt U (T i) ∧ σ (t + 3) i = kdv U (T i) ∧ σ (t + 4) i = T i ∧ σ (t + 5) i = szv U A (T i) ∧ σ (t + 6) i = 0) ∧ σ (t + 8) (i + 1) = σ (t + 8) i + nV U A (T i) ∧ σ (t + 9) (i + 1) = σ (t + 9) i + r5 U A (T i) (nV U A (T i)).toNat ∧ (∀ k, 0 ≤ k ∧ k < nV U A (T i) → τ (t + 10) (σ (t + 8) i + k) = Int64.ofInt (vZ U A (T i) k)) ∧ (∀ k : Nat, k < nV U A (T i) → sA U A (T i) k = 5 → σ (t + 11) (σ (t + 9) i + r5 U A (T i) k) = vZ U A (T i) k)
/-- the things read so far -/
def TR (σ : Nat → Int → Int) (τ : Nat → Int → Int64) (t : Nat) (U A T : Int → Int) (n refs pl : Int) : Prop := (σ t 12 = n ∧ σ t 13 = refs ∧ σ t 14 = 0) ∧ ThB σ t ∧ (σ (t + 8) 0 = 0 ∧ σ (t + 9) 0 = 0) ∧ (∀ i, 0 ≤ i ∧ i ≤ n → (0 ≤ σ (t + 8) i ∧ σ (t + 8) i ≤ pl) ∧ 0 ≤ σ (t + 9) i ∧ 2 * σ (t + 9) i ≤ pl) ∧ (∀ i j, 0 ≤ i ∧ i ≤ j ∧ j ≤ n → σ (t + 8) i ≤ σ (t + 8) j ∧ σ (t + 9) i ≤ σ (t + 9) j) ∧ ∀ i, 0 ≤ i ∧ i < n → TI σ τ t U A T i
theorem beZ_c {b c : Int → Int} : ∀ (n : Nat) (p v : Int), (∀ i, p ≤ i ∧ i < p + n → b i = c i) → beZ b p n v = beZ c p n v
  | 0, _, _, _ => rfl
  | n + 1, p, v, h => by
    show beZ b (p + 1) n (v * 256 + b p) = beZ c (p + 1) n (v * 256 + c p)
    rw [h p (by omega), beZ_c n (p + 1) _ (fun i hi => h i (by omega))]
/-- the number that the tape tells for a value -/
def cvZ (U : Int → Int) (s f : Int) : Int := if s = 5 then 256 * U f + U (f + 1) else beZ U f (wd s).toNat (if 127 < U f then -1 else 0)
theorem cvZ_n4 {U : Int → Int} {s f : Int} (h : ¬ s = 4) : cvZ U s f = beZ U f (wd s).toNat (vS U s f) := by
  unfold cvZ vS
  by_cases e : s = 5
  · rw [if_pos e, if_pos (Or.inl e), e, wd_5]
    show _ = ((0 * 256 + U f) * 256 + U (f + 1))
    omega
  · rw [if_neg e, if_neg (c := s = 5 ∨ s = 4) (by omega)]
theorem cvZ_4 {U : Int → Int} {f : Int} (hU : 0 ≤ U f ∧ U f < 256) : beZ U f (wd 4).toNat (vS U 4 f) = U f ∧ (127 < U f ∧ cvZ U 4 f = U f - 256 ∨ ¬ 127 < U f ∧ cvZ U 4 f = U f) := by
  unfold cvZ vS
  rw [if_pos (Or.inr rfl), if_neg (by decide), wd_4]
  refine ⟨?_, ?_⟩
  · show 0 * 256 + U f = U f
    omega
  · by_cases e : 127 < U f
    · left
      rw [if_pos e]
      exact ⟨e, by show -1 * 256 + U f = _; omega⟩
    · right
      rw [if_neg e]
      exact ⟨e, by show 0 * 256 + U f = _; omega⟩
theorem i64_lt {x y : Int} (hx : inRL x) (hy : inRL y) : Int64.ofInt x < Int64.ofInt y ↔ x < y := by
  rw [Int64.lt_iff_toInt_lt, toIL hx, toIL hy]
/-- a truth is wrong on one side as on the other -/
theorem bad_e {U A : Int → Int} {q k : Int} (hU : ∀ x, 0 ≤ U x ∧ U x < 256) : (sA U A q k = 4 ∧ (Int64.ofInt (cvZ U (sA U A q k) (vP U A q k)) < 0 ∨ 1 < Int64.ofInt (cvZ U (sA U A q k) (vP U A q k)))) ↔ (sA U A q k = 4 ∧ ¬ (vZ U A q k = 0 ∨ vZ U A q k = 1)) := by
  by_cases e : sA U A q k = 4
  · obtain ⟨h1, h2⟩ := cvZ_4 (hU (vP U A q k))
    have h3 := hU (vP U A q k)
    have hv : vZ U A q k = U (vP U A q k) := by
      unfold vZ
      rw [e]; exact h1
    have hr : inRL (cvZ U 4 (vP U A q k)) := by unfold inRL; omega
    rw [e, hv, show (0 : Int64) = Int64.ofInt 0 from rfl, show (1 : Int64) = Int64.ofInt 1 from rfl, i64_lt hr (by unfold inRL; omega), i64_lt (by unfold inRL; omega) hr]
    constructor
    · intro ⟨_, z⟩
      exact ⟨rfl, by omega⟩
    · intro ⟨_, z⟩
      exact ⟨rfl, by omega⟩
  · exact ⟨fun z => absurd z.1 e, fun z => absurd z.1 e⟩
theorem good_e {U A : Int → Int} {q k : Int} (hU : ∀ x, 0 ≤ U x ∧ U x < 256) (h : ¬ (sA U A q k = 4 ∧ ¬ (vZ U A q k = 0 ∨ vZ U A q k = 1))) : cvZ U (sA U A q k) (vP U A q k) = vZ U A q k := by
  by_cases e : sA U A q k = 4
  · obtain ⟨h1, h2⟩ := cvZ_4 (hU (vP U A q k))
    have hv : vZ U A q k = U (vP U A q k) := by
      unfold vZ
      rw [e]; exact h1
    have : vZ U A q k = 0 ∨ vZ U A q k = 1 := Classical.byContradiction (fun z => h ⟨e, z⟩)
    rw [e]
    omega
  · rw [cvZ_n4 e]; rfl
/-- k values of a thing are in -/
def ADg (σ σ1 : Nat → Int → Int) (τ τ1 : Nat → Int → Int64) (t : Nat) (U A : Int → Int) (q n : Int) (k : Nat) : Prop := ((∀ a, ¬ a = t → ¬ a = t + 11 → σ1 a = σ a) ∧ (∀ j, ¬ (15 ≤ j ∧ j ≤ 17) → σ1 t j = σ t j) ∧ (∀ x, x < σ (t + 9) n → σ1 (t + 11) x = σ (t + 11) x) ∧ (∀ a, ¬ a = t + 10 → τ1 a = τ a) ∧ (∀ x, x < σ (t + 8) n → τ1 (t + 10) x = τ (t + 10) x)) ∧ (σ (t + 8) n ≤ σ1 t 15 ∧ σ1 t 15 ≤ σ (t + 8) n + k) ∧ (σ (t + 9) n ≤ σ1 t 16 ∧ σ1 t 16 ≤ σ (t + 9) n + r5 U A q k) ∧ ((¬ σ1 t 17 = 0 ∧ ∃ j : Nat, j < k ∧ sA U A q j = 4 ∧ ¬ (vZ U A q j = 0 ∨ vZ U A q j = 1)) ∨ (σ1 t 17 = 0 ∧ (∀ j : Nat, j < k → sA U A q j = 4 → vZ U A q j = 0 ∨ vZ U A q j = 1) ∧ σ1 t 15 = σ (t + 8) n + k ∧ σ1 t 16 = σ (t + 9) n + r5 U A q k ∧ (∀ j, 0 ≤ j ∧ j < (k : Int) → τ1 (t + 10) (σ (t + 8) n + j) = Int64.ofInt (vZ U A q j)) ∧ ∀ j : Nat, j < k → sA U A q j = 5 → σ1 (t + 11) (σ (t + 9) n + r5 U A q j) = vZ U A q j))
theorem r5_0 {U A : Int → Int} {q : Int} : r5 U A q 0 = 0 := rfl
theorem r5_t {U A : Int → Int} {q : Int} {k : Nat} (h : sA U A q k = 5) : r5 U A q (k + 1) = r5 U A q k + 1 := cntZ_t (q := fun k => decide (sA U A q k = 5)) (by simp [h])
theorem r5_f {U A : Int → Int} {q : Int} {k : Nat} (h : ¬ sA U A q k = 5) : r5 U A q (k + 1) = r5 U A q k := cntZ_f (q := fun k => decide (sA U A q k = 5)) (by simp [h])
theorem r5_m {U A : Int → Int} {q : Int} {a : Nat} : ∀ {b : Nat}, a ≤ b → r5 U A q a ≤ r5 U A q b
  | 0, h => by rw [show a = 0 by omega]; omega
  | b + 1, h => by
    by_cases e : a = b + 1
    · rw [e]; omega
    · have := r5_m (U := U) (A := A) (q := q) (a := a) (b := b) (by omega)
      by_cases g : sA U A q b = 5
      · rw [r5_t g]; omega
      · rw [r5_f g]; omega
theorem r5_lt {U A : Int → Int} {q : Int} {a b : Nat} (h : a < b) (g : sA U A q a = 5) : r5 U A q a < r5 U A q b := by
  have := r5_m (U := U) (A := A) (q := q) (a := a + 1) (b := b) (by omega)
  rw [r5_t g] at this
  omega
theorem r5_R {U A : Int → Int} {q : Int} {k : Nat} : 0 ≤ r5 U A q k ∧ r5 U A q k ≤ k := cntZ_R _ k
section
variable {σ σ1 : Nat → Int → Int} {τ τ1 : Nat → Int → Int64} {t : Nat} {U A : Int → Int} {q n : Int} {k : Nat}
theorem ADg.begin : ADg σ (fu σ t (iu (iu (iu (σ t) 15 (σ (t + 8) n)) 16 (σ (t + 9) n)) 17 0)) τ τ t U A q n 0 := by
  refine ⟨⟨fun a h1 h2 => fu_n h1, fun j hj => ?_, fun x _ => by rw [fu_0a (by decide)], fun a _ => rfl, fun x _ => rfl⟩, ?_, ?_, Or.inr ?_⟩
  · rw [fu_s, iu_n (by omega), iu_n (by omega), iu_n (by omega)]
  · simp only [fu_s, iu_l, iu_s, Int.reduceBEq]; omega
  · simp only [fu_s, iu_l, iu_s, Int.reduceBEq, r5_0]; omega
  · simp only [fu_s, iu_l, iu_s, Int.reduceBEq, r5_0]
    exact ⟨trivial, fun j hj => by omega, by omega, by omega, fun j hj => by omega, fun j hj => by omega⟩
theorem ADg.bad (h : ADg σ σ1 τ τ1 t U A q n k) (hb : sA U A q k = 4 ∧ ¬ (vZ U A q k = 0 ∨ vZ U A q k = 1)) : ADg σ (fu σ1 t (iu (σ1 t) 17 1)) τ τ1 t U A q n (k + 1) := by
  obtain ⟨⟨f1, f2, f3, f4, f5⟩, h1, h2, h3⟩ := h
  refine ⟨⟨fun a z1 z2 => (fu_n z1).trans (f1 a z1 z2), fun j hj => ?_, fun x hx => by rw [fu_0a (by decide)]; exact f3 x hx, f4, f5⟩, ?_, ?_, Or.inl ⟨by rw [fu_s, iu_s]; decide, k, by omega, hb⟩⟩
  · rw [fu_s, iu_n (by omega)]; exact f2 j hj
  · rw [fu_s, iu_l (by decide)]; omega
  · rw [fu_s, iu_l (by decide), r5_f (by omega)]; omega
theorem ADg.val (h : ADg σ σ1 τ τ1 t U A q n k) (hb : ¬ (sA U A q k = 4 ∧ ¬ (vZ U A q k = 0 ∨ vZ U A q k = 1))) (h5 : ¬ sA U A q k = 5) : ADg σ (fu σ1 t (iu (σ1 t) 15 (σ1 t 15 + 1))) τ (fu τ1 (t + 10) (iu (τ1 (t + 10)) (σ1 t 15) (Int64.ofInt (vZ U A q k)))) t U A q n (k + 1) := by
  obtain ⟨⟨f1, f2, f3, f4, f5⟩, h1, h2, h3⟩ := h
  refine ⟨⟨fun a z1 z2 => (fu_n z1).trans (f1 a z1 z2), fun j hj => ?_, fun x hx => by rw [fu_0a (by decide)]; exact f3 x hx, fun a z => (fu_n z).trans (f4 a z), fun x hx => ?_⟩, ?_, ?_, ?_⟩
  · rw [fu_s, iu_n (by omega)]; exact f2 j hj
  · rw [fu_s, iu_n (by omega)]; exact f5 x hx
  · rw [fu_s, iu_s]; omega
  · rw [fu_s, iu_l (by decide), r5_f h5]; omega
  · rcases h3 with ⟨z1, j, z2, z3⟩ | ⟨z1, z2, z3, z4, z5, z6⟩
    · exact Or.inl ⟨by rw [fu_s, iu_l (by decide)]; exact z1, j, by omega, z3⟩
    · right
      refine ⟨by rw [fu_s, iu_l (by decide)]; exact z1, fun j hj h4 => ?_, by rw [fu_s, iu_s]; omega, by rw [fu_s, iu_l (by decide), r5_f h5]; exact z4, fun j hj => ?_, fun j hj hs => ?_⟩
      · by_cases e : j = k
        · subst e; exact Classical.byContradiction (fun w => hb ⟨h4, w⟩)
        · exact z2 j (by omega) h4
      · rw [fu_s, z3]
        by_cases e : j = k
        · rw [e, iu_s]
        · rw [iu_n (by omega)]; exact z5 j (by omega)
      · rw [fu_0a (by decide)]
        have : ¬ j = k := fun e => by rw [e] at hs; exact h5 hs
        exact z6 j (by omega) hs
theorem ADg.ref (h : ADg σ σ1 τ τ1 t U A q n k) (h5 : sA U A q k = 5) : ADg σ (fu (fu σ1 (t + 11) (iu (σ1 (t + 11)) (σ1 t 16) (vZ U A q k))) t (iu (iu (σ1 t) 15 (σ1 t 15 + 1)) 16 (σ1 t 16 + 1))) τ (fu τ1 (t + 10) (iu (τ1 (t + 10)) (σ1 t 15) (Int64.ofInt (vZ U A q k)))) t U A q n (k + 1) := by
  obtain ⟨⟨f1, f2, f3, f4, f5⟩, h1, h2, h3⟩ := h
  refine ⟨⟨fun a z1 z2 => (fu_n z1).trans ((fu_n z2).trans (f1 a z1 z2)), fun j hj => ?_, fun x hx => ?_, fun a z => (fu_n z).trans (f4 a z), fun x hx => ?_⟩, ?_, ?_, ?_⟩
  · rw [fu_s, iu_n (by omega), iu_n (by omega)]; exact f2 j hj
  · rw [fu_0a (by decide), fu_s, iu_n (by omega)]; exact f3 x hx
  · rw [fu_s, iu_n (by omega)]; exact f5 x hx
  · rw [fu_s, iu_l (by decide), iu_s]; omega
  · rw [fu_s, iu_s, r5_t h5]; omega
  · rcases h3 with ⟨z1, j, z2, z3⟩ | ⟨z1, z2, z3, z4, z5, z6⟩
    · exact Or.inl ⟨by rw [fu_s, iu_l (by decide), iu_l (by decide)]; exact z1, j, by omega, z3⟩
    · right
      refine ⟨by rw [fu_s, iu_l (by decide), iu_l (by decide)]; exact z1, fun j hj h4 => ?_, by rw [fu_s, iu_l (by decide), iu_s]; omega, by rw [fu_s, iu_s, r5_t h5]; omega, fun j hj => ?_, fun j hj hs => ?_⟩
      · have : ¬ j = k := fun e => by rw [e] at h4; omega
        exact z2 j (by omega) h4
      · rw [fu_s, z3]
        by_cases e : j = k
        · rw [e, iu_s]
        · rw [iu_n (by omega)]; exact z5 j (by omega)
      · rw [fu_0a (by decide), fu_s, z4]
        by_cases e : j = k
        · subst e; rw [iu_s]
        · have := r5_lt (U := U) (A := A) (q := q) (a := j) (b := k) (by omega) hs
          rw [iu_n (by omega)]
          exact z6 j (by omega) hs
theorem ADg.sp (h : ADg σ σ1 τ τ1 t U A q n k) (hk : (k : Int) = nV U A q) : (σ1 t 17 = 0 ↔ tru U A q) := by
  obtain ⟨-, -, -, h3⟩ := h
  rcases h3 with ⟨z1, j, z2, z3, z4⟩ | ⟨z1, z2, -⟩
  · exact ⟨fun e => absurd e z1, fun e => absurd (e j (by omega) z3) z4⟩
  · refine ⟨fun _ j hj hs => ?_, fun _ => z1⟩
    have := z2 j.toNat (by omega)
    rw [show ((j.toNat : Nat) : Int) = j by omega] at this
    exact this hs
theorem rz_e {f : Int → Int} {rs : Int} : ∀ k : Nat, (∀ j : Nat, j < k → sA U A q j = 5 → f (rs + r5 U A q j) = vZ U A q j) → cntZ (fun i => decide (¬ f (rs + i) = 0)) (r5 U A q k).toNat = cntZ (fun j => decide (sA U A q j = 5 ∧ ¬ vZ U A q j = 0)) k
  | 0, _ => rfl
  | k + 1, h => by
    have ih := rz_e (f := f) (rs := rs) k (fun j hj => h j (by omega))
    have hr := @r5_R U A q k
    by_cases g : sA U A q k = 5
    · rw [r5_t g, show (r5 U A q k + 1).toNat = (r5 U A q k).toNat + 1 by omega]
      have e : (((r5 U A q k).toNat : Nat) : Int) = r5 U A q k := by omega
      have hf := h k (by omega) g
      by_cases z : vZ U A q k = 0
      · rw [cntZ_f (by simp [e, hf, z]), cntZ_f (by simp [z]), ih]
      · rw [cntZ_t (by simp [e, hf, z]), cntZ_t (by simp [g, z]), ih]
    · rw [r5_f g, cntZ_f (by simp [g]), ih]
end
theorem ThB.keep {σ : Nat → Int → Int} {t : Nat} (h : ThB σ t) (hn : 0 ≤ σ t 12) {x s d q m set r : Int} (hr : 0 ≤ r ∧ r ≤ σ t 12) (h1 : ∀ i, 0 ≤ i ∧ i < r → σ (t + 1) (σ (t + 7) i) < x) (h2 : ∀ i, r ≤ i ∧ i < σ t 12 → x ≤ σ (t + 1) (σ (t + 7) i)) (hx : ∀ i, 0 ≤ i ∧ i < σ t 12 → ¬ σ (t + 1) i = x) : ThB (keepS σ t x s d q m set r) t := by
  have e12 : keepS σ t x s d q m set r t 12 = σ t 12 + 1 := by
    unfold keepS
    simp only [fu_a0, fu_s, iu_s, Nat.reduceBEq]
  have e1 : keepS σ t x s d q m set r (t + 1) = iu (σ (t + 1)) (σ t 12) x := by
    unfold keepS
    simp only [fu_0a, fu_am, fu_s, Nat.reduceBEq]
  have e7 : keepS σ t x s d q m set r (t + 7) = iu (fun i => if r + 1 ≤ i ∧ i < r + 1 + (σ t 12 - r) then σ (t + 7) (r + (i - (r + 1))) else σ (t + 7) i) r (σ t 12) := by
    unfold keepS
    simp only [fu_0a, fu_am, fu_s, Nat.reduceBEq]
  obtain ⟨b1, b2, b3⟩ := h
  have row : ∀ i, 0 ≤ i ∧ i < σ t 12 + 1 → (i < r ∧ keepS σ t x s d q m set r (t + 7) i = σ (t + 7) i) ∨ (i = r ∧ keepS σ t x s d q m set r (t + 7) i = σ t 12) ∨ (r < i ∧ keepS σ t x s d q m set r (t + 7) i = σ (t + 7) (i - 1)) := by
    intro i hi
    rw [e7]
    have w : i < r ∨ i = r ∨ r < i := by omega
    rcases w with w | w | w
    · left
      refine ⟨w, ?_⟩
      rw [iu_n (by omega), if_neg (by omega)]
    · right; left
      exact ⟨w, by rw [w, iu_s]⟩
    · right; right
      refine ⟨w, ?_⟩
      rw [iu_n (by omega), if_pos (by omega), show r + (i - (r + 1)) = i - 1 by omega]
  have lt : ∀ i, r ≤ i ∧ i < σ t 12 → x < σ (t + 1) (σ (t + 7) i) := by
    intro i hi
    have := h2 i hi
    have := hx (σ (t + 7) i) (b1 i (by omega))
    omega
  unfold ThB
  rw [e12, e1]
  refine ⟨fun i hi => ?_, fun i j hij => ?_, fun i hi => ?_⟩
  · rcases row i hi with ⟨w, e⟩ | ⟨w, e⟩ | ⟨w, e⟩ <;> rw [e]
    · have := b1 i (by omega); omega
    · omega
    · have := b1 (i - 1) (by omega); omega
  · have nb : ∀ z, 0 ≤ z ∧ z < σ t 12 → iu (σ (t + 1)) (σ t 12) x (σ (t + 7) z) = σ (t + 1) (σ (t + 7) z) := fun z hz => iu_n (by have := b1 z hz; omega)
    rcases row i (by omega) with ⟨w, e⟩ | ⟨w, e⟩ | ⟨w, e⟩ <;> rcases row j (by omega) with ⟨w2, e2⟩ | ⟨w2, e2⟩ | ⟨w2, e2⟩ <;> rw [e, e2]
    · rw [nb i (by omega), nb j (by omega)]; exact b2 i j (by omega)
    · rw [nb i (by omega), iu_s]; exact h1 i (by omega)
    · rw [nb i (by omega), nb (j - 1) (by omega)]; exact b2 i (j - 1) (by omega)
    · omega
    · omega
    · rw [iu_s, nb (j - 1) (by omega)]; exact lt (j - 1) (by omega)
    · omega
    · omega
    · rw [nb (i - 1) (by omega), nb (j - 1) (by omega)]; exact b2 (i - 1) (j - 1) (by omega)
  · by_cases e : i = σ t 12
    · refine ⟨r, by omega, ?_⟩
      rw [e7, e, iu_s]
    · obtain ⟨z, hz, ez⟩ := b3 i (by omega)
      by_cases w : z < r
      · refine ⟨z, by omega, ?_⟩
        rw [e7, iu_n (by omega), if_neg (by omega)]; exact ez
      · refine ⟨z + 1, by omega, ?_⟩
        rw [e7, iu_n (by omega), if_pos (by omega), show r + (z + 1 - (r + 1)) = z by omega]; exact ez

/-- one thing, at the end -/
def TJ (σ : Nat → Int → Int) (τ : Nat → Int → Int64) (t : Nat) (U A T : Int → Int) (i : Int) : Prop := (σ (t + 1) i = numA U T i ∧ σ (t + 2) i = srt U (T i) ∧ σ (t + 3) i = kdv U (T i) ∧ σ (t + 4) i = T i ∧ σ (t + 5) i = szv U A (T i)) ∧ σ (t + 8) (i + 1) = σ (t + 8) i + nV U A (T i) ∧ σ (t + 9) (i + 1) = σ (t + 9) i + r5 U A (T i) (nV U A (T i)).toNat ∧ (∀ k, 0 ≤ k ∧ k < nV U A (T i) → τ (t + 10) (σ (t + 8) i + k) = Int64.ofInt (vZ U A (T i) k)) ∧ (∀ k : Nat, k < nV U A (T i) → sA U A (T i) k = 5 → σ (t + 11) (σ (t + 9) i + r5 U A (T i) k) = vZ U A (T i) k)
/-- the things of a picture that has been read -/
def PT (σ : Nat → Int → Int) (τ : Nat → Int → Int64) (t : Nat) (U A T : Int → Int) (n : Int) : Prop := σ t 12 = n ∧ ThB σ t ∧ (σ (t + 8) 0 = 0 ∧ σ (t + 9) 0 = 0) ∧ (∀ i, 0 ≤ i ∧ i ≤ n → (0 ≤ σ (t + 8) i ∧ σ (t + 8) i ≤ 8000) ∧ 0 ≤ σ (t + 9) i ∧ σ (t + 9) i ≤ 4000) ∧ (∀ i j, 0 ≤ i ∧ i ≤ j ∧ j ≤ n → σ (t + 8) i ≤ σ (t + 8) j ∧ σ (t + 9) i ≤ σ (t + 9) j) ∧ (∀ i, 0 ≤ i ∧ i < n → TJ σ τ t U A T i) ∧ (∀ j, 0 ≤ j ∧ j < σ (t + 9) n → σ (t + 12) j = tgF σ t j) ∧ (∀ i, 0 ≤ i ∧ i < n → σ (t + 6) i = cntZ (fun j => decide (tgF σ t j = i)) (σ (t + 9) n).toNat) ∧ σ t 14 = cntZ (fun j => decide (¬ σ (t + 11) j = 0 ∧ tgF σ t j = -1)) (σ (t + 9) n).toNat
def pSC (σ : Nat → Int → Int) (o : Nat) (len : Int) (st : Nat → Int → Int) : Prop := σ o 8 = len ∧ σ o 9 = st 0 1 ∧ σ o 10 = st 0 2 ∧ σ o 11 = st 0 3
def pK (σ : Nat → Int → Int) (o : Nat) (U : Int → Int) (st : Nat → Int → Int) : Prop := KR σ (o + 1) U (st 1) ∧ σ (o + 1) 6 = st 0 6
def pR0 (σ : Nat → Int → Int) (o : Nat) (st : Nat → Int → Int) : Prop := σ (o + 21) 2 = st 0 9 ∧ σ (o + 21) 3 = 0 ∧ ∀ i, 0 ≤ i ∧ i < st 0 9 → σ (o + 22) i = st 3 i
def pH (σ : Nat → Int → Int) (o : Nat) (st : Nat → Int → Int) : Prop := σ (o + 24) 2 = st 0 4 ∧ σ (o + 24) 3 = st 0 5 ∧ ∀ i, 0 ≤ i ∧ i < st 0 4 → σ (o + 25) i = st 4 i ∧ σ (o + 26) i = st 5 i
def pRt (σ : Nat → Int → Int) (o : Nat) (st : Nat → Int → Int) : Prop := σ (o + 21) 2 = st 0 9 ∧ (∀ i, 0 ≤ i ∧ i < st 0 9 → σ (o + 22) i = st 3 i ∧ σ (o + 23) i = fxT σ (o + 8) (σ (o + 22) i)) ∧ σ (o + 21) 3 = cntZ (fun i => decide (fxT σ (o + 8) (σ (o + 22) i) = -1)) (st 0 9).toNat
/-- a picture up to its roots -/
def B1 (σ : Nat → Int → Int) (τ : Nat → Int → Int64) (o : Nat) (U : Int → Int) (len : Int) (st : Nat → Int → Int) : Prop := pSC σ o len st ∧ pK σ o U st ∧ PT σ τ (o + 8) U (st 1) (st 2) (st 0 7) ∧ pRt σ o st ∧ pH σ o st
def pW (σ : Nat → Int → Int) (t w : Nat) (s : Int) : Prop := ∃ bp, SpW σ t w s bp
/-- a picture that has been read -/
def PR (σ : Nat → Int → Int) (τ : Nat → Int → Int64) (o : Nat) (U : Int → Int) (len : Int) (st : Nat → Int → Int) : Prop := B1 σ τ o U len st ∧ pW σ (o + 8) (o + 27) 0 ∧ pW σ (o + 8) (o + 31) 1 ∧ LfI σ σ (o + 8) (o + 27) (o + 35) ∧ TwS σ σ τ (o + 8) (o + 40)
theorem fxT_c {σ σ2 : Nat → Int → Int} {t : Nat} (e0 : σ2 t 12 = σ t 12) (e1 : σ2 (t + 1) = σ (t + 1)) : fxT σ2 t = fxT σ t := by
  funext x
  unfold fxT
  rw [e0, e1]
theorem tgF_c {σ σ2 : Nat → Int → Int} {t : Nat} (e0 : σ2 t 12 = σ t 12) (e1 : σ2 (t + 1) = σ (t + 1)) (e11 : σ2 (t + 11) = σ (t + 11)) : tgF σ2 t = tgF σ t := by
  funext x
  unfold tgF
  rw [e11, fxT_c e0 e1]
theorem PT.cg {σ σ2 : Nat → Int → Int} {τ τ2 : Nat → Int → Int64} {t : Nat} {U A T : Int → Int} {n : Int} (h : PT σ τ t U A T n) (e : ∀ j, j ≤ 12 → σ2 (t + j) = σ (t + j)) (et : τ2 (t + 10) = τ (t + 10)) : PT σ2 τ2 t U A T n := by
  have e0 : σ2 t = σ t := e 0 (by omega)
  have e1 := e 1 (by omega)
  have e11 := e 11 (by omega)
  have eg := tgF_c (t := t) (by rw [e0]) e1 e11
  unfold PT TJ ThB
  rw [eg, e0, et, e1, e 2 (by omega), e 3 (by omega), e 4 (by omega), e 5 (by omega), e 6 (by omega), e 7 (by omega), e 8 (by omega), e 9 (by omega), e11, e 12 (by omega)]
  exact h
theorem pRt.cg {σ σ2 : Nat → Int → Int} {o : Nat} {st : Nat → Int → Int} (h : pRt σ o st) (e : ∀ j, 8 ≤ j → j ≤ 23 → σ2 (o + j) = σ (o + j)) : pRt σ2 o st := by
  have ef := fxT_c (σ := σ) (σ2 := σ2) (t := o + 8) (by rw [e 8 (by omega) (by omega)]) (e 9 (by omega) (by omega))
  unfold pRt
  rw [ef, e 21 (by omega) (by omega), e 22 (by omega) (by omega), e 23 (by omega) (by omega)]
  exact h
theorem B1.cg {σ σ2 : Nat → Int → Int} {τ τ2 : Nat → Int → Int64} {o : Nat} {U : Int → Int} {len : Int} {st : Nat → Int → Int} (h : B1 σ τ o U len st) (e : ∀ j, j ≤ 26 → σ2 (o + j) = σ (o + j)) (et : τ2 (o + 18) = τ (o + 18)) : B1 σ2 τ2 o U len st := by
  obtain ⟨h1, h2, h3, h4, h5⟩ := h
  refine ⟨?_, ⟨h2.1.cg (fun j _ _ => ?_), ?_⟩, h3.cg (fun j hj => ?_) et, h4.cg (fun j _ _ => e j (by omega)), ?_⟩
  · have e0 : σ2 o = σ o := e 0 (by omega)
    unfold pSC
    rw [e0]; exact h1
  · rw [Nat.add_assoc]; exact e (1 + j) (by omega)
  · rw [e 1 (by omega)]; exact h2.2
  · rw [Nat.add_assoc]; exact e (8 + j) (by omega)
  · unfold pH
    rw [e 24 (by omega), e 25 (by omega), e 26 (by omega)]
    exact h5
theorem pW.cg {σ σ2 : Nat → Int → Int} {t w : Nat} {s : Int} (h : pW σ t w s) (e : ∀ j, j ≤ 15 → σ2 (t + j) = σ (t + j)) (ew : ∀ j, j ≤ 3 → σ2 (w + j) = σ (w + j)) : pW σ2 t w s := by
  obtain ⟨bp, h⟩ := h
  refine ⟨bp, ?_⟩
  have e0 : σ2 t = σ t := e 0 (by omega)
  have w0 : σ2 w = σ w := ew 0 (by omega)
  have eg : gX σ2 t s = gX σ t s := by
    funext u v
    unfold gX gR gE
    rw [e0, e 2 (by omega), e 9 (by omega), e 12 (by omega), e 13 (by omega), show t + 13 + 2 = t + 15 from rfl, e 15 (by omega)]
  unfold SpW
  rw [eg, e0, w0, e 1 (by omega), ew 1 (by omega), ew 2 (by omega), ew 3 (by omega)]
  exact h
theorem gX.cg {σ σ2 : Nat → Int → Int} {t : Nat} {s : Int} (e : ∀ j, j ≤ 15 → σ2 (t + j) = σ (t + j)) : gX σ2 t s = gX σ t s := by
  have e0 : σ2 t = σ t := e 0 (by omega)
  funext u v
  unfold gX gR gE
  rw [e0, e 2 (by omega), e 9 (by omega), e 12 (by omega), e 13 (by omega), show t + 13 + 2 = t + 15 from rfl, e 15 (by omega)]
theorem LfI.cg {σ σ1 σ2 σ3 : Nat → Int → Int} {t w o : Nat} (h : LfI σ σ1 t w o) (e : ∀ j, j ≤ 15 → σ2 (t + j) = σ (t + j)) (ew : ∀ j, j ≤ 3 → σ2 (w + j) = σ (w + j)) (eo : ∀ j, j ≤ 4 → σ3 (o + j) = σ1 (o + j)) : LfI σ2 σ3 t w o := by
  have e0 : σ2 t = σ t := e 0 (by omega)
  have w0 : σ2 w = σ w := ew 0 (by omega)
  have o0 : σ3 o = σ1 o := eo 0 (by omega)
  unfold LfI
  rw [gX.cg e, e0, w0, o0, e 1 (by omega), e 5 (by omega), e 7 (by omega), ew 1 (by omega), ew 2 (by omega), eo 1 (by omega), eo 2 (by omega), eo 3 (by omega), eo 4 (by omega)]
  exact h
/-- the edges lead to things -/
theorem PT.thg {σ : Nat → Int → Int} {τ : Nat → Int → Int64} {t : Nat} {U A T : Int → Int} {n : Int} (h : PT σ τ t U A T n) (hn : 0 ≤ n) : ThG σ t := by
  obtain ⟨h1, h2, h3, h4, h5, h6, h7, -⟩ := h
  refine ⟨fun i a b => ?_, fun u hu => ?_, fun u k hu hk => ?_⟩
  · exact (h4 i ⟨a, by omega⟩).2
  · have := (h5 u (u + 1) (by omega)).2; omega
  · have q1 := h5 (u + 1) n (by omega)
    have q2 := h4 u (by omega)
    rw [h7 _ (by omega)]
    unfold tgF
    split
    · omega
    · rcases fxT_R σ t (σ (t + 11) (σ (t + 9) u + k)) (by omega) with e | e <;> omega
theorem PT.vst {σ : Nat → Int → Int} {τ : Nat → Int → Int64} {t : Nat} {U A T : Int → Int} {n : Int} (h : PT σ τ t U A T n) : (∀ i, 0 ≤ i → i ≤ σ t 12 → 0 ≤ σ (t + 8) i ∧ σ (t + 8) i ≤ 8000) ∧ (∀ i, 0 ≤ i ∧ i < σ t 12 → 0 ≤ σ (t + 8) (i + 1) - σ (t + 8) i) := by
  obtain ⟨h1, h2, h3, h4, h5, -⟩ := h
  exact ⟨fun i a b => (h4 i ⟨a, by omega⟩).1, fun i hi => by have := (h5 i (i + 1) (by omega)).1; omega⟩
theorem szv_R {U A : Int → Int} {q len : Int} (hK : KW U A) (tk : TOK U A q) (hq : 0 ≤ q) (he : vP U A q (nV U A q) ≤ len) (hl : len ≤ 8000) : 0 ≤ szv U A q ∧ szv U A q ≤ 100000 := by
  have nv := tk.nv hK
  have h1 := tk.vb hK (nV U A q).toNat (by omega)
  rw [show (((nV U A q).toNat : Nat) : Int) = nV U A q by omega] at h1
  have h3 : 3 ≤ hdL U q := by
    unfold hdL
    repeat' split
    all_goals omega
  unfold szv
  repeat' split
  all_goals omega

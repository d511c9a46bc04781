theorem nxm_c {b c : Int → Int} {len : Int} (h : ∀ i, 0 ≤ i ∧ i < len → b i = c i) : ∀ (d : Nat) (q : Int), 0 ≤ q → q + d = len → nxm b len q = nxm c len q
  | 0, q, _, hd => by rw [nxm_out (Or.inl (by omega)), nxm_out (Or.inl (by omega))]
  | d + 1, q, hq, hd => by
    have e := h q (by omega)
    by_cases g : b q = 10
    · rw [nxm_out (Or.inr g), nxm_out (Or.inr (by rw [← e]; exact g))]
    · rw [nxm_in (b := b) (q := q) (by omega) g, nxm_in (b := c) (q := q) (by omega) (by rw [← e]; exact g)]
      exact nxm_c h d (q + 1) (by omega) (by omega)
theorem KR.cg {σ σ2 : Nat → Int → Int} {o : Nat} {U A : Int → Int} (h : KR σ o U A) (e : ∀ j, 1 ≤ j → j ≤ 6 → σ2 (o + j) = σ (o + j)) : KR σ2 o U A := by
  unfold KR
  rw [e 1 (by omega) (by omega), e 2 (by omega) (by omega), e 3 (by omega) (by omega), e 4 (by omega) (by omega), e 5 (by omega) (by omega), e 6 (by omega) (by omega)]
  exact h
section
variable {σ σ2 : Nat → Int → Int} {τ τ2 : Nat → Int → Int64} {t : Nat} {U A B T : Int → Int} {n refs pl pl2 : Int}
theorem TR.cg (h : TR σ τ t U A T n refs pl) (e0 : σ2 t = σ t) (e : ∀ j, 1 ≤ j → j ≤ 11 → σ2 (t + j) = σ (t + j)) (et : τ2 (t + 10) = τ (t + 10)) : TR σ2 τ2 t U A T n refs pl := by
  unfold TR TI ThB
  rw [e0, et, e 1 (by omega) (by omega), e 2 (by omega) (by omega), e 3 (by omega) (by omega), e 4 (by omega) (by omega), e 5 (by omega) (by omega), e 6 (by omega) (by omega), e 7 (by omega) (by omega), e 8 (by omega) (by omega), e 9 (by omega) (by omega), e 11 (by omega) (by omega)]
  exact h
theorem TR.plm (h : TR σ τ t U A T n refs pl) (g : pl ≤ pl2) : TR σ τ t U A T n refs pl2 := by
  obtain ⟨h1, h2, h3, h4, h5, h6⟩ := h
  exact ⟨h1, h2, h3, fun i hi => by have := h4 i hi; omega, h5, h6⟩
theorem TR.ext (h : TR σ τ t U A T n refs pl) (hK : KW U A) (e : ∀ k, 0 ≤ k ∧ k < 40 → 0 ≤ A k → B k = A k) (ht : ∀ i, 0 ≤ i ∧ i < n → TOK U A (T i)) : TR σ τ t U B T n refs pl := by
  obtain ⟨h1, h2, h3, h4, h5, h6⟩ := h
  refine ⟨h1, h2, h3, h4, h5, fun i hi => ?_⟩
  have tk := ht i hi
  obtain ⟨x1, x2⟩ := nV_x hK e tk
  obtain ⟨x3, x4⟩ := vP_x hK e tk
  obtain ⟨x5, x6, -⟩ := rz_x hK e tk
  have := h6 i hi
  unfold TI at this ⊢
  have sz : szv U B (T i) = szv U A (T i) := by
    unfold szv
    rw [x3, x1]
  rw [sz, x1, x2, x4, x6]
  exact this
end
/-- the objects of a picture, at a state of reading -/
def CO (σ : Nat → Int → Int) (τ : Nat → Int → Int64) (o : Nat) (U : Int → Int) (st : Nat → Int → Int) : Prop := (KR σ (o + 1) U (st 1) ∧ σ (o + 1) 6 = st 0 6) ∧ TR σ τ (o + 8) U (st 1) (st 2) (st 0 7) (st 0 8) (st 0 0) ∧ (σ (o + 21) 2 = st 0 9 ∧ σ (o + 21) 3 = 0 ∧ ∀ i, 0 ≤ i ∧ i < st 0 9 → σ (o + 22) i = st 3 i) ∧ (σ (o + 24) 2 = st 0 4 ∧ σ (o + 24) 3 = st 0 5 ∧ ∀ i, 0 ≤ i ∧ i < st 0 4 → σ (o + 25) i = st 4 i ∧ σ (o + 26) i = st 5 i)
/-- all objects of a picture lie in their places -/
def LPic (lay : Nat → Nat × Int) (ρ : Nat → Int → Nat) (o : Nat) : Prop := LPicture lay ρ o ∧ LKinds lay ρ (o + 1) ∧ LThings lay ρ (o + 8) ∧ LRoots lay ρ (o + 21) ∧ LHoles lay ρ (o + 24) ∧ LSpread lay ρ (o + 27) ∧ LSpread lay ρ (o + 31) ∧ LLife lay ρ (o + 35) ∧ LTwins lay ρ (o + 40)
/-- nothing but a picture's objects has changed, nor its own fields -/
def PFr (σ σ2 : Nat → Int → Int) (τ τ2 : Nat → Int → Int64) (o : Nat) : Prop := Fr σ σ2 (o + 1) 42 ∧ ∀ a, ¬ a = o + 18 → τ2 a = τ a
theorem PFr.o {σ σ2 : Nat → Int → Int} {τ τ2 : Nat → Int → Int64} {o : Nat} (h : PFr σ σ2 τ τ2 o) : σ2 o = σ o := h.1 o (by omega)
theorem PFr.lo {σ σ2 : Nat → Int → Int} {τ τ2 : Nat → Int → Int64} {o : Nat} (h : PFr σ σ2 τ τ2 o) {a : Nat} (ha : a ≤ o) : σ2 a = σ a := h.1 a (by omega)
theorem PFr.rf {σ : Nat → Int → Int} {τ : Nat → Int → Int64} {o : Nat} : PFr σ σ τ τ o := ⟨Fr.rfl', fun _ _ => rfl⟩
theorem Fr.sub {σ σ2 : Nat → Int → Int} {a m b k : Nat} (h : Fr σ σ2 a m) (h1 : b ≤ a) (h2 : a + m ≤ b + k) : Fr σ σ2 b k := fun x hx => h x (by omega)
theorem Wd.pf {lay : Nat → Nat × Int} {ρ : Nat → Int → Nat} {σ σ2 : Nat → Int → Int} {τ τ2 : Nat → Int → Int64} {o : Nat} (h : Wd lay ρ σ) (hw : ρ 0 0 < o) (hf : PFr σ σ2 τ τ2 o) : Wd lay ρ σ2 := by
  unfold Wd
  rw [hf.lo (Nat.le_of_lt hw)]
  exact h
theorem CO.root {σ : Nat → Int → Int} {τ : Nat → Int → Int64} {o : Nat} {U : Int → Int} {st : Nat → Int → Int} (h : CO σ τ o U st) {q x : Int} (hq : st 0 0 = q) (he : q ≤ enE U st q) (hx : x = two2 U (q + 2)) (h9 : 0 ≤ st 0 9) : CO (fu (fu (fu σ (o + 22) (iu (σ (o + 22)) (σ (o + 21) 2) x)) (o + 23) (iu (σ (o + 23)) (σ (o + 21) 2) (-1))) (o + 21) (iu (σ (o + 21)) 2 (σ (o + 21) 2 + 1))) τ o U (tkR U st q) := by
  obtain ⟨⟨h1, h2⟩, h3, ⟨r1, r2, r3⟩, h5⟩ := h
  unfold tkR scR
  unfold CO
  simp only [fu_s, fu_l2, iu_s, iu_l, Int.reduceBEq, Nat.reduceBEq, fu_am, hq]
  refine ⟨⟨h1.cg (fun j _ _ => ?_), h2⟩, (TR.plm h3 (by rw [hq]; exact he)).cg ?_ (fun j _ _ => ?_) rfl, ⟨by rw [r1], r2, fun i hi => ?_⟩, h5⟩
  · rw [fu_n (by omega), fu_n (by omega), fu_n (by omega)]
  · rw [fu_n (by omega), fu_n (by omega), fu_n (by omega)]
  · rw [fu_n (by omega), fu_n (by omega), fu_n (by omega)]
  · rw [r1]
    by_cases e : i = st 0 9
    · rw [e, iu_s, iu_s]; exact hx
    · rw [iu_n e, iu_n e]; exact r3 i (by omega)
theorem CO.hole {σ : Nat → Int → Int} {τ : Nat → Int → Int64} {o : Nat} {U : Int → Int} {len : Int} {st : Nat → Int → Int} (h : CO σ τ o U st) {q d : Int} (hq : st 0 0 = q) (hd : q + d = nxm U len (q + 1)) (hd1 : 0 ≤ d) (h9 : 0 ≤ st 0 4) : CO (fu (fu (fu σ (o + 25) (iu (σ (o + 25)) (σ (o + 24) 2) q)) (o + 26) (iu (σ (o + 26)) (σ (o + 24) 2) d)) (o + 24) (iu (iu (σ (o + 24)) 2 (σ (o + 24) 2 + 1)) 3 (σ (o + 24) 3 + d))) τ o U (hlS U len st) := by
  obtain ⟨⟨h1, h2⟩, h3, h4, ⟨r1, r2, r3⟩⟩ := h
  unfold hlS
  unfold CO
  simp only [fu_s, fu_l2, iu_s, iu_l, Int.reduceBEq, Nat.reduceBEq, fu_am, hq]
  rw [← hd]
  refine ⟨⟨h1.cg (fun j _ _ => ?_), h2⟩, (TR.plm h3 (by omega)).cg ?_ (fun j _ _ => ?_) rfl, h4, ⟨by rw [r1], by rw [r2]; omega, fun i hi => ?_⟩⟩
  · rw [fu_n (by omega), fu_n (by omega), fu_n (by omega)]
  · rw [fu_n (by omega), fu_n (by omega), fu_n (by omega)]
  · rw [fu_n (by omega), fu_n (by omega), fu_n (by omega)]
  · rw [r1]
    by_cases e : i = st 0 4
    · rw [e, iu_s, iu_s, iu_s, iu_s]; exact ⟨rfl, by omega⟩
    · rw [iu_n e, iu_n e, iu_n e, iu_n e]; exact r3 i (by omega)
theorem CO.kind {σ σ2 : Nat → Int → Int} {τ : Nat → Int → Int64} {o : Nat} {U : Int → Int} {st : Nat → Int → Int} (h : CO σ τ o U st) {q : Int} {len : Int} (hK : KW U (st 1)) (hq : st 0 0 = q) (he : q ≤ enE U st q) (a : AccK U len (st 1) q) (ht : ∀ i, 0 ≤ i ∧ i < st 0 7 → TOK U (st 1) (st 2 i)) (hf : Fr σ σ2 (o + 1) 6) (hr : KR σ2 (o + 1) U (iu (st 1) (U (q + 1)) q)) (h6 : σ2 (o + 1) 6 = σ (o + 1) 6 + 1) : CO σ2 τ o U (tkK U st q) := by
  obtain ⟨⟨h1, h2⟩, h3, h4, h5⟩ := h
  unfold tkK scR
  unfold CO
  simp only [fu_s, fu_l2, iu_s, iu_l, Int.reduceBEq, Nat.reduceBEq, hq]
  rw [hf (o + 21) (by omega), hf (o + 22) (by omega), hf (o + 24) (by omega), hf (o + 25) (by omega), hf (o + 26) (by omega)]
  exact ⟨⟨hr, by omega⟩, ((TR.plm h3 (by rw [hq]; exact he)).ext hK a.ag ht).cg (hf (o + 8) (by omega)) (fun j _ _ => hf (o + 8 + j) (by omega)) rfl, h4, h5⟩
theorem CO.thing {σ σ2 : Nat → Int → Int} {τ τ2 : Nat → Int → Int64} {o : Nat} {U : Int → Int} {st : Nat → Int → Int} (h : CO σ τ o U st) {q : Int} (hq : st 0 0 = q) (hb : ¬ U q = 75 ∧ ¬ U q = 65) (hf : Fr σ σ2 (o + 8) 12) (hr : TR σ2 τ2 (o + 8) U (st 1) (iu (st 2) (st 0 7) q) (st 0 7 + 1) (st 0 8 + rz U (st 1) q) (vP U (st 1) q (nV U (st 1) q))) : CO σ2 τ2 o U (tkT U st q) := by
  obtain ⟨⟨h1, h2⟩, h3, h4, h5⟩ := h
  have en : enE U st q = vP U (st 1) q (nV U (st 1) q) := by
    unfold enE
    rw [if_neg hb.1, if_neg hb.2]
  unfold tkT scR
  unfold CO
  simp only [fu_s, fu_l2, iu_s, iu_l, Int.reduceBEq, Nat.reduceBEq, hq, en]
  rw [hf (o + 1) (by omega), hf (o + 21) (by omega), hf (o + 22) (by omega), hf (o + 24) (by omega), hf (o + 25) (by omega), hf (o + 26) (by omega)]
  exact ⟨⟨h1.cg (fun j _ _ => hf (o + 1 + j) (by omega)), h2⟩, hr, h4, h5⟩
theorem CO.back {σ σ2 : Nat → Int → Int} {τ τ2 : Nat → Int → Int64} {o : Nat} {U : Int → Int} {st : Nat → Int → Int} (h : CO σ τ o U st) (hf : Fr σ σ2 (o + 8) 12) (hr : TR σ2 τ2 (o + 8) U (st 1) (st 2) (st 0 7) (st 0 8) (st 0 0)) : CO σ2 τ2 o U st := by
  obtain ⟨⟨h1, h2⟩, h3, h4, h5⟩ := h
  unfold CO
  rw [hf (o + 1) (by omega), hf (o + 21) (by omega), hf (o + 22) (by omega), hf (o + 24) (by omega), hf (o + 25) (by omega), hf (o + 26) (by omega)]
  exact ⟨⟨h1.cg (fun j _ _ => hf (o + 1 + j) (by omega)), h2⟩, hr, h4, h5⟩

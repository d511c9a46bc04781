/-! ===== ways, in the graph's own terms ===== -/
/-- a walk of k steps from x to w -/
def wkN (E : Int → Int → Prop) (w : Int) : Nat → Int → Prop
  | 0, x => x = w
  | k + 1, x => ∃ z, E x z ∧ wkN E w k z
/-- x is k steps from w, not fewer -/
def farN (E : Int → Int → Prop) (w : Int) (k : Nat) (x : Int) : Prop := wkN E w k x ∧ ∀ j, j < k → ¬ wkN E w j x
theorem farN.u {E : Int → Int → Prop} {w x : Int} {j k : Nat} (h : farN E w j x) (g : farN E w k x) : j = k := by
  have a : j < k ∨ j = k ∨ k < j := by omega
  rcases a with a | a | a
  · exact absurd h.1 (g.2 j a)
  · exact a
  · exact absurd g.1 (h.2 k a)
/-- the way to w: D things q, each the first by its number that leads on in time -/
def WyR (E : Int → Int → Prop) (num : Int → Int) (w : Int) (D : Nat) (q : Int → Int) : Prop := (E (-1) (q 0) ∧ 1 ≤ D) ∧ (∀ j : Nat, j < D → farN E w (D - 1 - j) (q j)) ∧ (∀ z k, E (-1) z → farN E w k z → D - 1 ≤ k ∧ (k = D - 1 → num (q 0) ≤ num z)) ∧ (∀ j : Nat, j + 1 < D → E (q j) (q (j + 1)) ∧ ∀ z, E (q j) z → farN E w (D - 2 - j) z → num (q (j + 1)) ≤ num z)
theorem WyR.u {E : Int → Int → Prop} {num : Int → Int} {w : Int} {D D2 : Nat} {q q2 : Int → Int} (inj : ∀ x y z, E z x → E z y → num x = num y → x = y) (h : WyR E num w D q) (g : WyR E num w D2 q2) : D = D2 ∧ ∀ j : Nat, j < D → q j = q2 j := by
  obtain ⟨⟨h0, h00⟩, h1, h2, h3⟩ := h
  obtain ⟨⟨g0, g00⟩, g1, g2, g3⟩ := g
  have e1 := h2 (q2 0) (D2 - 1) g0 (g1 0 (by omega))
  have e2 := g2 (q 0) (D - 1) h0 (h1 0 (by omega))
  have eD : D = D2 := by omega
  subst eD
  refine ⟨rfl, fun j => ?_⟩
  induction j with
  | zero =>
    intro hj
    have a := e1.2 rfl
    have b := e2.2 rfl
    exact inj (q 0) (q2 0) (-1) h0 g0 (by omega)
  | succ j ih =>
    intro hj
    have e := ih (by omega)
    obtain ⟨a1, a2⟩ := h3 j hj
    obtain ⟨b1, b2⟩ := g3 j hj
    have f1 := h1 (j + 1) hj
    have f2 := g1 (j + 1) hj
    rw [show D - 1 - (j + 1) = D - 2 - j by omega] at f1 f2
    rw [show ((j + 1 : Nat) : Int) = (j : Int) + 1 by omega] at f1 f2 ⊢
    rw [← e] at b1 b2
    have c1 := a2 _ b1 f2
    have c2 := b2 _ a1 f1
    exact inj _ _ _ a1 b1 (by omega)
section
variable {n : Int} {num : Int → Int} {E : Int → Int → Prop} {line dist bef bp : Int → Int} {c : Int}
theorem SpI.lnj (h : SpF n num E line dist bef bp c) {a b : Int} (ha : -1 ≤ a ∧ a < c) (hb : -1 ≤ b ∧ b < c) (e : ln1 line a = ln1 line b) : a = b := by
  by_cases x : a = -1
  · by_cases y : b = -1
    · omega
    · rw [x, ln1_m, ln1_p (by omega)] at e
      have := (h.hp b (by omega)).1
      omega
  · by_cases y : b = -1
    · rw [y, ln1_m, ln1_p (by omega)] at e
      have := (h.hp a (by omega)).1
      omega
    · rw [ln1_p (by omega), ln1_p (by omega)] at e
      have w : a < b ∨ a = b ∨ b < a := by omega
      rcases w with w | w | w
      · exact absurd e (h.ho a b (by omega)).1
      · exact w
      · exact absurd e.symm (h.ho b a (by omega)).1
/-- who comes from farther in front stands in front -/
theorem SpI.bpl (h : SpF n num E line dist bef bp c) {a b : Int} (ha : 0 ≤ a ∧ a < c) (hb : 0 ≤ b ∧ b < c) (e : bp a < bp b) : a < b := by
  have w : a < b ∨ a = b ∨ b < a := by omega
  rcases w with w | w | w
  · exact w
  · rw [w] at e; omega
  · have := (h.ho b a (by omega)).2; omega
theorem SpI.pos (h : SpF n num E line dist bef bp c) {w : Int} : ∀ (m : Nat) (pz pq py : Int) (y : Int), 0 ≤ pz ∧ pz < pq ∧ pq < c → (0 ≤ py ∧ py < c) → line py = y → wkN E w m (line pz) → itB bef m y = line pq → m < dist y → ∃ pw, (0 ≤ pw ∧ pw < py) ∧ line pw = w
  | 0, pz, pq, py, y, hz, hy, ey, hw, hi, _ => by
    have e : y = line pq := hi
    have e2 : py = pq := h.lnj (by omega) (by omega) (by rw [ln1_p (by omega), ln1_p (by omega), ey, e])
    exact ⟨pz, by omega, hw⟩
  | m + 1, pz, pq, py, y, hz, hy, ey, ⟨z, e1, e2⟩, hi, hm => by
    obtain ⟨⟨pq2, hq2, eq2⟩, -⟩ := h.itb ⟨py, hy, ey⟩ m (by omega)
    have hb : bef (line pq2) = line pq := by rw [eq2]; exact hi
    have h4 := (h.hp pq2 hq2).2.2.2.1
    have hbq := (h.hp pq2 hq2).2.1
    have eb : bp pq2 = pq := h.lnj (by omega) (by omega) (by rw [← h4, hb, ln1_p (by omega)])
    obtain ⟨pz2, hz2, ez2, hb2⟩ := h.hc pz z (by omega) (by rw [ln1_p (by omega)]; exact e1)
    have lt := h.bpl hz2 hq2 (by omega)
    exact h.pos m pz2 pq2 py y (by omega) hy ey (by rw [ez2]; exact e2) eq2.symm (by omega)
theorem SpI.wdist (h : SpF n num E line dist bef bp c) {w : Int} : ∀ (k : Nat) (x : Int), Lw line c x → wkN E w k x → Lw line c w ∧ dv dist w ≤ dv dist x + k
  | 0, x, hx, hw => by
    rw [show x = w from hw] at hx ⊢
    exact ⟨hx, by omega⟩
  | k + 1, x, hx, ⟨z, e, hw⟩ => by
    have hz := h.go hx e
    have hd := h.edge hx e
    obtain ⟨a, b⟩ := h.wdist k z hz.w hw
    rw [dv_p (h.lv_R hz).1] at b
    exact ⟨a, by omega⟩
theorem SpI.way (h : SpF n num E line dist bef bp c) (he : ∀ u x, E u x → 0 ≤ x) {w : Int} (hw : Lv line c w) : WyR E num w (dist w).toNat (fun j => itB bef (dist w - 1 - j).toNat w) := by
  obtain ⟨pw, hpw, epw⟩ := hw
  have hw : Lv line c w := ⟨pw, hpw, epw⟩
  have hd := h.dp hpw
  rw [epw] at hd
  have w0 := (h.lv_R hw).1
  -- each place of the way
  have node : ∀ j : Nat, j < (dist w).toNat → ∃ p, (0 ≤ p ∧ p < c) ∧ line p = itB bef (dist w - 1 - j).toNat w ∧ dist (line p) = j + 1 ∧ (0 < j → ∃ p2, (0 ≤ p2 ∧ p2 < c) ∧ line p2 = itB bef (dist w - 1 - (j - 1 : Nat)).toNat w ∧ bp p = p2) ∧ (j = 0 → bp p = -1) := by
    intro j hj
    obtain ⟨⟨p, hp, e⟩, d⟩ := h.itb hw (dist w - 1 - j).toNat (by omega)
    have hh := h.hp p hp
    refine ⟨p, hp, e, by rw [e, d]; omega, fun hj0 => ?_, fun hj0 => ?_⟩
    · obtain ⟨⟨p2, hp2, e2⟩, d2⟩ := h.itb hw (dist w - 1 - (j - 1 : Nat)).toNat (by omega)
      refine ⟨p2, hp2, e2, ?_⟩
      refine h.lnj (by omega) (by omega) ?_
      rw [← hh.2.2.2.1, ln1_p hp2.1, e, e2, show (dist w - 1 - ((j - 1 : Nat) : Int)).toNat = (dist w - 1 - (j : Int)).toNat + 1 by omega]
      rfl
    · have hx := hh.2.2.2.2.1
      rw [e, d] at hx
      by_cases g : bp p = -1
      · exact g
      · have hq := h.dp (p := bp p) (by omega)
        rw [ln1_p (by omega), dv_p (h.hp (bp p) (by omega)).1.1] at hx
        omega
  have walk : ∀ k : Nat, k < dist w → wkN E w k (itB bef k w) := by
    intro k
    induction k with
    | zero => intro _; rfl
    | succ k ih =>
      intro hk
      refine ⟨itB bef k w, ?_, ih (by omega)⟩
      obtain ⟨⟨p, hp, e⟩, -⟩ := h.itb hw k (by omega)
      have hh := h.hp p hp
      rw [← hh.2.2.2.1, e] at hh
      exact hh.2.2.2.2.2
  have far : ∀ j : Nat, j < (dist w).toNat → farN E w ((dist w).toNat - 1 - j) (itB bef (dist w - 1 - j).toNat w) := by
    intro j hj
    obtain ⟨p, hp, e, d, -⟩ := node j hj
    refine ⟨?_, fun i hi hwk => ?_⟩
    · rw [show (dist w).toNat - 1 - j = (dist w - 1 - (j : Int)).toNat by omega]
      exact walk _ (by omega)
    · have hl : Lv line c (itB bef (dist w - 1 - (j : Int)).toNat w) := ⟨p, hp, e⟩
      have := (h.wdist i _ hl.w hwk).2
      rw [dv_p w0, dv_p (h.lv_R hl).1, ← e, d] at this
      omega
  -- nobody else comes first
  have first : ∀ (j : Nat) (b : Int), j < (dist w).toNat → (∀ p, (0 ≤ p ∧ p < c) → line p = itB bef (dist w - 1 - j).toNat w → bp p = b) → (-1 ≤ b ∧ b < c) → ∀ z, E (ln1 line b) z → wkN E w ((dist w).toNat - 1 - j) z → num (itB bef (dist w - 1 - j).toNat w) ≤ num z := by
    intro j b hj hb hbR z hz hwk
    by_cases g : num (itB bef (dist w - 1 - j).toNat w) ≤ num z
    · exact g
    · exfalso
      obtain ⟨p, hp, e, d, -⟩ := node j hj
      have ebp := hb p hp e
      obtain ⟨pz, hpz, epz, hbz⟩ := h.hc b z (by omega) hz
      have lt : pz < p := by
        by_cases g2 : bp pz < bp p
        · exact h.bpl hpz hp g2
        · have w2 : pz < p ∨ pz = p ∨ p < pz := by omega
          rcases w2 with w2 | w2 | w2
          · exact w2
          · rw [w2, e] at epz
            rw [epz] at g
            omega
          · have := (h.ho p pz (by omega)).2
            rw [e, epz] at this
            omega
      obtain ⟨pw2, hpw2, e3⟩ := h.pos ((dist w).toNat - 1 - j) pz p pw w (by omega) hpw epw (by rw [epz]; exact hwk) (by rw [e, show (dist w).toNat - 1 - j = (dist w - 1 - (j : Int)).toNat by omega]) (by omega)
      have := h.lnj (a := pw2) (b := pw) (by omega) (by omega) (by rw [ln1_p (by omega), ln1_p (by omega), e3, epw])
      omega
  refine ⟨⟨?_, by omega⟩, fun j hj => far j hj, fun z k hz hf => ?_, fun j hj => ⟨?_, fun z hz hf => ?_⟩⟩
  · obtain ⟨p, hp, e, d, -, b0⟩ := node 0 (by omega)
    have hh := h.hp p hp
    rw [b0 rfl, ln1_m, e] at hh
    exact hh.2.2.2.2.2
  · have hzl := h.go (u := -1) (Lw.m1 (by omega)) hz
    have dz := h.edge (u := -1) (Lw.m1 (by omega)) hz
    rw [dv_m] at dz
    have := (h.wdist k z hzl.w hf.1).2
    rw [dv_p w0, dv_p (h.lv_R hzl).1] at this
    refine ⟨by omega, fun ek => ?_⟩
    have hw2 := hf.1
    rw [ek] at hw2
    refine first 0 (-1) (by omega) (fun p hp e => ?_) (by omega) z (by rw [ln1_m]; exact hz) hw2
    obtain ⟨p2, hp2, e2, -, -, b0⟩ := node 0 (by omega)
    have : p = p2 := h.lnj (by omega) (by omega) (by rw [ln1_p hp.1, ln1_p hp2.1, e, e2])
    rw [this]
    exact b0 rfl
  · obtain ⟨p, hp, e, d, b1, -⟩ := node (j + 1) (by omega)
    obtain ⟨p2, hp2, e2, eb⟩ := b1 (by omega)
    have hh := h.hp p hp
    rw [eb, ln1_p hp2.1, e, e2, show j + 1 - 1 = j from rfl, show ((j + 1 : Nat) : Int) = (j : Int) + 1 by omega] at hh
    exact hh.2.2.2.2.2
  · obtain ⟨p, hp, e, d, b1, -⟩ := node (j + 1) (by omega)
    obtain ⟨p2, hp2, e2, eb⟩ := b1 (by omega)
    rw [show j + 1 - 1 = j from rfl] at e2
    have := first (j + 1) p2 (by omega) (fun p3 hp3 e3 => ?_) (by omega) z (by rw [ln1_p hp2.1, e2]; exact hz) (by rw [show (dist w).toNat - 1 - (j + 1) = (dist w).toNat - 2 - j by omega]; exact hf.1)
    · rw [show ((j + 1 : Nat) : Int) = (j : Int) + 1 by omega] at this
      exact this
    · have : p3 = p := h.lnj (by omega) (by omega) (by rw [ln1_p hp3.1, ln1_p hp.1, e3, e])
      rw [this]; exact eb
end

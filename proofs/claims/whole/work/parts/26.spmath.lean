/-! ===== the line of the ways: pure ===== -/
theorem pig : ∀ (n c : Nat) (f : Int → Int), (∀ p, 0 ≤ p ∧ p < c → 0 ≤ f p ∧ f p < n) → (∀ p q, 0 ≤ p ∧ p < q ∧ q < c → ¬ f p = f q) → c ≤ n
  | 0, c, f, h, _ => by
    rcases Nat.eq_zero_or_pos c with e | e
    · omega
    · have := h 0 (by omega); omega
  | n + 1, 0, f, _, _ => by omega
  | n + 1, c + 1, f, h, g => by
    have h0 := h c (by omega)
    have := pig n c (fun p => if f p = n then f c else f p) (fun p hp => by
      have h1 := h p (by omega)
      have h2 := g p c (by omega)
      split <;> omega) (fun p q hp => by
      have h1 := h p (by omega)
      have h2 := h q (by omega)
      have h3 := g p q (by omega)
      have h4 := g p c (by omega)
      have h5 := g q c (by omega)
      split <;> split <;> omega)
    omega
theorem insA_lo {L : Int → Int} {i c x p : Int} (h : p < i) : insA L i c x p = L p := by
  unfold insA
  rw [iu_n (by omega), shf_lo (by omega)]
theorem insA_at {L : Int → Int} {i c x : Int} : insA L i c x i = x := by
  unfold insA
  rw [iu_s]
theorem insA_hi {L : Int → Int} {i c x p : Int} (h : i < p ∧ p ≤ c) : insA L i c x p = L (p - 1) := by
  unfold insA shf
  rw [iu_n (by omega), if_pos h]
def ln1 (line : Int → Int) (b : Int) : Int := if b < 0 then -1 else line b
def dv (dist : Int → Int) (x : Int) : Int := if x < 0 then 0 else dist x
def SpI (n : Int) (num : Int → Int) (E : Int → Int → Prop) (line dist bef bp : Int → Int) (c a f : Int) (H : Int → Prop) : Prop := (-1 ≤ a ∧ a ≤ f ∧ 0 ≤ f ∧ f ≤ c) ∧ (∀ p, 0 ≤ p ∧ p < c → (0 ≤ line p ∧ line p < n) ∧ (-1 ≤ bp p ∧ bp p < p ∧ bp p ≤ a) ∧ (bp p = a ↔ f ≤ p) ∧ bef (line p) = ln1 line (bp p) ∧ dist (line p) = dv dist (ln1 line (bp p)) + 1 ∧ E (ln1 line (bp p)) (line p)) ∧ (∀ p q, 0 ≤ p ∧ p < q ∧ q < c → ¬ line p = line q ∧ (bp p < bp q ∨ bp p = bp q ∧ num (line p) < num (line q))) ∧ (∀ x, 0 ≤ x ∧ x < 600 → dist x = 0 ∨ ∃ p, (0 ≤ p ∧ p < c) ∧ line p = x) ∧ (∀ b x, -1 ≤ b ∧ b < a → E (ln1 line b) x → ∃ p, (0 ≤ p ∧ p < c) ∧ line p = x ∧ bp p ≤ b) ∧ (∀ x, H x → ∃ p, (0 ≤ p ∧ p < c) ∧ line p = x)
theorem SpI.ha {n : Int} {num : Int → Int} {E : Int → Int → Prop} {line dist bef bp : Int → Int} {c a f : Int} {H : Int → Prop} (h : SpI n num E line dist bef bp c a f H) : -1 ≤ a ∧ a ≤ f ∧ 0 ≤ f ∧ f ≤ c := h.1
theorem SpI.hp {n : Int} {num : Int → Int} {E : Int → Int → Prop} {line dist bef bp : Int → Int} {c a f : Int} {H : Int → Prop} (h : SpI n num E line dist bef bp c a f H) : ∀ p, 0 ≤ p ∧ p < c → (0 ≤ line p ∧ line p < n) ∧ (-1 ≤ bp p ∧ bp p < p ∧ bp p ≤ a) ∧ (bp p = a ↔ f ≤ p) ∧ bef (line p) = ln1 line (bp p) ∧ dist (line p) = dv dist (ln1 line (bp p)) + 1 ∧ E (ln1 line (bp p)) (line p) := h.2.1
theorem SpI.ho {n : Int} {num : Int → Int} {E : Int → Int → Prop} {line dist bef bp : Int → Int} {c a f : Int} {H : Int → Prop} (h : SpI n num E line dist bef bp c a f H) : ∀ p q, 0 ≤ p ∧ p < q ∧ q < c → ¬ line p = line q ∧ (bp p < bp q ∨ bp p = bp q ∧ num (line p) < num (line q)) := h.2.2.1
theorem SpI.hd {n : Int} {num : Int → Int} {E : Int → Int → Prop} {line dist bef bp : Int → Int} {c a f : Int} {H : Int → Prop} (h : SpI n num E line dist bef bp c a f H) : ∀ x, 0 ≤ x ∧ x < 600 → dist x = 0 ∨ ∃ p, (0 ≤ p ∧ p < c) ∧ line p = x := h.2.2.2.1
theorem SpI.hc {n : Int} {num : Int → Int} {E : Int → Int → Prop} {line dist bef bp : Int → Int} {c a f : Int} {H : Int → Prop} (h : SpI n num E line dist bef bp c a f H) : ∀ b x, -1 ≤ b ∧ b < a → E (ln1 line b) x → ∃ p, (0 ≤ p ∧ p < c) ∧ line p = x ∧ bp p ≤ b := h.2.2.2.2.1
theorem SpI.hh {n : Int} {num : Int → Int} {E : Int → Int → Prop} {line dist bef bp : Int → Int} {c a f : Int} {H : Int → Prop} (h : SpI n num E line dist bef bp c a f H) : ∀ x, H x → ∃ p, (0 ≤ p ∧ p < c) ∧ line p = x := h.2.2.2.2.2
theorem ln1_p {line : Int → Int} {b : Int} (h : 0 ≤ b) : ln1 line b = line b := if_neg (by omega)
theorem ln1_m {line : Int → Int} : ln1 line (-1) = -1 := rfl
theorem dv_p {dist : Int → Int} {x : Int} (h : 0 ≤ x) : dv dist x = dist x := if_neg (by omega)
theorem dv_m {dist : Int → Int} : dv dist (-1) = 0 := rfl
variable {n : Int} {num : Int → Int} {E : Int → Int → Prop} {line dist bef bp : Int → Int} {c a f : Int} {H : Int → Prop}
theorem SpI.dpos (h : SpI n num E line dist bef bp c a f H) : ∀ (k : Nat) (p : Int), p = k → p < c → 1 ≤ dist (line p) ∧ dist (line p) ≤ p + 1 := by
  intro k
  induction k using Nat.strongRecOn with
  | ind k ih =>
    intro p hp hc
    obtain ⟨-, h2, -, -, h5, -⟩ := h.hp p (by omega)
    by_cases e : bp p = -1
    · rw [e, ln1_m, dv_m] at h5; omega
    · have := ih (bp p).toNat (by omega) (bp p) (by omega) (by omega)
      rw [ln1_p (by omega)] at h5
      have h6 := (h.hp (bp p) (by omega)).1
      rw [dv_p h6.1] at h5
      omega
theorem SpI.dp (h : SpI n num E line dist bef bp c a f H) {p : Int} (hp : 0 ≤ p ∧ p < c) : 1 ≤ dist (line p) ∧ dist (line p) ≤ p + 1 := h.dpos p.toNat p (by omega) hp.2
theorem SpI.cn (h : SpI n num E line dist bef bp c a f H) (hn : 0 ≤ n) : c ≤ n := by
  have := h.ha
  have := pig n.toNat c.toNat line (fun p hp => by have := (h.hp p (by omega)).1; omega) (fun p q hp => (h.ho p q (by omega)).1)
  omega
theorem SpI.nin (h : SpI n num E line dist bef bp c a f H) {x : Int} (hx : dist x = 0) {p : Int} (hp : 0 ≤ p ∧ p < c) : ¬ line p = x := by
  intro e
  have := h.dp hp
  rw [e] at this
  omega
theorem SpI.room (h : SpI n num E line dist bef bp c a f H) {x : Int} (hn : 0 ≤ x ∧ x < n) (hx : dist x = 0) : c < n := by
  have := h.ha
  have := pig n.toNat (c + 1).toNat (fun p => if p = c then x else line p) (fun p hp => by
    split
    · omega
    · have := (h.hp p (by omega)).1; omega) (fun p q hp => by
    rw [if_neg (by omega)]
    split
    · exact h.nin hx (by omega)
    · exact (h.ho p q (by omega)).1)
  omega
theorem SpI.dnn (h : SpI n num E line dist bef bp c a f H) {x : Int} (hx : 0 ≤ x ∧ x < 600) : 0 ≤ dist x := by
  rcases h.hd x hx with e | ⟨p, hp, e⟩
  · omega
  · have := h.dp hp
    rw [e] at this
    omega
theorem SpI.lt {h : SpI n num E line dist bef bp c a f H} {p : Int} (hp : 0 ≤ p ∧ p < c) : bp p < f ∨ f ≤ p := by
  have := h.hp p hp
  have := h.ha
  omega
theorem SpI.new (h : SpI n num E line dist bef bp c a f H) {x i D q : Int} (hn : 0 ≤ x ∧ x < n) (h6 : n ≤ 600) (hx : dist x = 0) (hE : E (ln1 line a) x) (haf : a < f) (hi : f ≤ i ∧ i ≤ c) (hl : i = f ∨ num (line (i - 1)) ≤ num x) (hr : ∀ p, i ≤ p ∧ p < c → num x < num (line p)) (inj : ∀ u v, 0 ≤ u ∧ u < n → 0 ≤ v ∧ v < n → num u = num v → u = v) (hD : D = dv dist (ln1 line a) + 1) (hq : q = ln1 line a) : SpI n num E (insA line i c x) (iu dist x D) (iu bef x q) (insA bp i c a) (c + 1) a f (fun y => H y ∨ y = x) := by
  obtain ⟨ha, hp, ho, hd, hc, hh⟩ := h
  have h : SpI n num E line dist bef bp c a f H := ⟨ha, hp, ho, hd, hc, hh⟩
  have nin : ∀ p, 0 ≤ p ∧ p < c → ¬ line p = x := fun p hp => h.nin hx hp
  have l1 : ∀ b, b ≤ a → ln1 (insA line i c x) b = ln1 line b := by
    intro b hb
    unfold ln1
    split
    · rfl
    · exact insA_lo (by omega)
  have l2 : ∀ b, b ≤ a → ¬ ln1 line b = x := by
    intro b hb
    unfold ln1
    split
    · omega
    · exact nin b (by omega)
  have d1 : ∀ b, b ≤ a → dv (iu dist x D) (ln1 line b) = dv dist (ln1 line b) := by
    intro b hb
    unfold dv
    rw [iu_n (l2 b hb)]
  have mp : ∀ p, 0 ≤ p ∧ p < c → ∃ q, (0 ≤ q ∧ q < c + 1) ∧ insA line i c x q = line p ∧ insA bp i c a q = bp p := by
    intro p hp
    by_cases g : p < i
    · exact ⟨p, by omega, insA_lo g, insA_lo g⟩
    · refine ⟨p + 1, by omega, ?_, ?_⟩ <;> rw [insA_hi (by omega)] <;> congr 1 <;> omega
  have row : ∀ p, 0 ≤ p ∧ p < c + 1 → (p < i ∧ insA line i c x p = line p ∧ insA bp i c a p = bp p) ∨ (p = i ∧ insA line i c x p = x ∧ insA bp i c a p = a) ∨ (i < p ∧ insA line i c x p = line (p - 1) ∧ insA bp i c a p = bp (p - 1)) := by
    intro p hp
    have : p < i ∨ p = i ∨ i < p := by omega
    rcases this with g | g | g
    · exact Or.inl ⟨g, insA_lo g, insA_lo g⟩
    · exact Or.inr (Or.inl ⟨g, by rw [g]; exact insA_at, by rw [g]; exact insA_at⟩)
    · exact Or.inr (Or.inr ⟨g, insA_hi (by omega), insA_hi (by omega)⟩)
  refine ⟨by omega, ?_, ?_, ?_, ?_, ?_⟩
  · intro p hp2
    rcases row p hp2 with ⟨g, e1, e2⟩ | ⟨g, e1, e2⟩ | ⟨g, e1, e2⟩
    · obtain ⟨h1, h2, h3, h4, h5, h7⟩ := hp p (by omega)
      rw [e1, e2, l1 _ h2.2.2, iu_n (nin p (by omega)), iu_n (nin p (by omega)), d1 _ h2.2.2]
      exact ⟨h1, h2, h3, h4, h5, h7⟩
    · rw [e1, e2, l1 _ (by omega), iu_s, iu_s, d1 _ (by omega)]
      exact ⟨hn, by omega, by omega, hq, hD, hE⟩
    · obtain ⟨h1, h2, h3, h4, h5, h7⟩ := hp (p - 1) (by omega)
      rw [e1, e2, l1 _ h2.2.2, iu_n (nin _ (by omega)), iu_n (nin _ (by omega)), d1 _ h2.2.2]
      exact ⟨h1, by omega, by omega, h4, h5, h7⟩
  · intro p q hpq
    rcases row p (by omega) with ⟨g, e1, e2⟩ | ⟨g, e1, e2⟩ | ⟨g, e1, e2⟩ <;> rcases row q (by omega) with ⟨k, e3, e4⟩ | ⟨k, e3, e4⟩ | ⟨k, e3, e4⟩ <;> rw [e1, e2, e3, e4]
    · exact ho p q (by omega)
    · refine ⟨nin p (by omega), ?_⟩
      have h2 := hp p (by omega)
      by_cases e : bp p = a
      · right
        refine ⟨e, ?_⟩
        have h3 : f ≤ p := h2.2.2.1.mp e
        rcases hl with hl | hl
        · omega
        · have hne : ¬ num (line (i - 1)) = num x := fun z => nin (i - 1) (by omega) (inj _ _ (hp (i - 1) (by omega)).1 hn z)
          by_cases ei : p = i - 1
          · rw [ei]; omega
          · have h4 := (ho p (i - 1) (by omega)).2
            have h5 := (hp (i - 1) (by omega)).2.1
            omega
      · left
        omega
    · exact ho p (q - 1) (by omega)
    · omega
    · omega
    · refine ⟨fun z => nin (q - 1) (by omega) z.symm, Or.inr ⟨?_, hr (q - 1) (by omega)⟩⟩
      exact ((hp (q - 1) (by omega)).2.2.1.mpr (by omega)).symm
    · omega
    · omega
    · exact ho (p - 1) (q - 1) (by omega)
  · intro y hy
    by_cases e : y = x
    · right
      exact ⟨i, by omega, by rw [e]; exact insA_at⟩
    · rw [iu_n e]
      rcases hd y hy with g | ⟨p, hp2, g⟩
      · exact Or.inl g
      · obtain ⟨q, h1, h2, -⟩ := mp p hp2
        exact Or.inr ⟨q, h1, h2.trans g⟩
  · intro b y hb hy
    rw [l1 b (by omega)] at hy
    obtain ⟨p, h1, h2, h3⟩ := hc b y hb hy
    obtain ⟨q, g1, g2, g3⟩ := mp p h1
    exact ⟨q, g1, g2.trans h2, by omega⟩
  · intro y hy
    rcases hy with hy | hy
    · obtain ⟨p, h1, h2⟩ := hh y hy
      obtain ⟨q, g1, g2, g3⟩ := mp p h1
      exact ⟨q, g1, g2.trans h2⟩
    · exact ⟨i, by omega, by rw [hy]; exact insA_at⟩
theorem SpI.old (h : SpI n num E line dist bef bp c a f H) {x : Int} (hn : 0 ≤ x ∧ x < 600) (hx : ¬ dist x = 0) : SpI n num E line dist bef bp c a f (fun y => H y ∨ y = x) :=
  ⟨h.ha, h.hp, h.ho, h.hd, h.hc, fun y hy => by
    rcases hy with hy | hy
    · exact h.hh y hy
    · rw [hy]
      rcases h.hd x hn with e | e
      · exact absurd e hx
      · exact e⟩
theorem SpI.mono (h : SpI n num E line dist bef bp c a f H) {H2 : Int → Prop} (g : ∀ y, H2 y → H y) : SpI n num E line dist bef bp c a f H2 :=
  ⟨h.ha, h.hp, h.ho, h.hd, h.hc, fun y hy => h.hh y (g y hy)⟩
theorem SpI.next (h : SpI n num E line dist bef bp c a f H) (hE : ∀ x, E (ln1 line a) x → H x) (hac : a + 1 ≤ c) : SpI n num E line dist bef bp c (a + 1) c (fun _ => False) := by
  obtain ⟨ha, hp, ho, hd, hc, hh⟩ := h
  refine ⟨by omega, fun p hp2 => ?_, ho, hd, fun b x hb hx => ?_, fun x hx => hx.elim⟩
  · obtain ⟨h1, h2, h3, h4⟩ := hp p hp2
    exact ⟨h1, by omega, by omega, h4⟩
  · by_cases e : b = a
    · subst e
      obtain ⟨p, h1, h2⟩ := hh x (hE x hx)
      exact ⟨p, h1, h2, (hp p h1).2.1.2.2⟩
    · exact hc b x (by omega) hx
/-- nothing entered yet -/
theorem SpI.start {line dist bef : Int → Int} (h1 : ∀ x, 0 ≤ x ∧ x < 600 → dist x = 0) : SpI n num E line dist bef bp 0 (-1) 0 (fun _ => False) :=
  ⟨by omega, fun p hp => by omega, fun p q hp => by omega, fun x hx => Or.inl (h1 x hx), fun b x hb => by omega, fun x hx => hx.elim⟩

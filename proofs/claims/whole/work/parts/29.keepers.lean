/-! ===== keepers: pure ===== -/
/-- reached from the roots in k steps, past y -/
def RAk (E : Int → Int → Prop) (y : Int) : Nat → Int → Prop
  | 0, x => x = -1
  | k + 1, x => ∃ u, RAk E y k u ∧ E u x ∧ ¬ x = y
def RA (E : Int → Int → Prop) (y x : Int) : Prop := ∃ k, RAk E y k x
theorem RA.st {E : Int → Int → Prop} {y : Int} : RA E y (-1) := ⟨0, rfl⟩
theorem RA.go {E : Int → Int → Prop} {y u x : Int} (h : RA E y u) (e : E u x) (n : ¬ x = y) : RA E y x := by
  obtain ⟨k, hk⟩ := h
  exact ⟨k + 1, u, hk, e, n⟩
theorem RA.ind {E : Int → Int → Prop} {y : Int} {P : Int → Prop} (h0 : P (-1)) (h1 : ∀ u x, RA E y u → P u → E u x → ¬ x = y → P x) {x : Int} (h : RA E y x) : P x := by
  obtain ⟨k, hk⟩ := h
  induction k generalizing x with
  | zero => rw [show x = -1 from hk]; exact h0
  | succ k ih =>
    obtain ⟨u, hu, e, ne⟩ := hk
    exact h1 u x ⟨k, hu⟩ (ih hu) e ne
def Lv (line : Int → Int) (c x : Int) : Prop := ∃ p, (0 ≤ p ∧ p < c) ∧ line p = x
def Lw (line : Int → Int) (c x : Int) : Prop := ∃ b, (-1 ≤ b ∧ b < c) ∧ ln1 line b = x
/-- a whole line -/
abbrev SpF (n : Int) (num : Int → Int) (E : Int → Int → Prop) (line dist bef bp : Int → Int) (c : Int) : Prop := SpI n num E line dist bef bp c c c (fun _ => False)
section
variable {n : Int} {num : Int → Int} {E : Int → Int → Prop} {line dist bef bp : Int → Int} {c : Int}
theorem Lv.w {x : Int} (h : Lv line c x) : Lw line c x := by
  obtain ⟨p, hp, e⟩ := h
  exact ⟨p, by omega, by rw [ln1_p hp.1]; exact e⟩
theorem Lw.v {x : Int} (h : Lw line c x) (hx : 0 ≤ x) : Lv line c x := by
  obtain ⟨p, hp, e⟩ := h
  by_cases g : p < 0
  · rw [show p = -1 by omega, ln1_m] at e; omega
  · rw [ln1_p (by omega)] at e
    exact ⟨p, by omega, e⟩
theorem Lw.m1 (h : 0 ≤ c) : Lw line c (-1) := ⟨-1, by omega, ln1_m⟩
theorem SpI.lv_R (h : SpF n num E line dist bef bp c) {x : Int} (hx : Lv line c x) : 0 ≤ x ∧ x < n := by
  obtain ⟨p, hp, e⟩ := hx
  rw [← e]; exact (h.hp p hp).1
theorem SpI.lw_c (h : SpF n num E line dist bef bp c) {x : Int} (hx : Lw line c x) : x = -1 ∨ Lv line c x := by
  obtain ⟨p, hp, e⟩ := hx
  by_cases g : p < 0
  · rw [show p = -1 by omega, ln1_m] at e; exact Or.inl e.symm
  · rw [ln1_p (by omega)] at e
    exact Or.inr ⟨p, by omega, e⟩
theorem SpI.go (h : SpF n num E line dist bef bp c) {u x : Int} (hu : Lw line c u) (e : E u x) : Lv line c x := by
  obtain ⟨b, hb, eb⟩ := hu
  obtain ⟨p, hp, ep, -⟩ := h.hc b x (by omega) (by rw [eb]; exact e)
  exact ⟨p, hp, ep⟩
theorem SpI.ra_lw (h : SpF n num E line dist bef bp c) {y x : Int} (hx : RA E y x) : Lw line c x :=
  RA.ind (P := fun x => Lw line c x) (Lw.m1 (by have := h.ha; omega)) (fun u x _ hu e _ => (h.go hu e).w) hx
theorem SpI.line_ra (h : SpF n num E line dist bef bp c) : ∀ (k : Nat) (p : Int), p = k → p < c → RA E (-1) (line p) := by
  intro k
  induction k using Nat.strongRecOn with
  | ind k ih =>
    intro p hp hpc
    obtain ⟨h1, h2, -, -, -, h6⟩ := h.hp p (by omega)
    by_cases g : bp p = -1
    · rw [g, ln1_m] at h6
      exact RA.st.go h6 (by omega)
    · rw [ln1_p (by omega)] at h6
      exact (ih (bp p).toNat (by omega) (bp p) (by omega) (by omega)).go h6 (by omega)
theorem SpI.lv_ra (h : SpF n num E line dist bef bp c) {x : Int} : Lv line c x ↔ 0 ≤ x ∧ RA E (-1) x := by
  constructor
  · intro hx
    obtain ⟨p, hp, e⟩ := hx
    rw [← e]
    exact ⟨(h.hp p hp).1.1, h.line_ra p.toNat p (by omega) hp.2⟩
  · intro hx
    exact (h.ra_lw hx.2).v hx.1
theorem SpI.mdist (h : SpF n num E line dist bef bp c) : ∀ (k : Nat) (b q : Int), q = k → -1 ≤ b ∧ b ≤ q ∧ q < c → dv dist (ln1 line b) ≤ dv dist (ln1 line q) := by
  intro k
  induction k using Nat.strongRecOn with
  | ind k ih =>
    intro b q hq hb
    have hq2 := h.hp q (by omega)
    have hdq := h.dp (p := q) (by omega)
    rw [ln1_p (show 0 ≤ q by omega), dv_p hq2.1.1]
    by_cases g : b = -1
    · rw [g, ln1_m, dv_m]; omega
    · have hb2 := h.hp b (by omega)
      rw [ln1_p (show 0 ≤ b by omega), dv_p hb2.1.1]
      by_cases e : b = q
      · rw [e]; omega
      · have ho := (h.ho b q (by omega)).2
        rw [hq2.2.2.2.2.1, hb2.2.2.2.2.1]
        by_cases g2 : bp q = -1
        · rw [show bp b = -1 by omega, g2]; omega
        · have := ih (bp q).toNat (by omega) (bp b) (bp q) (by omega) (by omega)
          omega
theorem SpI.md (h : SpF n num E line dist bef bp c) {b q : Int} (hb : -1 ≤ b ∧ b ≤ q ∧ q < c) : dv dist (ln1 line b) ≤ dv dist (ln1 line q) := by
  by_cases g : q = -1
  · rw [g, show b = -1 by omega]; omega
  · exact h.mdist q.toNat b q (by omega) hb
theorem SpI.edge (h : SpF n num E line dist bef bp c) {u x : Int} (hu : Lw line c u) (e : E u x) : dist x ≤ dv dist u + 1 := by
  obtain ⟨b, hb, eb⟩ := hu
  obtain ⟨p, hp, ep, hbp⟩ := h.hc b x (by omega) (by rw [eb]; exact e)
  have h2 := h.hp p hp
  have h3 := h.md (b := bp p) (q := b) (by omega)
  rw [eb] at h3
  rw [← ep, h2.2.2.2.2.1]
  omega
theorem SpI.dvw (h : SpF n num E line dist bef bp c) {x : Int} (hx : Lw line c x) : 0 ≤ dv dist x ∧ dv dist x ≤ c ∧ (0 ≤ x → 1 ≤ dv dist x) := by
  have hc := h.ha
  rcases h.lw_c hx with e | ⟨p, hp, e⟩
  · rw [e, dv_m]; omega
  · have := h.dp hp
    have h1 := (h.hp p hp).1
    rw [e] at this h1
    rw [dv_p h1.1]
    omega
/-- a walk from u, all of whose later things are farther than d -/
def Wkk (E : Int → Int → Prop) (dist : Int → Int) (d u : Int) : Nat → Int → Prop
  | 0, x => x = u
  | k + 1, x => ∃ z, Wkk E dist d u k z ∧ E z x ∧ d < dist x
def Wk (E : Int → Int → Prop) (dist : Int → Int) (d u x : Int) : Prop := ∃ k, Wkk E dist d u k x
theorem Wk.rf {d u : Int} : Wk E dist d u u := ⟨0, rfl⟩
theorem Wk.go {d u z x : Int} (h : Wk E dist d u z) (e : E z x) (g : d < dist x) : Wk E dist d u x := by
  obtain ⟨k, hk⟩ := h
  exact ⟨k + 1, z, hk, e, g⟩
theorem Wk.ind {d u : Int} {P : Int → Prop} (h0 : P u) (h1 : ∀ z x, P z → E z x → d < dist x → P x) {x : Int} (h : Wk E dist d u x) : P x := by
  obtain ⟨k, hk⟩ := h
  induction k generalizing x with
  | zero => rw [show x = u from hk]; exact h0
  | succ k ih =>
    obtain ⟨z, hz, e, g⟩ := hk
    exact h1 z x (ih hz) e g
theorem Wk.cat {d d2 u z x : Int} (h : Wk E dist d u z) (g : Wk E dist d2 z x) (hd : d ≤ d2) : Wk E dist d u x :=
  Wk.ind (P := fun x => Wk E dist d u x) h (fun z x hz e gd => hz.go e (by omega)) g
/-- u stands k keepers above x -/
def Ck (K : Int → Int) : Nat → Int → Int → Prop
  | 0, u, x => u = x
  | k + 1, u, x => 0 ≤ x ∧ Ck K k u (K x)
def Ch (K : Int → Int) (u x : Int) : Prop := ∃ k, Ck K k u x
theorem Ch.rf {K : Int → Int} {x : Int} : Ch K x x := ⟨0, rfl⟩
theorem Ch.up {K : Int → Int} {u x : Int} (hx : 0 ≤ x) (h : Ch K u (K x)) : Ch K u x := by
  obtain ⟨k, hk⟩ := h
  exact ⟨k + 1, hx, hk⟩
theorem Ch.cs {K : Int → Int} {u x : Int} (h : Ch K u x) : u = x ∨ (0 ≤ x ∧ Ch K u (K x)) := by
  obtain ⟨k, hk⟩ := h
  cases k with
  | zero => exact Or.inl hk
  | succ k => exact Or.inr ⟨hk.1, k, hk.2⟩
theorem Ch.ind {K : Int → Int} {u : Int} {P : Int → Prop} (h0 : P u) (h1 : ∀ x, 0 ≤ x → Ch K u (K x) → P (K x) → P x) {x : Int} (h : Ch K u x) : P x := by
  obtain ⟨k, hk⟩ := h
  induction k generalizing x with
  | zero => rw [← show u = x from hk]; exact h0
  | succ k ih => exact h1 x hk.1 ⟨k, hk.2⟩ (ih hk.2)
theorem Ch.tr {K : Int → Int} {u v x : Int} (h : Ch K u v) (g : Ch K v x) : Ch K u x :=
  Ch.ind (P := fun x => Ch K u x) h (fun _ hx _ hz => Ch.up hx hz) g
theorem Ch.lin {K : Int → Int} {u v x : Int} (h : Ch K u x) (g : Ch K v x) : Ch K u v ∨ Ch K v u :=
  Ch.ind (P := fun x => Ch K v x → Ch K u v ∨ Ch K v u) (fun g => Or.inr g) (fun x hx h1 ih g => by
    rcases g.cs with e | e
    · rw [e]; exact Or.inl (Ch.up hx h1)
    · exact ih e.2) h g
theorem Ch.m1 {K : Int → Int} {u : Int} (h : Ch K u (-1)) : u = -1 := by
  rcases h.cs with e | e
  · exact e
  · omega
def KI (E : Int → Int → Prop) (line dist : Int → Int) (c : Int) (K : Int → Int) : Prop := ∀ x, Lv line c x → Lw line c (K x) ∧ dv dist (K x) < dist x ∧ Wk E dist (dv dist (K x)) (K x) x ∧ ∀ y, 0 ≤ y → ¬ y = x → ¬ RA E y x → Ch K y (K x)
theorem KI.ch (h : SpF n num E line dist bef bp c) {K : Int → Int} (hK : KI E line dist c K) {u x : Int} (hu : Ch K u x) : Lw line c x → Lw line c u ∧ (u = x ∨ dv dist u < dv dist x) ∧ Wk E dist (dv dist u) u x :=
  Ch.ind (P := fun x => Lw line c x → Lw line c u ∧ (u = x ∨ dv dist u < dv dist x) ∧ Wk E dist (dv dist u) u x) (fun hx => ⟨hx, Or.inl rfl, Wk.rf⟩) (fun x hx h1 ih hw => by
    obtain ⟨k1, k2, k3, -⟩ := hK x (hw.v hx)
    obtain ⟨i1, i2, i3⟩ := ih k1
    have e : dv dist x = dist x := dv_p hx
    refine ⟨i1, Or.inr ?_, i3.cat k3 ?_⟩
    · rcases i2 with i2 | i2
      · rw [i2]; omega
      · omega
    · rcases i2 with i2 | i2
      · rw [i2]; omega
      · omega) hu
/-- at first each thing's keeper is the one before it -/
theorem KI.start (h : SpF n num E line dist bef bp c) : KI E line dist c bef := by
  have key : ∀ (k : Nat) (p : Int), p = k → p < c → ∀ y, 0 ≤ y → ¬ RA E y (line p) → Ch bef y (line p) := by
    intro k
    induction k using Nat.strongRecOn with
    | ind k ih =>
      intro p hp hpc y hy hn
      obtain ⟨h1, h2, -, h4, -, h6⟩ := h.hp p (by omega)
      by_cases e : line p = y
      · rw [e]; exact Ch.rf
      · refine Ch.up h1.1 ?_
        rw [h4]
        by_cases g : bp p = -1
        · rw [g, ln1_m] at h6
          exact absurd (RA.st.go h6 e) hn
        · rw [ln1_p (by omega)] at h6 ⊢
          exact ih (bp p).toNat (by omega) (bp p) (by omega) (by omega) y hy (fun z => hn (z.go h6 e))
  intro x hx
  obtain ⟨p, hp, e⟩ := hx
  obtain ⟨h1, h2, -, h4, h5, h6⟩ := h.hp p hp
  rw [← e, h4]
  have hd : dv dist (ln1 line (bp p)) < dist (line p) := by omega
  refine ⟨⟨bp p, by omega, rfl⟩, hd, Wk.rf.go h6 hd, fun y hy ne hn => ?_⟩
  rcases (key p.toNat p (by omega) hp.2 y hy hn).cs with g | g
  · exact absurd g ne
  · rw [← h4]; exact g.2
theorem KI.ag (h : SpF n num E line dist bef bp c) {K : Int → Int} (hK : KI E line dist c K) {v s y z : Int} (hy : Ch K y z) : Lw line c z → dv dist z < dist v → Ch (iu K v s) y z :=
  Ch.ind (P := fun z => Lw line c z → dv dist z < dist v → Ch (iu K v s) y z) (fun _ _ => Ch.rf) (fun x hx h1 ih hw hd => by
    have k := hK x (hw.v hx)
    rw [dv_p hx] at hd
    refine Ch.up hx ?_
    rw [iu_n (fun e => by rw [e] at hd; omega)]
    exact ih k.1 (by omega)) hy
/-- a ref from u to v: the keeper of v moves to what both have in common -/
theorem KI.mv (h : SpF n num E line dist bef bp c) {K : Int → Int} (hK : KI E line dist c K) {u v s : Int} (hu : Lv line c u) (e : E u v) (hs1 : Ch K s (K v)) (hs2 : ∀ w, Ch K w (K v) → Ch K w u → Ch K w s) : KI E line dist c (iu K v s) := by
  have hv : Lv line c v := h.go hu.w e
  obtain ⟨v1, v2, v3, v4⟩ := hK v hv
  obtain ⟨s1, s2, s3⟩ := hK.ch h hs1 v1
  have sd : dv dist s ≤ dv dist (K v) := by
    rcases s2 with z | z
    · rw [z]; omega
    · omega
  have c1 : ∀ y, 0 ≤ y → ¬ y = v → ¬ RA E y v → Ch (iu K v s) y s := by
    intro y hy ne hn
    refine hK.ag h (hs2 y (v4 y hy ne hn) ?_) s1 (by omega)
    have hn2 : ¬ RA E y u := fun z => hn (z.go e (fun q => ne q.symm))
    by_cases g : y = u
    · rw [g]; exact Ch.rf
    · exact Ch.up (h.lv_R hu).1 ((hK u hu).2.2.2 y hy g hn2)
  intro x hx
  by_cases ex : x = v
  · rw [ex, iu_s]
    exact ⟨s1, by omega, s3.cat v3 sd, c1⟩
  · rw [iu_n ex]
    obtain ⟨x1, x2, x3, x4⟩ := hK x hx
    refine ⟨x1, x2, x3, fun y hy ne hn => ?_⟩
    have key : ∀ z, Ch K y z → Ch K z x → Lw line c z → Ch (iu K v s) y z := by
      intro z hz
      refine Ch.ind (P := fun z => Ch K z x → Lw line c z → Ch (iu K v s) y z) (fun _ _ => Ch.rf) (fun z hz0 h1 ih hzx hzw => ?_) hz
      have kz := hK z (hzw.v hz0)
      refine Ch.up hz0 ?_
      by_cases ez : z = v
      · subst ez
        rw [iu_s]
        have hyd := (hK.ch h h1 v1).2.1
        have hyz : dv dist y < dist z := by
          rcases hyd with q | q
          · rw [q]; omega
          · omega
        rw [dv_p hy] at hyz
        refine c1 y hy (fun q => by rw [q] at hyz; omega) (fun q => hn ?_)
        obtain ⟨-, -, w3⟩ := hK.ch h hzx hx.w
        rw [dv_p hz0] at w3
        exact Wk.ind (P := fun x => RA E y x) q (fun a b ha eab hd => ha.go eab (fun q2 => by rw [q2] at hd; omega)) w3
      · rw [iu_n ez]
        exact ih ((Ch.up hz0 Ch.rf).tr hzx) kz.1
    exact key (K x) (x4 y hy ne hn) (Ch.up (h.lv_R hx).1 Ch.rf) x1
/-- when no ref moves a keeper any more, the keepers are right -/
theorem KI.fix (h : SpF n num E line dist bef bp c) {K : Int → Int} (hK : KI E line dist c K) (hf : ∀ u v, Lv line c u → E u v → K v = -1 ∨ Ch K (K v) u) {x y : Int} (hx : Lv line c x) (hy : 0 ≤ y) : Ch K y x ↔ ¬ RA E y x := by
  constructor
  · intro hc hr
    refine RA.ind (P := fun x => ¬ Ch K y x) (fun z => by have := z.m1; omega) (fun u z hu ih e ne hz => ?_) hr hc
    have huw := h.ra_lw hu
    rcases hz.cs with g | g
    · exact ne g.symm
    · rcases h.lw_c huw with q | q
      · have hzv := h.go huw e
        have hd := h.edge huw e
        rw [q, dv_m] at hd
        have k := hK z hzv
        have k2 := h.dvw k.1
        have : K z = -1 := by
          rcases h.lw_c k.1 with w | w
          · exact w
          · have := (h.lv_R w).1
            omega
        rw [this] at g
        have := g.2.m1
        omega
      · rcases hf u z q e with w | w
        · rw [w] at g
          have := g.2.m1
          omega
        · exact ih (g.2.tr w)
  · intro hr
    by_cases g : y = x
    · rw [g]; exact Ch.rf
    · exact Ch.up (h.lv_R hx).1 ((hK x hx).2.2.2 y hy g hr)
def LSI (K : Int → Int) (a b x y : Int) : Prop := Ch K x a ∧ Ch K y b ∧ ∀ z, Ch K z a → Ch K z b → Ch K z x ∧ Ch K z y
theorem LSI.l (h : SpF n num E line dist bef bp c) {K : Int → Int} (hK : KI E line dist c K) {a b x y : Int} (hx : Lv line c x) (hy : Lw line c y) (hxy : ¬ x = y) (hd : dv dist y ≤ dv dist x) (hl : LSI K a b x y) : LSI K a b (K x) y ∧ Lw line c (K x) ∧ dv dist (K x) < dv dist x := by
  have hx0 := (h.lv_R hx).1
  have k := hK x hx
  refine ⟨⟨(Ch.up hx0 Ch.rf).tr hl.1, hl.2.1, fun z h1 h2 => ⟨?_, (hl.2.2 z h1 h2).2⟩⟩, k.1, by rw [dv_p hx0]; exact k.2.1⟩
  rcases (hl.2.2 z h1 h2).1.cs with e | e
  · rcases (hK.ch h (hl.2.2 z h1 h2).2 hy).2.1 with g | g
    · exact absurd (e.symm.trans g) hxy
    · rw [e] at g; omega
  · exact e.2
theorem LSI.r (h : SpF n num E line dist bef bp c) {K : Int → Int} (hK : KI E line dist c K) {a b x y : Int} (hx : Lw line c x) (hy : Lv line c y) (hxy : ¬ x = y) (hd : dv dist x < dv dist y) (hl : LSI K a b x y) : LSI K a b x (K y) ∧ Lw line c (K y) ∧ dv dist (K y) < dv dist y := by
  have hy0 := (h.lv_R hy).1
  have k := hK y hy
  refine ⟨⟨hl.1, (Ch.up hy0 Ch.rf).tr hl.2.1, fun z h1 h2 => ⟨(hl.2.2 z h1 h2).1, ?_⟩⟩, k.1, by rw [dv_p hy0]; exact k.2.1⟩
  rcases (hl.2.2 z h1 h2).2.cs with e | e
  · rcases (hK.ch h (hl.2.2 z h1 h2).1 hx).2.1 with g | g
    · exact absurd (g.symm.trans e) hxy
    · rw [e] at g; omega
  · exact e.2
end
theorem sumZ_iu {g : Int → Int → Int} {K : Int → Int} {v s : Int} (hv : 0 ≤ v) : ∀ N : Nat, sumZ (fun x => g x (iu K v s x)) N = sumZ (fun x => g x (K x)) N + (if v < N then g v s - g v (K v) else 0)
  | 0 => by rw [if_neg (by omega)]; rfl
  | N + 1 => by
    have ih := sumZ_iu (g := g) (K := K) (s := s) hv N
    show sumZ _ N + g N (iu K v s N) = sumZ _ N + g N (K N) + _
    rw [ih]
    by_cases e : v = N
    · rw [e, iu_s, if_neg (by omega), if_pos (by omega)]; omega
    · rw [iu_n (fun z => e z.symm)]
      by_cases g2 : v < N
      · rw [if_pos g2, if_pos (by omega)]; omega
      · rw [if_neg g2, if_neg (by omega)]; omega
theorem KI.cg {n : Int} {num : Int → Int} {E : Int → Int → Prop} {line dist bef bp : Int → Int} {c : Int} (h : SpF n num E line dist bef bp c) {K K2 : Int → Int} (hK : KI E line dist c K) (e : ∀ x, Lv line c x → K2 x = K x) : KI E line dist c K2 := by
  have key : ∀ y z, Ch K y z → Lw line c z → Ch K2 y z := fun y z hz => Ch.ind (P := fun z => Lw line c z → Ch K2 y z) (fun _ => Ch.rf) (fun x hx h1 ih hw => by
    refine Ch.up hx ?_
    rw [e x (hw.v hx)]
    exact ih (hK x (hw.v hx)).1) hz
  intro x hx
  rw [e x hx]
  obtain ⟨k1, k2, k3, k4⟩ := hK x hx
  exact ⟨k1, k2, k3, fun y hy ne hn => key y _ (k4 y hy ne hn) k1⟩
theorem cntZ_or {P : Int → Prop} (dP : ∀ y, Decidable (P y)) {x : Int} (dQ : ∀ y, Decidable (P y ∨ y = x)) (hx : 0 ≤ x) (hP : ¬ P x) : ∀ N : Nat, cntZ (fun y => @decide (P y ∨ y = x) (dQ y)) N = cntZ (fun y => @decide (P y) (dP y)) N + (if x < N then 1 else 0)
  | 0 => by rw [if_neg (by omega)]; rfl
  | N + 1 => by
    have ih := cntZ_or dP dQ hx hP N
    by_cases e : (N : Int) = x
    · rw [cntZ_t (by simp [e]), cntZ_f (by simp [e, hP]), ih, if_neg (by omega), if_pos (by omega)]; omega
    · have e2 : (if x < (N : Int) then (1 : Int) else 0) = if x < ((N + 1 : Nat) : Int) then 1 else 0 := by
        by_cases g : x < (N : Int)
        · rw [if_pos g, if_pos (by omega)]
        · rw [if_neg g, if_neg (by omega)]
      by_cases q : P N
      · rw [cntZ_t (by simp [q]), cntZ_t (by simp [q]), ih, ← e2]; omega
      · rw [cntZ_f (by simp [q, e]), cntZ_f (by simp [q]), ih, e2]

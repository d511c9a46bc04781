/-! ===== heights and what is kept: pure ===== -/
noncomputable def bP (p : Prop) : Bool := @decide p (Classical.propDecidable p)
theorem bP_e {p : Prop} : bP p = true ↔ p := by
  unfold bP
  exact @decide_eq_true_iff p (Classical.propDecidable p)
theorem bP_f {p : Prop} : bP p = false ↔ ¬ p := by
  rw [← Bool.not_eq_true, bP_e]
theorem bP_c {p q : Prop} (h : p ↔ q) : bP p = bP q := by rw [propext h]
noncomputable def cntP (P : Int → Prop) (N : Nat) : Int := cntZ (fun y => bP (P y)) N
noncomputable def sumP (P : Int → Prop) (f : Int → Int) (N : Nat) : Int := sumZ (fun x => if bP (P x) = true then f x else 0) N
theorem cntZ_c {q r : Int → Bool} : ∀ N : Nat, (∀ x : Int, 0 ≤ x ∧ x < N → q x = r x) → cntZ q N = cntZ r N
  | 0, _ => rfl
  | N + 1, h => by
    unfold cntZ
    rw [cntZ_c N (fun x hx => h x (by omega)), h N (by omega)]
theorem sumZ_c {f g : Int → Int} : ∀ N : Nat, (∀ x : Int, 0 ≤ x ∧ x < N → f x = g x) → sumZ f N = sumZ g N
  | 0, _ => rfl
  | N + 1, h => by
    unfold sumZ
    rw [sumZ_c N (fun x hx => h x (by omega)), h N (by omega)]
theorem cntP_c {P Q : Int → Prop} {N : Nat} (h : ∀ x : Int, 0 ≤ x ∧ x < N → (P x ↔ Q x)) : cntP P N = cntP Q N := cntZ_c N (fun x hx => bP_c (h x hx))
theorem sumP_c {P Q : Int → Prop} {f g : Int → Int} {N : Nat} (h : ∀ x : Int, 0 ≤ x ∧ x < N → (P x ↔ Q x)) (hf : ∀ x : Int, 0 ≤ x ∧ x < N → f x = g x) : sumP P f N = sumP Q g N := sumZ_c N (fun x hx => by rw [bP_c (h x hx), hf x hx])
theorem cntP_0 {P : Int → Prop} : ∀ N : Nat, (∀ x : Int, 0 ≤ x ∧ x < N → ¬ P x) → cntP P N = 0
  | 0, _ => rfl
  | N + 1, h => by
    have ih := cntP_0 N (fun x hx => h x (by omega))
    have : bP (P N) = false := bP_f.mpr (h N (by omega))
    show cntP P N + (if bP (P N) = true then 1 else 0) = 0
    rw [ih, this]; rfl
theorem sumP_0 {P : Int → Prop} {f : Int → Int} : ∀ N : Nat, (∀ x : Int, 0 ≤ x ∧ x < N → ¬ P x) → sumP P f N = 0
  | 0, _ => rfl
  | N + 1, h => by
    have ih := sumP_0 (f := f) N (fun x hx => h x (by omega))
    have : bP (P N) = false := bP_f.mpr (h N (by omega))
    show sumP P f N + (if bP (P N) = true then f N else 0) = 0
    rw [ih, this]; rfl
theorem sumZ_add {f g h : Int → Int} : ∀ N : Nat, (∀ x : Int, 0 ≤ x ∧ x < N → h x = f x + g x) → sumZ h N = sumZ f N + sumZ g N
  | 0, _ => rfl
  | N + 1, e => by
    unfold sumZ
    rw [sumZ_add N (fun x hx => e x (by omega)), e N (by omega)]
    omega
theorem sumP_or {P Q R : Int → Prop} {f : Int → Int} {N : Nat} (h : ∀ x : Int, 0 ≤ x ∧ x < N → (R x ↔ P x ∨ Q x)) (hd : ∀ x : Int, 0 ≤ x ∧ x < N → P x → ¬ Q x) : sumP R f N = sumP P f N + sumP Q f N := by
  refine sumZ_add N (fun x hx => ?_)
  have h1 := h x hx
  have h2 := hd x hx
  by_cases a : P x
  · rw [if_pos (bP_e.mpr (h1.mpr (Or.inl a))), if_pos (bP_e.mpr a), if_neg (by rw [bP_e]; exact h2 a)]; omega
  · by_cases b : Q x
    · rw [if_pos (bP_e.mpr (h1.mpr (Or.inr b))), if_neg (by rw [bP_e]; exact a), if_pos (bP_e.mpr b)]; omega
    · rw [if_neg (by rw [bP_e, h1]; exact fun z => z.elim a b), if_neg (by rw [bP_e]; exact a), if_neg (by rw [bP_e]; exact b)]; omega
theorem sumP_1 {f : Int → Int} {v : Int} (hv : 0 ≤ v) : ∀ N : Nat, sumP (fun x => x = v) f N = if v < N then f v else 0
  | 0 => by rw [if_neg (by omega)]; rfl
  | N + 1 => by
    have ih := sumP_1 (f := f) hv N
    show sumP (fun x => x = v) f N + (if bP ((N : Int) = v) = true then f N else 0) = _
    rw [ih]
    by_cases e : (N : Int) = v
    · rw [if_pos (bP_e.mpr e), if_neg (by omega), if_pos (by omega), e]; omega
    · rw [if_neg (c := bP ((N : Int) = v) = true) (by rw [bP_e]; exact e)]
      by_cases g : v < N
      · rw [if_pos g, if_pos (by omega)]; omega
      · rw [if_neg g, if_neg (by omega)]; omega
theorem cntP_s {P : Int → Prop} : ∀ N : Nat, cntP P N = sumP P (fun _ => 1) N
  | 0 => rfl
  | N + 1 => by
    have ih := cntP_s (P := P) N
    show cntP P N + (if bP (P N) = true then 1 else 0) = sumP P (fun _ => 1) N + (if bP (P N) = true then 1 else 0)
    rw [ih]
theorem sumP_in {P R : Int → Prop} {f : Int → Int} {N : Nat} {v : Int} (hv : 0 ≤ v ∧ v < N) (h : ∀ x : Int, 0 ≤ x ∧ x < N → (R x ↔ P x ∨ x = v)) (hp : ¬ P v) : sumP R f N = sumP P f N + f v := by
  rw [sumP_or (Q := fun x => x = v) h (fun x _ a b => hp (b ▸ a)), sumP_1 hv.1, if_pos hv.2]
theorem cntP_in {P R : Int → Prop} {N : Nat} {v : Int} (hv : 0 ≤ v ∧ v < N) (h : ∀ x : Int, 0 ≤ x ∧ x < N → (R x ↔ P x ∨ x = v)) (hp : ¬ P v) : cntP R N = cntP P N + 1 := by
  rw [cntP_s, cntP_s, sumP_in hv h hp]
theorem cntP_R {P : Int → Prop} {N : Nat} : 0 ≤ cntP P N ∧ cntP P N ≤ N := cntZ_R _ N
theorem sumP_R {P : Int → Prop} {f : Int → Int} {m : Int} {N : Nat} (hm : 0 ≤ m) (h : ∀ x : Int, 0 ≤ x ∧ x < N → 0 ≤ f x ∧ f x ≤ m) : 0 ≤ sumP P f N ∧ sumP P f N ≤ N * m := by
  refine sumZ_R2 N (fun i hi => ?_)
  have := h i (by omega)
  split <;> omega
section
variable {n : Int} {num : Int → Int} {E : Int → Int → Prop} {line dist bef bp : Int → Int} {c : Int}
/-- who is nearer stands farther in front -/
theorem SpI.pl (h : SpF n num E line dist bef bp c) {b q : Int} (hb : -1 ≤ b ∧ b < c) (hq : -1 ≤ q ∧ q < c) (hd : dv dist (ln1 line b) < dv dist (ln1 line q)) : b < q := by
  by_cases g : b < q
  · exact g
  · have := h.md (b := q) (q := b) (by omega)
    omega
/-- a keeper stands before its thing in the line -/
theorem KI.pos (h : SpF n num E line dist bef bp c) {K : Int → Int} (hK : KI E line dist c K) {q : Int} (hq : 0 ≤ q ∧ q < c) (h0 : ¬ K (line q) = -1) : ∃ b, (0 ≤ b ∧ b < q) ∧ line b = K (line q) := by
  obtain ⟨⟨b, hb, e⟩, k2, -⟩ := hK (line q) ⟨q, hq, rfl⟩
  have hl := (h.hp q hq).1
  have : b < q := h.pl hb (by omega) (by rw [e, ln1_p hq.1, dv_p hl.1]; exact k2)
  have hb0 : 0 ≤ b := by
    by_cases g : b < 0
    · rw [show b = -1 by omega, ln1_m] at e; exact absurd e.symm h0
    · omega
  exact ⟨b, by omega, by rw [← e, ln1_p hb0]⟩
theorem KI.h1 (h : SpF n num E line dist bef bp c) {K : Int → Int} {x : Int} (hx : Lv line c x) (h0 : K x = -1) : cntP (fun y => Ch K y x) n.toNat = 1 := by
  have hR := h.lv_R hx
  rw [cntP_in (P := fun _ => False) (v := x) (by omega) (fun y hy => ?_) (fun z => z), cntP_0 _ (fun _ _ z => z)]
  · rfl
  constructor
  · intro z
    rcases z.cs with e | e
    · exact Or.inr e
    · rw [h0] at e
      have := e.2.m1
      omega
  · intro z
    rcases z with z | z
    · exact z.elim
    · rw [z]; exact Ch.rf
theorem KI.h2 (h : SpF n num E line dist bef bp c) {K : Int → Int} (hK : KI E line dist c K) {x : Int} (hx : Lv line c x) : cntP (fun y => Ch K y x) n.toNat = cntP (fun y => Ch K y (K x)) n.toNat + 1 := by
  have hR := h.lv_R hx
  have k := hK x hx
  rw [cntP_in (P := fun y => Ch K y (K x)) (v := x) (by omega) (fun y hy => ?_) (fun z => ?_)]
  · constructor
    · intro z
      rcases z.cs with e | e
      · exact Or.inr e
      · exact Or.inl e.2
    · intro z
      rcases z with z | z
      · exact Ch.up hR.1 z
      · rw [z]; exact Ch.rf
  · rcases (hK.ch h z k.1).2.1 with g | g
    · rw [← g, dv_p hR.1] at k; omega
    · rw [dv_p hR.1] at g; omega
/-- x is kept by a thing whose keeper is y, at q0 or behind in the line -/
def Kd (K line : Int → Int) (c q0 y x : Int) : Prop := Lv line c x ∧ ∃ q, (q0 ≤ q ∧ q < c) ∧ K (line q) = y ∧ Ch K (line q) x
theorem Ch.dn {K : Int → Int} {u x : Int} (h : Ch K u x) : u = x ∨ ∃ z, 0 ≤ z ∧ K z = u ∧ Ch K z x :=
  Ch.ind (P := fun x => u = x ∨ ∃ z, 0 ≤ z ∧ K z = u ∧ Ch K z x) (Or.inl rfl) (fun x hx _ ih => by
    rcases ih with e | ⟨z, z1, z2, z3⟩
    · exact Or.inr ⟨x, hx, e.symm, Ch.rf⟩
    · exact Or.inr ⟨z, z1, z2, Ch.up hx z3⟩) h
theorem Kd.all (h : SpF n num E line dist bef bp c) {K : Int → Int} (hK : KI E line dist c K) {a q0 : Int} (ha : 0 ≤ a ∧ a < c) (hq : 0 ≤ q0 ∧ q0 ≤ a + 1) {x : Int} : (Lv line c x ∧ Ch K (line a) x) ↔ (Kd K line c q0 (line a) x ∨ x = line a) := by
  constructor
  · intro ⟨hx, hc⟩
    rcases hc.dn with e | ⟨z, z1, z2, z3⟩
    · exact Or.inr e.symm
    · left
      have hz := (hK.ch h z3 hx.w).1.v z1
      obtain ⟨q, hq2, e⟩ := hz
      refine ⟨hx, q, ?_, by rw [e]; exact z2, by rw [e]; exact z3⟩
      obtain ⟨b, hb, eb⟩ := hK.pos h hq2 (by rw [e, z2]; have := (h.hp a ha).1; omega)
      rw [e, z2] at eb
      have : b = a := by
        have g : b < a ∨ b = a ∨ a < b := by omega
        rcases g with g | g | g
        · exact absurd eb (h.ho b a (by omega)).1
        · exact g
        · exact absurd eb.symm (h.ho a b (by omega)).1
      omega
  · intro g
    rcases g with ⟨hx, q, hq2, e1, e2⟩ | e
    · exact ⟨hx, (Ch.up (h.hp q (by omega)).1.1 (by rw [e1]; exact Ch.rf)).tr e2⟩
    · rw [e]; exact ⟨⟨a, ha, rfl⟩, Ch.rf⟩
theorem Kd.nx (h : SpF n num E line dist bef bp c) {K : Int → Int} (hK : KI E line dist c K) {a q0 : Int} (ha : 0 ≤ a ∧ a < c) (hq0 : 0 ≤ q0) : ¬ Kd K line c q0 (line a) (line a) := by
  intro ⟨hx, q, hq, e1, e2⟩
  have hl := (h.hp a ha).1
  have hq2 := (h.hp q (by omega)).1
  have k := hK.ch h e2 hx.w
  have k2 := hK (line q) ⟨q, by omega, rfl⟩
  rw [e1, dv_p hl.1] at k2
  rw [dv_p hl.1, dv_p hq2.1] at k
  rcases k.2.1 with w | w
  · rw [w] at k2; omega
  · omega
theorem Kd.st (h : SpF n num E line dist bef bp c) {K : Int → Int} {a y x : Int} (ha : 0 ≤ a ∧ a < c) : Kd K line c a y x ↔ (Kd K line c (a + 1) y x ∨ (K (line a) = y ∧ Lv line c x ∧ Ch K (line a) x)) := by
  constructor
  · intro ⟨hx, q, hq, e1, e2⟩
    by_cases g : q = a
    · subst g; exact Or.inr ⟨e1, hx, e2⟩
    · exact Or.inl ⟨hx, q, by omega, e1, e2⟩
  · intro g
    rcases g with ⟨hx, q, hq, e1, e2⟩ | ⟨e1, hx, e2⟩
    · exact ⟨hx, q, by omega, e1, e2⟩
    · exact ⟨hx, a, by omega, e1, e2⟩
theorem Kd.dj (h : SpF n num E line dist bef bp c) {K : Int → Int} (hK : KI E line dist c K) {a x : Int} (ha : 0 ≤ a ∧ a < c) (h1 : Kd K line c (a + 1) (K (line a)) x) (h2 : Ch K (line a) x) : False := by
  obtain ⟨hx, q, hq, e1, e2⟩ := h1
  have hl := (h.hp a ha).1
  have hq2 := (h.hp q (by omega)).1
  have ka := hK (line a) ⟨a, ha, rfl⟩
  have kq := hK (line q) ⟨q, by omega, rfl⟩
  rw [e1] at kq
  have ne := (h.ho a q (by omega)).1
  rcases Ch.lin h2 e2 with g | g
  · rcases g.cs with w | w
    · exact ne w
    · rw [e1] at w
      rcases (hK.ch h w.2 ka.1).2.1 with z | z
      · rw [← z, dv_p hl.1] at ka; omega
      · rw [dv_p hl.1] at z; omega
  · rcases g.cs with w | w
    · exact ne w.symm
    · rcases (hK.ch h w.2 ka.1).2.1 with z | z
      · rw [← z, dv_p hq2.1] at kq; omega
      · rw [dv_p hq2.1] at z; omega
end

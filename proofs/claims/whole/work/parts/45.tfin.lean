/-- all that a thing's head must be -/
def HdT (U : Int → Int) (len : Int) (A T : Int → Int) (n q : Int) : Prop := q + 4 ≤ len ∧ (U q = 82 → q + 6 ≤ len) ∧ TOK U A q ∧ vP U A q (nV U A q) ≤ len ∧ isE U len (vP U A q (nV U A q)) ∧ ¬ two2 U (q + 1) = 0 ∧ fnd U T n (two2 U (q + 1)) = -1 ∧ n < 600
theorem AccT_e {U : Int → Int} {len : Int} {A T : Int → Int} {n refs q : Int} : AccT U len A T n refs q ↔ (HdT U len A T n q ∧ tru U A q ∧ refs + rz U A q ≤ 3000) := by
  constructor
  · intro ⟨a, b, c, d, e, f, g, h, i, j⟩
    exact ⟨⟨a, b, c, d, e, f, g, i⟩, h, j⟩
  · intro ⟨⟨a, b, c, d, e, f, g, i⟩, h, j⟩
    exact ⟨a, b, c, d, e, f, g, h, i, j⟩
theorem Wd.th {lay : Nat → Nat × Int} {ρ : Nat → Int → Nat} {σ σ2 : Nat → Int → Int} {o : Nat} (h : Wd lay ρ σ) (hf : Fr σ σ2 o 12) (hK : LThings lay ρ o) : Wd lay ρ σ2 := by
  refine h.fr hf (fun j hj => ?_)
  obtain ⟨k0, -, -, -, -, -, -, -, -, -, -, -, -, k1, k2, k3, k4, k5, k6, k7, k8, k9, k10, k11, k12⟩ := hK
  have : j = 0 ∨ j = 1 ∨ j = 2 ∨ j = 3 ∨ j = 4 ∨ j = 5 ∨ j = 6 ∨ j = 7 ∨ j = 8 ∨ j = 9 ∨ j = 10 ∨ j = 11 ∨ j = 12 := by omega
  rcases this with e | e | e | e | e | e | e | e | e | e | e | e | e <;> subst e
  · rw [Nat.add_zero, k0]; decide
  · rw [k1]; decide
  · rw [k2]; decide
  · rw [k3]; decide
  · rw [k4]; decide
  · rw [k5]; decide
  · rw [k6]; decide
  · rw [k7]; decide
  · rw [k8]; decide
  · rw [k9]; decide
  · rw [k10]; decide
  · rw [k11]; decide
  · rw [k12]; decide
theorem kSort_c {σ σ1 : Nat → Int → Int} {o : Nat} (h : ∀ i, i ≤ 6 → σ1 (o + i) = σ (o + i)) {j : Int} : ∀ (f : Nat) (x : Int), kSort σ1 o j f x = kSort σ o j f x
  | 0, _ => rfl
  | f + 1, x => by
    have h1 := h 1 (by omega)
    have h2 := h 2 (by omega)
    have h3 := h 3 (by omega)
    have h6 := h 6 (by omega)
    show (if 0 ≤ x ∧ x < 40 ∧ ¬ σ1 (o + 1) x = 0 then (if 0 ≤ j - σ1 (o + 3) x then (if j - σ1 (o + 3) x < 12 then σ1 (o + 6) (x * 12 + (j - σ1 (o + 3) x)) else -1) else kSort σ1 o j f (σ1 (o + 2) x)) else -1) = (if 0 ≤ x ∧ x < 40 ∧ ¬ σ (o + 1) x = 0 then (if 0 ≤ j - σ (o + 3) x then (if j - σ (o + 3) x < 12 then σ (o + 6) (x * 12 + (j - σ (o + 3) x)) else -1) else kSort σ o j f (σ (o + 2) x)) else -1)
    rw [h1, h2, h3, h6, kSort_c h f]
theorem pair_e {σ : Nat → Int → Int} {t : Nat} {x : Int} (h : 0 ≤ x ∧ x + 1 < σ t 1) : 256 * (σ (t + 1) x % 256) + σ (t + 1) (x + 1) % 256 = two2 (tU σ t) x := by
  unfold two2
  rw [tU_i (by omega), tU_i (by omega)]
  omega
section
variable {σ σ1 : Nat → Int → Int} {τ τ1 : Nat → Int → Int64} {t : Nat} {U A T : Int → Int} {q n refs pl len : Int} {k : Nat}
theorem ADg.fr (h : ADg σ σ1 τ τ1 t U A q n k) : Fr σ σ1 t 12 := fun a ha => h.1.1 a (by omega) (by omega)
/-- numbers are looked up right -/
theorem TR.adm (h : TR σ τ t U A T n refs pl) (hn : 0 ≤ n) {x : Int} : (∀ i, 0 ≤ i ∧ i < σ t 12 → ¬ σ (t + 1) i = x) ↔ fnd U T n x = -1 := by
  have e := h.1.1
  have key : ∀ i, 0 ≤ i ∧ i < n → σ (t + 1) i = numA U T i := fun i hi => (h.2.2.2.2.2 i hi).1.1
  constructor
  · intro z
    rcases fidx_R (numA U T) x n.toNat with w | w
    · exact w
    · exfalso
      have hi : 0 ≤ fidx (numA U T) x n.toNat ∧ fidx (numA U T) x n.toNat < n := by omega
      refine z (fidx (numA U T) x n.toNat) (by omega) ?_
      rw [key _ hi]; exact w.2.2
  · intro z i hi
    rw [key i (by omega)]
    exact fidx_no _ _ _ z i (by omega)
theorem TI.cg {i : Int} {σ2 : Nat → Int → Int} {τ2 : Nat → Int → Int64} (h : TI σ τ t U A T i) (h1 : ∀ a, a ≤ 6 → σ2 (t + a) i = σ (t + a) i ∨ a = 0) (h8 : σ2 (t + 8) i = σ (t + 8) i ∧ σ2 (t + 8) (i + 1) = σ (t + 8) (i + 1)) (h9 : σ2 (t + 9) i = σ (t + 9) i ∧ σ2 (t + 9) (i + 1) = σ (t + 9) (i + 1)) (h10 : ∀ x, x < σ (t + 8) (i + 1) → τ2 (t + 10) x = τ (t + 10) x) (h11 : ∀ x, x < σ (t + 9) (i + 1) → σ2 (t + 11) x = σ (t + 11) x) (T2 : Int → Int) (hT2 : T2 i = T i) : TI σ2 τ2 t U A T2 i := by
  obtain ⟨⟨a1, a2, a3, a4, a5, a6⟩, a7, a8, a9, a10⟩ := h
  have g : ∀ a, 1 ≤ a → a ≤ 6 → σ2 (t + a) i = σ (t + a) i := fun a q1 q2 => (h1 a q2).elim id (fun z => by omega)
  unfold TI
  rw [hT2, h8.1, h8.2, h9.1, h9.2, g 1 (by omega) (by omega), g 2 (by omega) (by omega), g 3 (by omega) (by omega), g 4 (by omega) (by omega), g 5 (by omega) (by omega), g 6 (by omega) (by omega)]
  refine ⟨⟨?_, a2, a3, a4, a5, a6⟩, a7, a8, fun k hk => ?_, fun k hk hs => ?_⟩
  · rw [a1]; unfold numA; rw [hT2]
  · rw [h10 _ (by omega)]; exact a9 k hk
  · have := r5_lt (U := U) (A := A) (q := T i) (a := k) (b := (nV U A (T i)).toNat) (by omega) hs
    rw [h11 _ (by omega)]; exact a10 k hk hs
/-- what is being read disturbs nothing -/
theorem TR.scr (h : TR σ τ t U A T n refs pl) (hn : 0 ≤ n) (a : ADg σ σ1 τ τ1 t U A q n k) : TR σ1 τ1 t U A T n refs pl := by
  obtain ⟨⟨b1, b2, b3⟩, b4, b5, b6, b7, b8⟩ := h
  obtain ⟨⟨f1, f2, f3, f4, f5⟩, -⟩ := a
  have e : ∀ j, 1 ≤ j → j ≤ 10 → σ1 (t + j) = σ (t + j) := fun j h1 h2 => f1 _ (by omega) (by omega)
  refine ⟨⟨by rw [f2 12 (by omega)]; exact b1, by rw [f2 13 (by omega)]; exact b2, by rw [f2 14 (by omega)]; exact b3⟩, b4.cong (f2 12 (by omega)) (e 7 (by omega) (by omega)) (fun i _ => by rw [e 1 (by omega) (by omega)]), ?_, ?_, ?_, fun i hi => ?_⟩
  · rw [e 8 (by omega) (by omega), e 9 (by omega) (by omega)]; exact b5
  · rw [e 8 (by omega) (by omega), e 9 (by omega) (by omega)]; exact b6
  · rw [e 8 (by omega) (by omega), e 9 (by omega) (by omega)]; exact b7
  · have b9 := b7 (i + 1) n (by omega)
    refine (b8 i hi).cg (fun a ha => ?_) ?_ ?_ (fun x hx => f5 x (by omega)) (fun x hx => f3 x (by omega)) T rfl
    · by_cases z : a = 0
      · exact Or.inr z
      · exact Or.inl (by rw [e a (by omega) (by omega)])
    · rw [e 8 (by omega) (by omega)]; exact ⟨rfl, rfl⟩
    · rw [e 9 (by omega) (by omega)]; exact ⟨rfl, rfl⟩
theorem keepS_fr {σ σ2 : Nat → Int → Int} {t : Nat} {x s d q n set r : Int} (h : Fr σ σ2 t 12) : Fr σ (keepS σ2 t x s d q n set r) t 12 := by
  unfold keepS
  exact (((((((((h.fu (by omega)).fu (by omega)).fu (by omega)).fu (by omega)).fu (by omega)).fu (by omega)).fu (by omega)).fu (by omega)).fu (by omega)).fu (by omega)
theorem TR.fin (h : TR σ τ t U A T n refs pl) (hK : KW U A) (hpl : 0 ≤ pl ∧ pl ≤ q) (hln : len ≤ 8000) (hn : 0 ≤ n) (hrf : 0 ≤ refs ∧ refs ≤ 3000) (hd : HdT U len A T n q) (a : ADg σ σ1 τ τ1 t U A q n k) (hk : (k : Int) = nV U A q) : TR σ1 τ1 t U A T n refs pl ∧ (0 ≤ σ1 (t + 9) (σ1 t 12) ∧ σ1 (t + 9) (σ1 t 12) ≤ σ1 t 16 ∧ σ1 t 16 ≤ 4000) ∧ (0 ≤ σ1 t 13 ∧ σ1 t 13 ≤ 3000) ∧ (∀ c, c = σ1 t 13 + cntZ (fun i => decide (¬ σ1 (t + 11) (σ1 (t + 9) (σ1 t 12) + i) = 0)) (σ1 t 16 - σ1 (t + 9) (σ1 t 12)).toNat → (¬ σ1 t 17 = 0 ∨ 600 ≤ σ1 t 12 ∨ 3000 < c → ¬ AccT U len A T n refs q) ∧ (¬ (¬ σ1 t 17 = 0 ∨ 600 ≤ σ1 t 12 ∨ 3000 < c) → AccT U len A T n refs q ∧ ∀ m r, (m + 7) / 8 * 8 = szv U A q → (0 ≤ r ∧ r ≤ σ1 t 12) → (∀ i, 0 ≤ i ∧ i < r → σ1 (t + 1) (σ1 (t + 7) i) < two2 U (q + 1)) → (∀ i, r ≤ i ∧ i < σ1 t 12 → two2 U (q + 1) ≤ σ1 (t + 1) (σ1 (t + 7) i)) → TR (keepS σ1 t (two2 U (q + 1)) (srt U q) (kdv U q) q m c r) τ1 t U A (iu T n q) (n + 1) (refs + rz U A q) (vP U A q (nV U A q)))) := by
  have h1 := h.scr hn a
  have sp := a.sp hk
  obtain ⟨⟨f1, f2, f3, f4, f5⟩, a2, a3, a4⟩ := a
  obtain ⟨⟨b1, b2, b3⟩, b4, b5, b6, b7, b8⟩ := h1
  have tk := hd.2.2.1
  have vb := tk.vb hK k (by omega)
  rw [hk] at vb
  have hr := @r5_R U A q k
  have h9 := f1 (t + 9) (by omega) (by omega)
  have h8 := f1 (t + 8) (by omega) (by omega)
  have b6n := b6 n (by omega)
  rw [h8, h9] at b6n
  have hdl : 3 ≤ hdL U q := by
    unfold hdL
    repeat' split
    all_goals omega
  have hend := hd.2.2.2.1
  have vb2 : q + hdL U q + 2 * r5 U A q k ≤ vP U A q (nV U A q) := by
    have := vb.2.1
    exact this
  refine ⟨⟨⟨b1, b2, b3⟩, b4, b5, b6, b7, b8⟩, by rw [b1, h9]; omega, by rw [b2]; exact hrf, fun c hc => ?_⟩
  rcases a4 with ⟨z1, -⟩ | ⟨z1, z2, z3, z4, z5, z6⟩
  · refine ⟨fun _ acc => ?_, fun z => absurd (Or.inl z1) z⟩
    exact z1 (sp.mpr (AccT_e.mp acc).2.1)
  · have hc2 : c = refs + rz U A q := by
      rw [hc, b1, b2, h9, z4]
      congr 1
      rw [show (σ (t + 9) n + r5 U A q k - σ (t + 9) n).toNat = (r5 U A q k).toNat by omega, rz_e (f := σ1 (t + 11)) k z6]
      unfold rz
      rw [show (nV U A q).toNat = k by omega]
    have n6 := hd.2.2.2.2.2.2.2
    refine ⟨fun z acc => ?_, fun z => ⟨AccT_e.mpr ⟨hd, sp.mp z1, by omega⟩, fun m r hm r0 r1 r2 => ?_⟩⟩
    · have := (AccT_e.mp acc).2.2
      omega
    · have nf := (TR.adm (σ := σ1) (τ := τ1) (t := t) (U := U) (A := A) (T := T) (n := n) (refs := refs) (pl := pl) ⟨⟨b1, b2, b3⟩, b4, b5, b6, b7, b8⟩ hn).mpr hd.2.2.2.2.2.2.1
      have tb := b4.keep (by omega) (s := srt U q) (d := kdv U q) (q := q) (m := m) (set := c) r0 r1 r2 nf
      have k8 : ∀ i, keepS σ1 t (two2 U (q + 1)) (srt U q) (kdv U q) q m c r (t + 8) i = iu (σ1 (t + 8)) (σ1 t 12 + 1) (σ1 t 15) i := by
        intro i; unfold keepS; simp only [fu_0a, fu_am, fu_s, Nat.reduceBEq]
      have k9 : ∀ i, keepS σ1 t (two2 U (q + 1)) (srt U q) (kdv U q) q m c r (t + 9) i = iu (σ1 (t + 9)) (σ1 t 12 + 1) (σ1 t 16) i := by
        intro i; unfold keepS; simp only [fu_0a, fu_am, fu_s, Nat.reduceBEq]
      have k11 : ∀ i, keepS σ1 t (two2 U (q + 1)) (srt U q) (kdv U q) q m c r (t + 11) i = σ1 (t + 11) i := by
        intro i; unfold keepS; simp only [fu_0a, fu_am, fu_s, Nat.reduceBEq]
      have kf : keepS σ1 t (two2 U (q + 1)) (srt U q) (kdv U q) q m c r t = iu (iu (σ1 t) 13 c) 12 (σ1 t 12 + 1) := by
        unfold keepS; simp only [fu_0a, fu_a0, fu_am, fu_s, Nat.reduceBEq]
      have k1 : keepS σ1 t (two2 U (q + 1)) (srt U q) (kdv U q) q m c r (t + 1) = iu (σ1 (t + 1)) (σ1 t 12) (two2 U (q + 1)) := by
        unfold keepS; simp only [fu_0a, fu_am, fu_s, Nat.reduceBEq]
      have k2 : keepS σ1 t (two2 U (q + 1)) (srt U q) (kdv U q) q m c r (t + 2) = iu (σ1 (t + 2)) (σ1 t 12) (srt U q) := by
        unfold keepS; simp only [fu_0a, fu_am, fu_s, Nat.reduceBEq]
      have k3 : keepS σ1 t (two2 U (q + 1)) (srt U q) (kdv U q) q m c r (t + 3) = iu (σ1 (t + 3)) (σ1 t 12) (kdv U q) := by
        unfold keepS; simp only [fu_0a, fu_am, fu_s, Nat.reduceBEq]
      have k4 : keepS σ1 t (two2 U (q + 1)) (srt U q) (kdv U q) q m c r (t + 4) = iu (σ1 (t + 4)) (σ1 t 12) q := by
        unfold keepS; simp only [fu_0a, fu_am, fu_s, Nat.reduceBEq]
      have k5 : keepS σ1 t (two2 U (q + 1)) (srt U q) (kdv U q) q m c r (t + 5) = iu (σ1 (t + 5)) (σ1 t 12) ((m + 7) / 8 * 8) := by
        unfold keepS; simp only [fu_0a, fu_am, fu_s, Nat.reduceBEq]
      have k6 : keepS σ1 t (two2 U (q + 1)) (srt U q) (kdv U q) q m c r (t + 6) = iu (σ1 (t + 6)) (σ1 t 12) 0 := by
        unfold keepS; simp only [fu_0a, fu_am, fu_s, Nat.reduceBEq]
      have e8 := congrFun h8 n
      have e9 := congrFun h9 n
      refine ⟨⟨?_, ?_, ?_⟩, tb, ?_, fun i hi => ?_, fun i j hij => ?_, fun i hi => ?_⟩
      · rw [kf, iu_s, b1]
      · rw [kf, iu_l (by decide), iu_s, hc2]
      · rw [kf, iu_l (by decide), iu_l (by decide)]; exact b3
      · rw [k8, k9, iu_n (by omega), iu_n (by omega)]; exact b5
      · rw [k8, k9]
        by_cases e : i = n + 1
        · rw [e, b1, iu_s, iu_s]; omega
        · rw [iu_n (by omega), iu_n (by omega)]
          have := b6 i (by omega)
          omega
      · rw [k8, k9, k8, k9]
        by_cases e : j = n + 1
        · by_cases e2 : i = n + 1
          · rw [e, e2]; omega
          · rw [e, b1, iu_s, iu_s, iu_n e2, iu_n e2]
            have := b7 i n (by omega)
            omega
        · rw [iu_n (by omega), iu_n (by omega), iu_n (by omega), iu_n (by omega)]
          exact b7 i j (by omega)
      · by_cases e : i = n
        · subst e
          unfold TI
          rw [iu_s, k1, k2, k3, k4, k5, k6, b1, iu_s, iu_s, iu_s, iu_s, iu_s, iu_s, k8, k8, k9, k9, b1, iu_s, iu_s, iu_n (by omega), iu_n (by omega)]
          refine ⟨⟨?_, rfl, rfl, rfl, hm, rfl⟩, by omega, ?_, fun j hj => ?_, fun j hj hs => ?_⟩
          · unfold numA; rw [iu_s]
          · rw [show (nV U A q).toNat = k by omega]; omega
          · rw [e8]; exact z5 j (by omega)
          · rw [k11, e9]; exact z6 j (by omega) hs
        · have b9 := b7 (i + 1) n (by omega)
          refine (b8 i (by omega)).cg (fun a ha => ?_) ?_ ?_ (fun x hx => rfl) (fun x hx => k11 x) (iu T n q) (iu_n e)
          · have : a = 0 ∨ a = 1 ∨ a = 2 ∨ a = 3 ∨ a = 4 ∨ a = 5 ∨ a = 6 := by omega
            rcases this with w | w | w | w | w | w | w <;> subst w
            · exact Or.inr rfl
            · exact Or.inl (by rw [k1, iu_n (by omega)])
            · exact Or.inl (by rw [k2, iu_n (by omega)])
            · exact Or.inl (by rw [k3, iu_n (by omega)])
            · exact Or.inl (by rw [k4, iu_n (by omega)])
            · exact Or.inl (by rw [k5, iu_n (by omega)])
            · exact Or.inl (by rw [k6, iu_n (by omega)])
          · rw [k8, k8, iu_n (by omega), iu_n (by omega)]; exact ⟨rfl, rfl⟩
          · rw [k9, k9, iu_n (by omega), iu_n (by omega)]; exact ⟨rfl, rfl⟩
end

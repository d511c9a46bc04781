theorem fu_l2 {α : Type} {f : Nat → α} {a b : Nat} {v : α} (h : (b == a) = false) : fu f a v b = f b := fu_n (ne_of_beq_false h)
theorem nxm_R {b : Int → Int} {len : Int} : ∀ (d : Nat) (q : Int), q + d = len → (q ≤ nxm b len q ∧ nxm b len q ≤ len) ∧ (nxm b len q = len ∨ b (nxm b len q) = 10)
  | 0, q, h => by rw [nxm_out (Or.inl (by omega))]; exact ⟨by omega, Or.inl (by omega)⟩
  | d + 1, q, h => by
    by_cases e : b q = 10
    · rw [nxm_out (Or.inr e)]; exact ⟨by omega, Or.inr e⟩
    · rw [nxm_in (by omega) e]
      have ih := nxm_R (b := b) (len := len) d (q + 1) (by omega)
      exact ⟨by omega, ih.2⟩
/-- all that holds while a picture is read -/
def SW (U : Int → Int) (len : Int) (st : Nat → Int → Int) : Prop := KW U (st 1) ∧ (0 ≤ len ∧ len ≤ 8000) ∧ (0 ≤ st 0 0 ∧ st 0 0 ≤ len) ∧ (0 ≤ st 0 1 ∧ st 0 1 ≤ st 0 0) ∧ (0 ≤ st 0 2 ∧ st 0 2 ≤ st 0 0) ∧ (0 ≤ st 0 3 ∧ st 0 3 ≤ st 0 0) ∧ (0 ≤ st 0 4 ∧ (2 * st 0 4 ≤ st 0 0 ∨ (2 * st 0 4 ≤ st 0 0 + 1 ∧ (st 0 0 = len ∨ U (st 0 0) = 10)))) ∧ (0 ≤ st 0 5 ∧ st 0 5 ≤ st 0 0) ∧ (st 0 6 = cntP (fun k => 0 ≤ st 1 k) 40) ∧ (0 ≤ st 0 7 ∧ st 0 7 ≤ 600) ∧ (0 ≤ st 0 8 ∧ st 0 8 ≤ 3000) ∧ (0 ≤ st 0 9 ∧ st 0 9 ≤ 100) ∧ (∀ k, 0 ≤ k ∧ k < 40 → st 1 k = -1 ∨ (0 ≤ st 1 k ∧ st 1 k + 4 + U (st 1 k + 3) ≤ st 0 0)) ∧ (∀ i, 0 ≤ i ∧ i < st 0 7 → (0 ≤ st 2 i ∧ st 2 i < st 0 0) ∧ TOK U (st 1) (st 2 i) ∧ vP U (st 1) (st 2 i) (nV U (st 1) (st 2 i)) ≤ st 0 0 ∧ tru U (st 1) (st 2 i) ∧ ¬ numA U (st 2) i = 0) ∧ (∀ i j, 0 ≤ i ∧ i < j ∧ j < st 0 7 → ¬ numA U (st 2) i = numA U (st 2) j)
theorem iu7 {α : Type} {f : Int → α} {a b : Int} {v : α} (h : (b == a) = false) : iu f a v b = f b := iu_l h
theorem SW.mk {U : Int → Int} {len : Int} {st : Nat → Int → Int} (h : SW U len st) (hq : st 0 0 < len) (h10 : U (st 0 0) = 10) : SW U len (mkS st) := by
  obtain ⟨w0, w1, w2, w3, w4, w5, w6, w7, w8, w9, w10, w11, w12, w13, w14⟩ := h
  unfold SW mkS
  simp only [fu_s, fu_l2, iu_s, iu_l, Int.reduceBEq, Nat.reduceBEq]
  refine ⟨w0, w1, by omega, by omega, by omega, by omega, by omega, by omega, w8, w9, w10, w11, fun k hk => ?_, fun i hi => ?_, w14⟩
  · have := w12 k hk; omega
  · obtain ⟨a, b, c, d⟩ := w13 i hi
    exact ⟨by omega, b, by omega, d⟩
theorem SW.hl {U : Int → Int} {len : Int} {st : Nat → Int → Int} (h : SW U len st) (hq : st 0 0 < len) (h10 : ¬ U (st 0 0) = 10) : SW U len (hlS U len st) := by
  obtain ⟨w0, w1, w2, w3, w4, w5, w6, w7, w8, w9, w10, w11, w12, w13, w14⟩ := h
  have hx := nxm_R (b := U) (len := len) (len - (st 0 0 + 1)).toNat (st 0 0 + 1) (by omega)
  unfold SW hlS
  simp only [fu_s, fu_l2, iu_s, iu_l, Int.reduceBEq, Nat.reduceBEq]
  have q6 : 2 * st 0 4 ≤ st 0 0 := by
    rcases w6.2 with e | ⟨e, e2 | e2⟩
    · exact e
    · omega
    · exact absurd e2 h10
  refine ⟨w0, w1, by omega, by omega, by omega, by omega, ⟨by omega, Or.inr ⟨by omega, hx.2⟩⟩, by omega, w8, w9, w10, w11, fun k hk => ?_, fun i hi => ?_, w14⟩
  · have := w12 k hk; omega
  · obtain ⟨a, b, c, d⟩ := w13 i hi
    exact ⟨by omega, b, by omega, d⟩
theorem AccT.en {U : Int → Int} {len : Int} {A T : Int → Int} {n refs q : Int} (hK : KW U A) (h : AccT U len A T n refs q) : q + 3 ≤ vP U A q (nV U A q) := by
  have t := h.2.2.1
  have := t.nv hK
  have h1 := t.vb hK (nV U A q).toNat (by omega)
  rw [show (((nV U A q).toNat : Nat) : Int) = nV U A q by omega] at h1
  have h3 : 3 ≤ hdL U q := by
    unfold hdL
    repeat' split
    all_goals omega
  omega
theorem Acc.en {U : Int → Int} {len : Int} {st : Nat → Int → Int} {q : Int} (hK : KW U (st 1)) (h : Acc U len st q) : q + 3 ≤ enE U st q ∧ enE U st q ≤ len := by
  unfold enE
  have hu := hK.1 (q + 3)
  rcases h with ⟨e, h⟩ | ⟨e, h⟩ | ⟨e, h⟩
  · rw [if_pos e]; have := h.2.2.2.2.2.1; omega
  · rw [if_neg (by omega), if_pos e]; have := h.1; omega
  · rw [if_neg (by omega), if_neg (by omega)]
    exact ⟨h.en hK, h.2.2.2.1⟩
theorem KW.add {U A : Int → Int} {len q : Int} (h : KW U A) (hl : len ≤ 8000) (hq : 0 ≤ q) (hA : ∀ k, 0 ≤ k ∧ k < 40 → A k = -1 ∨ (0 ≤ A k ∧ A k < q)) (a : AccK U len A q) : KW U (iu A (U (q + 1)) q) := by
  obtain ⟨a1, a2, a3, a4, a5, a6, a7, a8⟩ := a
  refine ⟨h.1, fun k hk hk2 => ?_⟩
  by_cases e : k = U (q + 1)
  · rw [e, iu_s]
    refine ⟨by omega, ?_, a5, a8⟩
    rcases a4 with z | z
    · exact Or.inl z
    · right
      have hu := h.1 (q + 2)
      have := hA (U (q + 2)) (by omega)
      rw [iu_n (fun w => by rw [w] at z; omega)]
      exact ⟨by omega, z.2, by omega⟩
  · rw [iu_n e] at hk2 ⊢
    obtain ⟨b1, b2, b3, b4⟩ := h.2 k hk hk2
    refine ⟨b1, ?_, b3, b4⟩
    rcases b2 with z | z
    · exact Or.inl z
    · right
      rw [iu_n (fun w => by rw [w] at z; omega)]
      exact z
theorem AccK.ag {U A : Int → Int} {len q : Int} (a : AccK U len A q) (k : Int) (_ : 0 ≤ k ∧ k < 40) (h : 0 ≤ A k) : iu A (U (q + 1)) q k = A k := iu_n (fun e => by have := a.2.2.1; rw [← e] at this; omega)
theorem SW.tkW {U : Int → Int} {len : Int} {st : Nat → Int → Int} (h : SW U len st) (h10 : ¬ U (st 0 0) = 10) (a : Acc U len st (st 0 0)) : SW U len (tk U st (st 0 0)) := by
  obtain ⟨w0, w1, w2, w3, w4, w5, w6, w7, w8, w9, w10, w11, w12, w13, w14⟩ := h
  have he := a.en w0
  have q6 : 2 * st 0 4 ≤ st 0 0 := by
    rcases w6.2 with e | ⟨e, e2 | e2⟩
    · exact e
    · omega
    · exact absurd e2 h10
  unfold tk
  rcases a with ⟨e, a⟩ | ⟨e, a⟩ | ⟨e, a⟩
  · rw [if_pos e]
    unfold SW tkK scR
    simp only [fu_s, fu_l2, iu_s, iu_l, Int.reduceBEq, Nat.reduceBEq]
    have ag := a.ag
    have hu := w0.1 (st 0 0 + 1)
    have c8 : cntP (fun k => 0 ≤ iu (st 1) (U (st 0 0 + 1)) (st 0 0) k) 40 = cntP (fun k => 0 ≤ st 1 k) 40 + 1 := by
      refine cntP_in (v := U (st 0 0 + 1)) ⟨hu.1, a.2.1⟩ (fun x _ => ?_) (fun z => by have := a.2.2.1; omega)
      by_cases ex : x = U (st 0 0 + 1)
      · rw [ex, iu_s]; exact ⟨fun _ => Or.inr rfl, fun _ => w2.1⟩
      · rw [iu_n ex]; exact ⟨Or.inl, fun z => z.elim id (fun z => absurd z ex)⟩
    refine ⟨w0.add w1.2 w2.1 (fun k hk => (w12 k hk).imp id (fun z => ⟨z.1, by have := w0.1 (st 1 k + 3); omega⟩)) a, w1, by omega, by omega, by omega, by omega, by omega, by omega, by rw [c8, w8], w9, w10, w11, fun k hk => ?_, fun i hi => ?_, w14⟩
    · by_cases ek : k = U (st 0 0 + 1)
      · rw [ek, iu_s]
        have en : enE U st (st 0 0) = st 0 0 + 4 + U (st 0 0 + 3) := by
          unfold enE
          rw [if_pos e]
        omega
      · rw [iu_n ek]; have := w12 k hk; omega
    · obtain ⟨b1, b2, b3, b4, b5⟩ := w13 i hi
      refine ⟨by omega, b2.x ag, ?_, (rz_x w0 ag b2).2.2.mpr b4, b5⟩
      rw [(vP_x w0 ag b2).1, (nV_x w0 ag b2).1]
      omega
  · rw [if_neg (by omega), if_pos e]
    unfold SW tkR scR
    simp only [fu_s, fu_l2, iu_s, iu_l, Int.reduceBEq, Nat.reduceBEq]
    have a5 := a.2.2.2.2
    refine ⟨w0, w1, by omega, by omega, by omega, by omega, by omega, by omega, w8, w9, w10, by omega, fun k hk => ?_, fun i hi => ?_, w14⟩
    · have := w12 k hk; omega
    · obtain ⟨b1, b2, b3, b4, b5⟩ := w13 i hi
      exact ⟨by omega, b2, by omega, b4, b5⟩
  · rw [if_neg (by omega), if_neg (by omega)]
    have en : enE U st (st 0 0) = vP U (st 1) (st 0 0) (nV U (st 1) (st 0 0)) := by
      unfold enE
      rw [if_neg (by omega), if_neg (by omega)]
    unfold SW tkT scR
    simp only [fu_s, fu_l2, iu_s, iu_l, Int.reduceBEq, Nat.reduceBEq]
    obtain ⟨a1, a2, a3, a4, a5, a6, a7, a8, a9, a10⟩ := a
    have hz := cntZ_R (fun k => decide (sA U (st 1) (st 0 0) k = 5 ∧ ¬ vZ U (st 1) (st 0 0) k = 0)) (nV U (st 1) (st 0 0)).toNat
    have hz2 : 0 ≤ rz U (st 1) (st 0 0) := hz.1
    have nu : ∀ i, i < st 0 7 → numA U (iu (st 2) (st 0 7) (st 0 0)) i = numA U (st 2) i := by
      intro i hi
      unfold numA
      rw [iu_n (by omega)]
    have nn : numA U (iu (st 2) (st 0 7) (st 0 0)) (st 0 7) = two2 U (st 0 0 + 1) := by
      unfold numA
      rw [iu_s]
    refine ⟨w0, w1, by omega, by omega, by omega, by omega, by omega, by omega, w8, by omega, by omega, w11, fun k hk => ?_, fun i hi => ?_, fun i j hij => ?_⟩
    · have := w12 k hk; omega
    · by_cases ei : i = st 0 7
      · rw [ei, iu_s, nn]
        exact ⟨by omega, a3, by omega, a8, a6⟩
      · rw [iu_n ei, nu i (by omega)]
        obtain ⟨b1, b2, b3, b4, b5⟩ := w13 i (by omega)
        exact ⟨by omega, b2, by omega, b4, b5⟩
    · rw [nu i (by omega)]
      by_cases ej : j = st 0 7
      · rw [ej, nn]
        exact fidx_no _ _ _ a7 i (by omega)
      · rw [nu j (by omega)]
        exact w14 i j (by omega)
theorem SW.stpW {U : Int → Int} {len : Int} {st : Nat → Int → Int} (h : SW U len st) : SW U len (stp U len st) := by
  unfold stp
  by_cases e : len ≤ st 0 0
  · rw [if_pos e]; exact h
  · rw [if_neg e]
    by_cases e2 : U (st 0 0) = 10
    · rw [if_pos e2]; exact h.mk (by omega) e2
    · rw [if_neg e2]
      by_cases e3 : Acc U len st (st 0 0)
      · rw [if_pos (bP_e.mpr e3)]; exact h.tkW e2 e3
      · rw [if_neg (by rw [bP_e]; exact e3)]; exact h.hl (by omega) e2
theorem SW.st0W {U : Int → Int} {len : Int} (hU : ∀ x, 0 ≤ U x ∧ U x < 256) (hl : 0 ≤ len ∧ len ≤ 8000) : SW U len st0 := by
  unfold SW
  have a : ∀ i, st0 0 i = 0 := fun _ => rfl
  have b : ∀ i, st0 1 i = -1 := fun _ => rfl
  simp only [a, b]
  exact ⟨⟨hU, fun k _ hk => by rw [b] at hk; omega⟩, hl, by omega, by omega, by omega, by omega, by omega, by omega, (cntP_0 _ (fun x _ z => by omega)).symm, by omega, by omega, by omega, fun k hk => Or.inl trivial, fun i hi => by omega, fun i j hi => by omega⟩
theorem SW.itSW {U : Int → Int} {len : Int} (hU : ∀ x, 0 ≤ U x ∧ U x < 256) (hl : 0 ≤ len ∧ len ≤ 8000) : ∀ m : Nat, SW U len (itS U len m)
  | 0 => SW.st0W hU hl
  | m + 1 => (SW.itSW hU hl m).stpW

/-! ===== things: pure ===== -/
def nV (U A : Int → Int) (q : Int) : Int := if U q = 84 then fL U A (ch U A (U (q + 3))) else if U q = 82 then two2 U (q + 4) else 1
def sA (U A : Int → Int) (q k : Int) : Int := if U q = 84 then sL U A (ch U A (U (q + 3))) k else if U q = 82 then U (q + 3) else 5
def vP (U A : Int → Int) (q k : Int) : Int := if U q = 83 then q + 3 + 2 * k else if U q = 82 then q + 6 + k * wd (U (q + 3)) else q + 4 + sumZ (fun j => wd (sA U A q j)) k.toNat
def vS (U : Int → Int) (s f : Int) : Int := if s = 5 ∨ s = 4 then 0 else if 127 < U f then -1 else 0
def vZ (U A : Int → Int) (q k : Int) : Int := beZ U (vP U A q k) (wd (sA U A q k)).toNat (vS U (sA U A q k) (vP U A q k))
def rz (U A : Int → Int) (q : Int) : Int := cntZ (fun k => decide (sA U A q k = 5 ∧ ¬ vZ U A q k = 0)) (nV U A q).toNat
def r5 (U A : Int → Int) (q : Int) (K : Nat) : Int := cntZ (fun k => decide (sA U A q k = 5)) K
def tru (U A : Int → Int) (q : Int) : Prop := ∀ k, 0 ≤ k ∧ k < nV U A q → sA U A q k = 4 → vZ U A q k = 0 ∨ vZ U A q k = 1
def TOK (U A : Int → Int) (q : Int) : Prop := (U q = 84 ∧ (0 ≤ U (q + 3) ∧ U (q + 3) < 40) ∧ 0 ≤ A (U (q + 3))) ∨ (U q = 82 ∧ (0 ≤ U (q + 3) ∧ U (q + 3) ≤ 5) ∧ two2 U (q + 4) ≤ 1000) ∨ U q = 83
def hdL (U : Int → Int) (q : Int) : Int := if U q = 84 then 4 else if U q = 82 then 6 else 3
section
variable {U A : Int → Int} {q : Int}
theorem two2_R (h : ∀ x, 0 ≤ U x ∧ U x < 256) (x : Int) : 0 ≤ two2 U x ∧ two2 U x < 65536 := by
  have h1 := h x
  have h2 := h (x + 1)
  unfold two2
  omega
theorem nV_84 (e : U q = 84) : nV U A q = fL U A (ch U A (U (q + 3))) := by unfold nV; rw [if_pos e]
theorem nV_82 (e : U q = 82) : nV U A q = two2 U (q + 4) := by unfold nV; rw [if_neg (by omega), if_pos e]
theorem nV_83 (e : U q = 83) : nV U A q = 1 := by unfold nV; rw [if_neg (by omega), if_neg (by omega)]
theorem sA_84 (e : U q = 84) {k : Int} : sA U A q k = sL U A (ch U A (U (q + 3))) k := by unfold sA; rw [if_pos e]
theorem sA_82 (e : U q = 82) {k : Int} : sA U A q k = U (q + 3) := by unfold sA; rw [if_neg (by omega), if_pos e]
theorem sA_83 (e : U q = 83) {k : Int} : sA U A q k = 5 := by unfold sA; rw [if_neg (by omega), if_neg (by omega)]
theorem vP_84 (e : U q = 84) {k : Int} : vP U A q k = q + 4 + sumZ (fun j => wd (sA U A q j)) k.toNat := by unfold vP; rw [if_neg (by omega), if_neg (by omega)]
theorem vP_82 (e : U q = 82) {k : Int} : vP U A q k = q + 6 + k * wd (U (q + 3)) := by unfold vP; rw [if_neg (by omega), if_pos e]
theorem vP_83 (e : U q = 83) {k : Int} : vP U A q k = q + 3 + 2 * k := by unfold vP; rw [if_pos e]
theorem TOK.nv (h : KW U A) (t : TOK U A q) : 0 ≤ nV U A q ∧ nV U A q ≤ 1000 := by
  rcases t with ⟨e, t1, t2⟩ | ⟨e, t1, t2⟩ | e
  · rw [nV_84 e]
    have := fL_b h (Or.inr ⟨t1, t2⟩)
    omega
  · rw [nV_82 e]
    have := two2_R h.1 (q + 4)
    omega
  · rw [nV_83 e]; omega
theorem TOK.sa (h : KW U A) (t : TOK U A q) {k : Int} (hk : 0 ≤ k ∧ k < nV U A q) : 0 ≤ sA U A q k ∧ sA U A q k < 6 := by
  rcases t with ⟨e, t1, t2⟩ | ⟨e, t1, t2⟩ | e
  · rw [nV_84 e] at hk
    rw [sA_84 e]
    exact sL_R h _ (ch_in h _ (Or.inr ⟨t1, t2⟩)) k hk
  · rw [sA_82 e]; omega
  · rw [sA_83 e]; omega
theorem TOK.wdR (h : KW U A) (t : TOK U A q) {k : Int} (hk : 0 ≤ k ∧ k < nV U A q) : 1 ≤ wd (sA U A q k) ∧ wd (sA U A q k) ≤ 8 := ⟨wd_1le (t.sa h hk), (wd_R _).2⟩
theorem TOK.v0 (t : TOK U A q) : vP U A q 0 = q + hdL U q := by
  unfold hdL
  rcases t with ⟨e, -⟩ | ⟨e, -⟩ | e
  · rw [vP_84 e, if_pos e]; show q + 4 + 0 = _; omega
  · rw [vP_82 e, if_neg (by omega), if_pos e]; omega
  · rw [vP_83 e, if_neg (by omega), if_neg (by omega)]; omega
theorem TOK.vs (t : TOK U A q) {k : Int} (hk : 0 ≤ k) : vP U A q (k + 1) = vP U A q k + wd (sA U A q k) := by
  rcases t with ⟨e, -⟩ | ⟨e, -⟩ | e
  · rw [vP_84 e, vP_84 e, show (k + 1).toNat = k.toNat + 1 by omega]
    show q + 4 + (sumZ _ k.toNat + wd (sA U A q (k.toNat : Int))) = _
    rw [show ((k.toNat : Nat) : Int) = k by omega]
    omega
  · rw [vP_82 e, vP_82 e, sA_82 e, Int.add_mul]; omega
  · rw [vP_83 e, vP_83 e, sA_83 e, wd_5]; omega
/-- every value has a byte, every ref two -/
theorem TOK.vb (h : KW U A) (t : TOK U A q) : ∀ k : Nat, k ≤ nV U A q → q + hdL U q + k ≤ vP U A q k ∧ q + hdL U q + 2 * r5 U A q k ≤ vP U A q k ∧ vP U A q k ≤ q + hdL U q + 8 * k
  | 0, _ => by
    have := t.v0
    show q + hdL U q + ((0 : Nat) : Int) ≤ vP U A q ((0 : Nat) : Int) ∧ q + hdL U q + 2 * 0 ≤ vP U A q ((0 : Nat) : Int) ∧ vP U A q ((0 : Nat) : Int) ≤ _
    rw [show ((0 : Nat) : Int) = 0 from rfl, this]
    omega
  | k + 1, hk => by
    have ih := TOK.vb h t k (by omega)
    have hw := t.wdR h (k := k) (by omega)
    have hs := t.vs (k := (k : Int)) (by omega)
    have e : ((k + 1 : Nat) : Int) = (k : Int) + 1 := by omega
    rw [e, hs]
    have hr : r5 U A q (k + 1) = r5 U A q k + (if decide (sA U A q k = 5) = true then 1 else 0) := rfl
    by_cases g : sA U A q k = 5
    · rw [if_pos (by simp [g])] at hr
      rw [g, wd_5] at hw ⊢
      omega
    · rw [if_neg (by simp [g])] at hr
      omega
theorem TOK.vm (h : KW U A) (t : TOK U A q) {a : Int} (ha : 0 ≤ a) : ∀ d : Nat, a + d ≤ nV U A q → vP U A q a + d ≤ vP U A q (a + d)
  | 0, _ => by rw [show a + ((0 : Nat) : Int) = a by omega]; omega
  | d + 1, hd => by
    have ih := TOK.vm h t ha d (by omega)
    have hw := t.wdR h (k := a + d) (by omega)
    have hs := t.vs (k := a + d) (by omega)
    rw [show a + ((d + 1 : Nat) : Int) = a + d + 1 by omega, hs]
    omega
theorem TOK.ve (h : KW U A) (t : TOK U A q) {k : Int} (hk : 0 ≤ k ∧ k < nV U A q) : q + 3 ≤ vP U A q k ∧ vP U A q k + wd (sA U A q k) ≤ vP U A q (nV U A q) := by
  have h1 := t.vb h k.toNat (by omega)
  rw [show ((k.toNat : Nat) : Int) = k by omega] at h1
  have h2 := t.vm h (a := k + 1) (by omega) (nV U A q - (k + 1)).toNat (by omega)
  rw [show k + 1 + (((nV U A q - (k + 1)).toNat : Nat) : Int) = nV U A q by omega, t.vs hk.1] at h2
  have h3 : 3 ≤ hdL U q := by
    unfold hdL
    repeat' split
    all_goals omega
  omega
theorem nV_x {B : Int → Int} (h : KW U A) (e : ∀ k, 0 ≤ k ∧ k < 40 → 0 ≤ A k → B k = A k) (t : TOK U A q) : nV U B q = nV U A q ∧ sA U B q = sA U A q := by
  rcases t with ⟨e2, t1, t2⟩ | ⟨e2, t1, t2⟩ | e2
  · obtain ⟨c1, c2⟩ := ch_x h e (k := U (q + 3)) (Or.inr ⟨t1, t2⟩)
    refine ⟨?_, ?_⟩
    · rw [nV_84 e2, nV_84 e2, c1, fL_x _ c2]
    · funext k
      rw [sA_84 e2, sA_84 e2, c1, sL_x _ c2]
  · exact ⟨by rw [nV_82 e2, nV_82 e2], by funext k; rw [sA_82 e2, sA_82 e2]⟩
  · exact ⟨by rw [nV_83 e2, nV_83 e2], by funext k; rw [sA_83 e2, sA_83 e2]⟩
theorem vP_x {B : Int → Int} (h : KW U A) (e : ∀ k, 0 ≤ k ∧ k < 40 → 0 ≤ A k → B k = A k) (t : TOK U A q) : vP U B q = vP U A q ∧ vZ U B q = vZ U A q := by
  have h1 := (nV_x h e t).2
  have h2 : vP U B q = vP U A q := by
    funext k
    unfold vP
    rw [h1]
  refine ⟨h2, ?_⟩
  funext k
  unfold vZ
  rw [h1, h2]
theorem rz_x {B : Int → Int} (h : KW U A) (e : ∀ k, 0 ≤ k ∧ k < 40 → 0 ≤ A k → B k = A k) (t : TOK U A q) : rz U B q = rz U A q ∧ r5 U B q = r5 U A q ∧ (tru U B q ↔ tru U A q) := by
  have h1 := nV_x h e t
  have h2 := vP_x h e t
  unfold rz r5 tru
  rw [h1.1, h1.2, h2.2]
  exact ⟨rfl, rfl, Iff.rfl⟩
theorem TOK.x {B : Int → Int} (e : ∀ k, 0 ≤ k ∧ k < 40 → 0 ≤ A k → B k = A k) (t : TOK U A q) : TOK U B q := by
  rcases t with ⟨e2, t1, t2⟩ | t | t
  · exact Or.inl ⟨e2, t1, by rw [e _ t1 t2]; exact t2⟩
  · exact Or.inr (Or.inl t)
  · exact Or.inr (Or.inr t)
end
/-- the state of reading: 0 counts, 1 kinds, 2 things, 3 roots, 4 and 5 holes -/
def isE (U : Int → Int) (len x : Int) : Prop := x = len ∨ (x < len ∧ U x = 10)
def numA (U T : Int → Int) (i : Int) : Int := two2 U (T i + 1)
def fnd (U T : Int → Int) (n x : Int) : Int := fidx (numA U T) x n.toNat
def AccK (U : Int → Int) (len : Int) (A : Int → Int) (q : Int) : Prop := q + 4 ≤ len ∧ U (q + 1) < 40 ∧ A (U (q + 1)) < 0 ∧ (U (q + 2) = 255 ∨ (U (q + 2) < 40 ∧ 0 ≤ A (U (q + 2)))) ∧ U (q + 3) ≤ 12 ∧ q + 4 + U (q + 3) ≤ len ∧ isE U len (q + 4 + U (q + 3)) ∧ ∀ i, 0 ≤ i ∧ i < U (q + 3) → U (q + 4 + i) ≤ 5
def AccR (U : Int → Int) (len roots q : Int) : Prop := q + 4 ≤ len ∧ isE U len (q + 4) ∧ U (q + 1) ≤ 9 ∧ ¬ two2 U (q + 2) = 0 ∧ roots < 100
def AccT (U : Int → Int) (len : Int) (A T : Int → Int) (n refs q : Int) : Prop := q + 4 ≤ len ∧ (U q = 82 → q + 6 ≤ len) ∧ TOK U A q ∧ vP U A q (nV U A q) ≤ len ∧ isE U len (vP U A q (nV U A q)) ∧ ¬ two2 U (q + 1) = 0 ∧ fnd U T n (two2 U (q + 1)) = -1 ∧ tru U A q ∧ n < 600 ∧ refs + rz U A q ≤ 3000
def Acc (U : Int → Int) (len : Int) (st : Nat → Int → Int) (q : Int) : Prop := (U q = 75 ∧ AccK U len (st 1) q) ∨ (U q = 65 ∧ AccR U len (st 0 9) q) ∨ ((U q = 84 ∨ U q = 82 ∨ U q = 83) ∧ AccT U len (st 1) (st 2) (st 0 7) (st 0 8) q)
def enE (U : Int → Int) (st : Nat → Int → Int) (q : Int) : Int := if U q = 75 then q + 4 + U (q + 3) else if U q = 65 then q + 4 else vP U (st 1) q (nV U (st 1) q)
/-- a record more that ends at e -/
def scR (s : Int → Int) (e : Int) : Int → Int := iu (iu (iu s 1 (s 1 + 1)) 2 (s 2 + (e - s 0))) 0 e
def tkK (U : Int → Int) (st : Nat → Int → Int) (q : Int) : Nat → Int → Int := fu (fu st 1 (iu (st 1) (U (q + 1)) q)) 0 (iu (scR (st 0) (enE U st q)) 6 (st 0 6 + 1))
def tkR (U : Int → Int) (st : Nat → Int → Int) (q : Int) : Nat → Int → Int := fu (fu st 3 (iu (st 3) (st 0 9) (two2 U (q + 2)))) 0 (iu (scR (st 0) (enE U st q)) 9 (st 0 9 + 1))
def tkT (U : Int → Int) (st : Nat → Int → Int) (q : Int) : Nat → Int → Int := fu (fu st 2 (iu (st 2) (st 0 7) q)) 0 (iu (iu (scR (st 0) (enE U st q)) 7 (st 0 7 + 1)) 8 (st 0 8 + rz U (st 1) q))
def tk (U : Int → Int) (st : Nat → Int → Int) (q : Int) : Nat → Int → Int := if U q = 75 then tkK U st q else if U q = 65 then tkR U st q else tkT U st q
def mkS (st : Nat → Int → Int) : Nat → Int → Int := fu st 0 (iu (iu (st 0) 3 (st 0 3 + 1)) 0 (st 0 0 + 1))
def hlS (U : Int → Int) (len : Int) (st : Nat → Int → Int) : Nat → Int → Int := fu (fu (fu st 4 (iu (st 4) (st 0 4) (st 0 0))) 5 (iu (st 5) (st 0 4) (nxm U len (st 0 0 + 1) - st 0 0))) 0 (iu (iu (iu (st 0) 4 (st 0 4 + 1)) 5 (st 0 5 + (nxm U len (st 0 0 + 1) - st 0 0))) 0 (nxm U len (st 0 0 + 1)))
noncomputable def stp (U : Int → Int) (len : Int) (st : Nat → Int → Int) : Nat → Int → Int := if len ≤ st 0 0 then st else if U (st 0 0) = 10 then mkS st else if bP (Acc U len st (st 0 0)) = true then tk U st (st 0 0) else hlS U len st
def st0 : Nat → Int → Int := fun a _ => if a = 1 then -1 else 0
noncomputable def itS (U : Int → Int) (len : Int) : Nat → Nat → Int → Int
  | 0 => st0
  | m + 1 => stp U len (itS U len m)
theorem itS_fix {U : Int → Int} {len : Int} {a : Nat} (h : len ≤ itS U len a 0 0) : ∀ d : Nat, itS U len (a + d) = itS U len a
  | 0 => rfl
  | d + 1 => by
    show stp U len (itS U len (a + d)) = _
    rw [itS_fix h d]
    unfold stp
    rw [if_pos h]
/-- reading ends in one way -/
theorem itS_u {U : Int → Int} {len : Int} {a b : Nat} (h : len ≤ itS U len a 0 0) (g : len ≤ itS U len b 0 0) : itS U len a = itS U len b := by
  by_cases e : a ≤ b
  · rw [show b = a + (b - a) by omega, itS_fix h]
  · rw [show a = b + (a - b) by omega, itS_fix g]

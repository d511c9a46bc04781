/-! ===== kinds: pure; U the bytes, A where each kind stands ===== -/
def two2 (U : Int → Int) (q : Int) : Int := U q * 256 + U (q + 1)
def chn (U A : Int → Int) : Nat → Int → List Int
  | 0, _ => []
  | f + 1, k => if k = 255 then [] else k :: chn U A f (U (A k + 2))
/-- a kind and all above it -/
def ch (U A : Int → Int) (k : Int) : List Int := chn U A (8000 + 1) k
def fL (U A : Int → Int) : List Int → Int
  | [] => 0
  | k :: l => U (A k + 3) + fL U A l
def sL (U A : Int → Int) : List Int → Int → Int
  | [], _ => -1
  | k :: l, j => if fL U A l ≤ j then U (A k + 4 + (j - fL U A l)) else sL U A l j
def wL (U A : Int → Int) (l : List Int) : Int := sumZ (fun j => wd (sL U A l j)) (fL U A l).toNat
/-- the kinds read so far -/
def KW (U A : Int → Int) : Prop := (∀ x, 0 ≤ U x ∧ U x < 256) ∧ ∀ k, 0 ≤ k ∧ k < 40 → 0 ≤ A k → A k < 8000 ∧ (U (A k + 2) = 255 ∨ ((0 ≤ U (A k + 2) ∧ U (A k + 2) < 40) ∧ 0 ≤ A (U (A k + 2)) ∧ A (U (A k + 2)) < A k)) ∧ U (A k + 3) ≤ 12 ∧ ∀ i, 0 ≤ i ∧ i < U (A k + 3) → U (A k + 4 + i) ≤ 5
/-- known, or no parent -/
def kn5 (A : Int → Int) (k : Int) : Prop := k = 255 ∨ ((0 ≤ k ∧ k < 40) ∧ 0 ≤ A k)
section
variable {U A : Int → Int}
theorem KW.par (h : KW U A) {k : Int} (hk : 0 ≤ k ∧ k < 40) (ha : 0 ≤ A k) : kn5 A (U (A k + 2)) := by
  rcases (h.2 k hk ha).2.1 with e | e
  · exact Or.inl e
  · exact Or.inr ⟨e.1, e.2.1⟩
theorem chn_st (h : KW U A) : ∀ (f g : Nat) (k : Int), kn5 A k → (k = 255 ∨ (A k < f ∧ A k < g)) → 0 < f → 0 < g → chn U A f k = chn U A g k
  | 0, _, _, _, _, hf, _ => by omega
  | _ + 1, 0, _, _, _, _, hg => by omega
  | f + 1, g + 1, k, hk, hd, _, _ => by
    by_cases e : k = 255
    · simp only [chn, if_pos e]
    · simp only [chn, if_neg e]
      congr 1
      rcases hk with hk | hk
      · exact absurd hk e
      · have hp := h.par hk.1 hk.2
        have hd2 := h.2 k hk.1 hk.2
        by_cases e2 : U (A k + 2) = 255
        · cases f with
          | zero =>
            cases g with
            | zero => rfl
            | succ g => simp only [chn, if_pos e2]
          | succ f =>
            cases g with
            | zero => simp only [chn, if_pos e2]
            | succ g => simp only [chn, if_pos e2]
        · rcases hd2.2.1 with z | z
          · exact absurd z e2
          · rcases hd with w | w
            · exact absurd w e
            · exact chn_st h f g _ hp (Or.inr (by omega)) (by omega) (by omega)
theorem chn_s {f : Nat} {k : Int} : chn U A (f + 1) k = (if k = 255 then [] else k :: chn U A f (U (A k + 2))) := rfl
theorem ch_255 : ch U A 255 = [] := rfl
theorem ch_k (h : KW U A) {k : Int} (hk : 0 ≤ k ∧ k < 40) (ha : 0 ≤ A k) : ch U A k = k :: ch U A (U (A k + 2)) := by
  unfold ch
  rw [chn_s, if_neg (by omega)]
  have h2 := h.2 k hk ha
  exact congrArg (List.cons k) (chn_st h 8000 (8000 + 1) _ (h.par hk ha) (by omega) (by omega) (by omega))
/-- a strong induction along the parents -/
theorem KW.ind (h : KW U A) {P : Int → Prop} (h0 : P 255) (h1 : ∀ k, 0 ≤ k ∧ k < 40 → 0 ≤ A k → P (U (A k + 2)) → P k) : ∀ k, kn5 A k → P k := by
  have key : ∀ (n : Nat) (k : Int), kn5 A k → (k = 255 ∨ A k < n) → P k := by
    intro n
    induction n with
    | zero =>
      intro k hk hd
      rcases hk with e | e
      · rw [e]; exact h0
      · rcases hd with w | w
        · rw [w]; exact h0
        · omega
    | succ n ih =>
      intro k hk hd
      rcases hk with e | e
      · rw [e]; exact h0
      · refine h1 k e.1 e.2 (ih _ (h.par e.1 e.2) ?_)
        rcases (h.2 k e.1 e.2).2.1 with w | w
        · exact Or.inl w
        · rcases hd with z | z
          · omega
          · exact Or.inr (by omega)
  intro k hk
  rcases hk with e | e
  · rw [e]; exact h0
  · exact key 8000 k (Or.inr e) (Or.inr (h.2 k e.1 e.2).1)
theorem ch_in (h : KW U A) : ∀ k, kn5 A k → ∀ x ∈ ch U A k, (0 ≤ x ∧ x < 40) ∧ 0 ≤ A x :=
  h.ind (P := fun k => ∀ x ∈ ch U A k, (0 ≤ x ∧ x < 40) ∧ 0 ≤ A x) (fun x hx => by rw [ch_255] at hx; exact absurd hx List.not_mem_nil) (fun k hk ha ih x hx => by
    rw [ch_k h hk ha] at hx
    rcases List.mem_cons.mp hx with e | e
    · rw [e]; exact ⟨hk, ha⟩
    · exact ih x e)
theorem ch_lt (h : KW U A) : ∀ k, kn5 A k → ∀ m, (k = 255 ∨ A k < m) → ∀ x ∈ ch U A k, A x < m :=
  h.ind (P := fun k => ∀ m, (k = 255 ∨ A k < m) → ∀ x ∈ ch U A k, A x < m) (fun m _ x hx => by rw [ch_255] at hx; exact absurd hx List.not_mem_nil) (fun k hk ha ih m hm x hx => by
    rw [ch_k h hk ha] at hx
    have hm2 : A k < m := by rcases hm with e | e <;> omega
    rcases List.mem_cons.mp hx with e | e
    · rw [e]; exact hm2
    · refine ih m ?_ x e
      rcases (h.2 k hk ha).2.1 with w | w
      · exact Or.inl w
      · exact Or.inr (by omega))
theorem ch_nd (h : KW U A) : ∀ k, kn5 A k → (ch U A k).Nodup :=
  h.ind (P := fun k => (ch U A k).Nodup) (by rw [ch_255]; exact List.nodup_nil) (fun k hk ha ih => by
    rw [ch_k h hk ha]
    refine List.nodup_cons.mpr ⟨fun hx => ?_, ih⟩
    have := ch_lt h _ (h.par hk ha) (A k) (by
      rcases (h.2 k hk ha).2.1 with w | w
      · exact Or.inl w
      · exact Or.inr (by omega)) k hx
    omega)
theorem nd_len {l : List Int} {n : Nat} (h : l.Nodup) (hr : ∀ x ∈ l, 0 ≤ x ∧ x < n) : l.length ≤ n := by
  refine pig n l.length (fun p => l.getD p.toNat 0) (fun p hp => ?_) (fun p q hp => ?_)
  · have : p < l.length := by omega
    show 0 ≤ l.getD ((p : Int).toNat) 0 ∧ l.getD ((p : Int).toNat) 0 < n
    rw [Int.toNat_natCast, List.getD_eq_getElem?_getD, List.getElem?_eq_getElem this]
    exact hr _ (List.getElem_mem this)
  · have h1 : p < l.length := by omega
    have h2 : q < l.length := by omega
    show ¬ l.getD ((p : Int).toNat) 0 = l.getD ((q : Int).toNat) 0
    rw [Int.toNat_natCast, Int.toNat_natCast, List.getD_eq_getElem?_getD, List.getD_eq_getElem?_getD, List.getElem?_eq_getElem h1, List.getElem?_eq_getElem h2]
    exact fun e => List.pairwise_iff_getElem.mp h p q h1 h2 (by omega) e
theorem ch_len (h : KW U A) {k : Int} (hk : kn5 A k) : (ch U A k).length ≤ 40 := nd_len (ch_nd h k hk) (fun x hx => (ch_in h k hk x hx).1)
theorem fL_R (h : KW U A) : ∀ l : List Int, (∀ x ∈ l, (0 ≤ x ∧ x < 40) ∧ 0 ≤ A x) → 0 ≤ fL U A l ∧ fL U A l ≤ 12 * l.length
  | [], _ => by simp [fL]
  | k :: l, hl => by
    have ih := fL_R h l (fun x hx => hl x (List.mem_cons_of_mem _ hx))
    have hk := hl k List.mem_cons_self
    have h2 := (h.2 k hk.1 hk.2).2.2.1
    have h3 := h.1 (A k + 3)
    show 0 ≤ U (A k + 3) + fL U A l ∧ U (A k + 3) + fL U A l ≤ 12 * (k :: l).length
    rw [List.length_cons]
    omega
theorem fL_b (h : KW U A) {k : Int} (hk : kn5 A k) : 0 ≤ fL U A (ch U A k) ∧ fL U A (ch U A k) ≤ 480 := by
  have := fL_R h _ (ch_in h k hk)
  have := ch_len h hk
  omega
theorem sL_R (h : KW U A) : ∀ l : List Int, (∀ x ∈ l, (0 ≤ x ∧ x < 40) ∧ 0 ≤ A x) → ∀ j, 0 ≤ j ∧ j < fL U A l → 0 ≤ sL U A l j ∧ sL U A l j < 6
  | [], _, j, hj => by simp [fL] at hj; omega
  | k :: l, hl, j, hj => by
    have hk := hl k List.mem_cons_self
    have h2 := (h.2 k hk.1 hk.2).2.2.2
    have hj2 : j < U (A k + 3) + fL U A l := hj.2
    rw [show sL U A (k :: l) j = (if fL U A l ≤ j then U (A k + 4 + (j - fL U A l)) else sL U A l j) from rfl]
    by_cases e : fL U A l ≤ j
    · rw [if_pos e]
      have h3 := h2 (j - fL U A l) (by omega)
      have h4 := h.1 (A k + 4 + (j - fL U A l))
      omega
    · rw [if_neg e]
      exact sL_R h l (fun x hx => hl x (List.mem_cons_of_mem _ hx)) j (by omega)
theorem sumZ_app {f : Int → Int} {a : Nat} : ∀ b : Nat, sumZ f (a + b) = sumZ f a + sumZ (fun i => f (a + i)) b
  | 0 => by show sumZ f a = sumZ f a + 0; omega
  | b + 1 => by
    have ih := sumZ_app (f := f) (a := a) b
    show sumZ f (a + b) + f ((a + b : Nat) : Int) = sumZ f a + (sumZ (fun i => f (a + i)) b + f (a + b))
    rw [ih, show ((a + b : Nat) : Int) = (a : Int) + b by omega]
    omega
theorem wL_k (h : KW U A) {k : Int} {l : List Int} (hl : ∀ x ∈ k :: l, (0 ≤ x ∧ x < 40) ∧ 0 ≤ A x) : wL U A (k :: l) = wL U A l + sumZ (fun i => wd (U (A k + 4 + i))) (U (A k + 3)).toNat := by
  have hf := fL_R h l (fun x hx => hl x (List.mem_cons_of_mem _ hx))
  have hu := h.1 (A k + 3)
  unfold wL
  rw [show (fL U A (k :: l)).toNat = (fL U A l).toNat + (U (A k + 3)).toNat by
    show (U (A k + 3) + fL U A l).toNat = _
    omega, sumZ_app]
  congr 1
  · refine sumZ_c _ (fun x hx => ?_)
    show wd (if fL U A l ≤ x then U (A k + 4 + (x - fL U A l)) else sL U A l x) = _
    rw [if_neg (by omega)]
  · refine sumZ_c _ (fun x hx => ?_)
    show wd (if fL U A l ≤ ((fL U A l).toNat : Int) + x then U (A k + 4 + (((fL U A l).toNat : Int) + x - fL U A l)) else sL U A l (((fL U A l).toNat : Int) + x)) = _
    rw [if_pos (by omega)]
    congr 2
    omega
theorem wL_R (h : KW U A) {k : Int} (hk : kn5 A k) : 0 ≤ wL U A (ch U A k) ∧ wL U A (ch U A k) ≤ 3840 := by
  have h1 := fL_b h hk
  have := sumZ_R (f := fun j => wd (sL U A (ch U A k) j)) (c := 8) (fun i => wd_R _) (fL U A (ch U A k)).toNat
  unfold wL
  omega
/-- a kind more: nothing changes for the known ones -/
theorem chn_x {B : Int → Int} (h : KW U A) (e : ∀ k, 0 ≤ k ∧ k < 40 → 0 ≤ A k → B k = A k) : ∀ (f : Nat) (k : Int), kn5 A k → chn U B f k = chn U A f k
  | 0, _, _ => rfl
  | f + 1, k, hk => by
    by_cases e2 : k = 255
    · simp only [chn, if_pos e2]
    · simp only [chn, if_neg e2]
      rcases hk with hk | hk
      · exact absurd hk e2
      · rw [e k hk.1 hk.2, chn_x h e f _ (h.par hk.1 hk.2)]
theorem fL_x {B : Int → Int} : ∀ l : List Int, (∀ x ∈ l, B x = A x) → fL U B l = fL U A l
  | [], _ => rfl
  | k :: l, hl => by
    show U (B k + 3) + fL U B l = U (A k + 3) + fL U A l
    rw [hl k List.mem_cons_self, fL_x l (fun x hx => hl x (List.mem_cons_of_mem _ hx))]
theorem sL_x {B : Int → Int} : ∀ l : List Int, (∀ x ∈ l, B x = A x) → sL U B l = sL U A l
  | [], _ => rfl
  | k :: l, hl => by
    funext j
    show (if fL U B l ≤ j then U (B k + 4 + (j - fL U B l)) else sL U B l j) = (if fL U A l ≤ j then U (A k + 4 + (j - fL U A l)) else sL U A l j)
    rw [hl k List.mem_cons_self, fL_x l (fun x hx => hl x (List.mem_cons_of_mem _ hx)), sL_x l (fun x hx => hl x (List.mem_cons_of_mem _ hx))]
theorem wL_x {B : Int → Int} {l : List Int} (hl : ∀ x ∈ l, B x = A x) : wL U B l = wL U A l := by
  unfold wL
  rw [fL_x l hl, sL_x l hl]
theorem ch_x {B : Int → Int} (h : KW U A) (e : ∀ k, 0 ≤ k ∧ k < 40 → 0 ≤ A k → B k = A k) {k : Int} (hk : kn5 A k) : ch U B k = ch U A k ∧ ∀ x ∈ ch U A k, B x = A x :=
  ⟨chn_x h e (8000 + 1) k hk, fun x hx => e x (ch_in h k hk x hx).1 (ch_in h k hk x hx).2⟩
end

/-! ===== arrays, new cells, answers ===== -/
section ARR
variable {G : Gp} {p : Program} {l : Launch} {e : Env} {R : Room} {s : State} {m : MethodId} {args : Array Value} {below : List Frame} {meth : Method} {c : Code} {nL sz0 sl0 : Nat} {Qs : State → Prop} {cc : ByteArray} {own : String}
variable {X : Cx} {lim : Nat × Nat} {Q : Option AV → Mm → Prop} {K : Nat → Lc → List AV → Mm → Prop} {ts : List Nat} {pc : Nat} {ls : Lc} {st : List AV} {M : Mm}
theorem inb {i n : Int} (hi : inR i) (h0 : 0 ≤ i) (h1 : i < n) (cA : ClassId) (f : Nat → Value) : ¬ (Int32.ofInt i < 0 ∨ (arrV cA n.toNat f).slots.size ≤ (Int32.ofInt i).toNatClampNeg) := by
  rw [arrV_size, clampI hi h0, ofI0, ltI hi inR_0]
  omega
theorem rdA {i n : Int} (hi : inR i) (h0 : 0 ≤ i) (h1 : i < n) (cA : ClassId) (f : Nat → Value) : (arrV cA n.toNat f).slots[(Int32.ofInt i).toNatClampNeg]? = some (f i.toNat) := by
  rw [clampI hi h0]
  exact arrV_read _ _ (by omega)
theorem stA {i : Int} (hi : inR i) (h0 : 0 ≤ i) (cA : ClassId) (n : Nat) (f : Nat → Value) (v : Value) : (arrV cA n f).setSlot (Int32.ofInt i).toNatClampNeg v = arrV cA n (updV f i.toNat v) := by
  rw [clampI hi h0]
  exact arrV_store _ _ _ _ _
theorem toN {i : Int} (h0 : 0 ≤ i) : ((i.toNat : Nat) : Int) = i := by omega
theorem s_iaload (C0 : Cok G p s m args meth c cc nL own) (hK : ∀ pc ls st M, okS st → okL ls → K pc ls st M → Go G p l e R s m args below meth c nL sz0 sl0 Qs pc ls st M) (hd : decode cc pc = .ok (.iaload, 1)) (hS : okS st) (hL : okL ls) (h : stepI X lim Q K (.iaload) ts pc ls st M) : Go G p l e R s m args below meth c nL sz0 sl0 Qs pc ls st M := by
  have h : pI st (fun i st => pR st fun a st => ((M.2.2.1 a).1 = 1 ∨ (M.2.2.1 a).1 = 6) ∧ 0 ≤ i ∧ i < (M.2.2.1 a).2 ∧ K (pc + 1) ls (vI (M.2.2.2.2.1 a i) :: st) M) := h
  obtain ⟨i, st1, e0, h1⟩ := pI_x h
  clear h
  subst e0
  obtain ⟨a, st2, e0, h⟩ := pR_x h1
  clear h1
  subst e0
  obtain ⟨hk, h0, h1, h⟩ := h
  have hi : inR i := okS_h hS
  intro H lsA locs g
  have kk := hK _ _ _ _ (okS_c (v := vI _) (g.ok a i) (okS_t (okS_t hS))) hL h H lsA locs g
  rcases hk with hk | hk
  · have hc := ((RelM.cel g.2.1 (a := a) (by omega) (by omega)).1).arr (by omega) (by omega)
    rw [hk] at hc
    exact W.iald C0.1 C0.2.1 hc ((C0.2.2.2.2.2.1.1.2 0 _ rfl).1 _ _) (fun q => by cases q) (inb hi h0 h1 _ _) (rdA hi h0 h1 _ _) rfl rfl hd (by rw [toN h0]; exact kk)
  · have hT := g.2.1.2.2.2.2.2.2.1 a hk
    exact va_ti C0.1 C0.2.1 hT g.2.2.1 (vp_inI hi h0 (by omega)) (v := .int (Int32.ofInt (M.2.2.2.2.1 a i))) (by rw [clampI hi h0, toN h0]) hd kk
theorem s_baload (C0 : Cok G p s m args meth c cc nL own) (hK : ∀ pc ls st M, okS st → okL ls → K pc ls st M → Go G p l e R s m args below meth c nL sz0 sl0 Qs pc ls st M) (hd : decode cc pc = .ok (.baload, 1)) (hS : okS st) (hL : okL ls) (h : stepI X lim Q K (.baload) ts pc ls st M) : Go G p l e R s m args below meth c nL sz0 sl0 Qs pc ls st M := by
  have h : pI st (fun i st => pR st fun a st => ((M.2.2.1 a).1 = 2 ∨ (M.2.2.1 a).1 = 3) ∧ 0 ≤ i ∧ i < (M.2.2.1 a).2 ∧ K (pc + 1) ls (vI (M.2.2.2.2.1 a i) :: st) M) := h
  obtain ⟨i, st1, e0, h1⟩ := pI_x h
  clear h
  subst e0
  obtain ⟨a, st2, e0, h⟩ := pR_x h1
  clear h1
  subst e0
  obtain ⟨hk, h0, h1, h⟩ := h
  have hi : inR i := okS_h hS
  intro H lsA locs g
  have kk := hK _ _ _ _ (okS_c (v := vI _) (g.ok a i) (okS_t (okS_t hS))) hL h H lsA locs g
  have hc := ((RelM.cel g.2.1 (a := a) (by omega) (by omega)).1).arr (by omega) (by omega)
  rcases hk with hk | hk
  · rw [hk] at hc
    exact W.bald C0.1 C0.2.1 hc ((C0.2.2.2.2.2.1.1.2 1 _ rfl).1 _ _) (fun q => by cases q) (inb hi h0 h1 _ _) (rdA hi h0 h1 _ _) rfl rfl hd (by rw [toN h0]; exact kk)
  · rw [hk] at hc
    exact W.zald C0.1 C0.2.1 hc ((C0.2.2.2.2.2.1.1.2 2 _ rfl).1 _ _) (fun q => by cases q) (inb hi h0 h1 _ _) (rdA hi h0 h1 _ _) rfl rfl hd (by rw [toN h0]; exact kk)
theorem s_laload (C0 : Cok G p s m args meth c cc nL own) (hK : ∀ pc ls st M, okS st → okL ls → K pc ls st M → Go G p l e R s m args below meth c nL sz0 sl0 Qs pc ls st M) (hd : decode cc pc = .ok (.laload, 1)) (hS : okS st) (hL : okL ls) (h : stepI X lim Q K (.laload) ts pc ls st M) : Go G p l e R s m args below meth c nL sz0 sl0 Qs pc ls st M := by
  have h : pI st (fun i st => pR st fun a st => (M.2.2.1 a).1 = 4 ∧ 0 ≤ i ∧ i < (M.2.2.1 a).2 ∧ K (pc + 1) ls (vL (M.2.2.2.2.2 a i) :: st) M) := h
  obtain ⟨i, st1, e0, h1⟩ := pI_x h
  clear h
  subst e0
  obtain ⟨a, st2, e0, h⟩ := pR_x h1
  clear h1
  subst e0
  obtain ⟨hk, h0, h1, h⟩ := h
  have hi : inR i := okS_h hS
  intro H lsA locs g
  have kk := hK _ _ _ _ (okS_c (v := vL _) trivial (okS_t (okS_t hS))) hL h H lsA locs g
  have hc := ((RelM.cel g.2.1 (a := a) (by omega) (by omega)).1).arl hk
  exact W.lald C0.1 C0.2.1 hc ((C0.2.2.2.2.2.1.1.2 3 _ rfl).1 _ _) (fun q => by cases q) (inb hi h0 h1 _ _) (rdA hi h0 h1 _ _) rfl rfl hd (by rw [toN h0]; exact kk)
theorem s_aaload (C0 : Cok G p s m args meth c cc nL own) (hK : ∀ pc ls st M, okS st → okL ls → K pc ls st M → Go G p l e R s m args below meth c nL sz0 sl0 Qs pc ls st M) (hd : decode cc pc = .ok (.aaload, 1)) (hS : okS st) (hL : okL ls) (h : stepI X lim Q K (.aaload) ts pc ls st M) : Go G p l e R s m args below meth c nL sz0 sl0 Qs pc ls st M := by
  have h : pI st (fun i st => pR st fun a st => (M.2.2.1 a).1 = 5 ∧ 0 ≤ i ∧ i < (M.2.2.1 a).2 ∧ ¬ M.2.2.2.1 a i = 0 ∧ K (pc + 1) ls (vR (M.2.2.2.1 a i) :: st) M) := h
  obtain ⟨i, st1, e0, h1⟩ := pI_x h
  clear h
  subst e0
  obtain ⟨a, st2, e0, h⟩ := pR_x h1
  clear h1
  subst e0
  obtain ⟨hk, h0, h1, hne, h⟩ := h
  have hi : inR i := okS_h hS
  intro H lsA locs g
  have kk := hK _ _ _ _ (okS_c (v := vR _) trivial (okS_t (okS_t hS))) hL h H lsA locs g
  have hc := ((RelM.cel g.2.1 (a := a) (by omega) (by omega)).1).arq hk
  exact W.aald C0.1 C0.2.1 hc ((C0.2.2.2.2.2.1.1.2 4 _ rfl).1 _ _) rfl (fun q => by cases q) (inb hi h0 h1 _ _) (rdA hi h0 h1 _ _) rfl rfl hd (by rw [toN h0]; unfold rfv; rw [if_neg hne]; exact kk)
theorem upA_i {σ : Int → Int} {i v : Int} (h0 : 0 ≤ i) : updV (fun j : Nat => Value.int (Int32.ofInt (σ j))) i.toNat (.int (Int32.ofInt v)) = fun j : Nat => Value.int (Int32.ofInt (iu σ i v j)) := by
  funext j
  unfold updV iu
  by_cases e : j = i.toNat
  · rw [if_pos e, if_pos (by omega)]
  · rw [if_neg e, if_neg (by omega)]
theorem upA_l {τ : Int → Int64} {i : Int} {v : Int64} (h0 : 0 ≤ i) : updV (fun j : Nat => Value.long (τ j)) i.toNat (.long v) = fun j : Nat => Value.long (iu τ i v j) := by
  funext j
  unfold updV iu
  by_cases e : j = i.toNat
  · rw [if_pos e, if_pos (by omega)]
  · rw [if_neg e, if_neg (by omega)]
theorem upA_r {ρ : Int → Nat} {i : Int} {v : Nat} (h0 : 0 ≤ i) (hv : ¬ v = 0) : updV (fun j : Nat => rfv (ρ j)) i.toNat (.ref v) = fun j : Nat => rfv (iu ρ i v j) := by
  funext j
  unfold updV iu rfv
  by_cases e : j = i.toNat
  · have e' : (j : Int) = i := by omega
    rw [if_pos e]
    simp only [if_pos e', if_neg hv]
  · rw [if_neg e]
    have e' : ¬ ((j : Int) = i) := by omega
    simp only [if_neg e']
theorem nar_b {v : Int} (h1 : -128 ≤ v) (h2 : v ≤ 127) : narrow .byte (.int (Int32.ofInt v)) = .int (Int32.ofInt v) := by
  have e : (Int32.ofInt v).toInt8.toInt32 = Int32.ofInt v := by
    apply Int32.toInt_inj.mp
    have hr : inR v := by unfold inR; omega
    rw [Int8.toInt_toInt32, Int32.toInt_toInt8, toI hr, Int.bmod_eq_of_le] <;> omega
  show Value.int _ = _
  rw [e]
theorem s_iastore (C0 : Cok G p s m args meth c cc nL own) (hK : ∀ pc ls st M, okS st → okL ls → K pc ls st M → Go G p l e R s m args below meth c nL sz0 sl0 Qs pc ls st M) (hd : decode cc pc = .ok (.iastore, 1)) (hS : okS st) (hL : okL ls) (h : stepI X lim Q K (.iastore) ts pc ls st M) : Go G p l e R s m args below meth c nL sz0 sl0 Qs pc ls st M := by
  have h : pI st (fun v st => pI st fun i st => pR st fun a st => (M.2.2.1 a).1 = 1 ∧ 0 ≤ i ∧ i < (M.2.2.1 a).2 ∧ K (pc + 1) ls st (M.1, M.2.1, M.2.2.1, M.2.2.2.1, fu M.2.2.2.2.1 a (iu (M.2.2.2.2.1 a) i v), M.2.2.2.2.2)) := h
  obtain ⟨v, st0, e0, h1⟩ := pI_x h
  clear h
  subst e0
  obtain ⟨i, st1, e0, h2⟩ := pI_x h1
  clear h1
  subst e0
  obtain ⟨a, st2, e0, h⟩ := pR_x h2
  clear h2
  subst e0
  obtain ⟨hk, h0, h1, h⟩ := h
  have hi : inR i := okS_h (okS_t hS)
  intro H lsA locs g
  obtain ⟨hcel, hB⟩ := RelM.cel g.2.1 (a := a) (by omega) (by omega)
  have hc := hcel.arr (by omega) (by omega)
  have hc2 := hc
  rw [hk] at hc2
  refine W.iast C0.1 C0.2.1 hc2 ((C0.2.2.2.2.2.1.1.2 0 _ rfl).1 _ _) (fun q => by cases q) (inb hi h0 h1 _ _) rfl rfl hd fun H1 e1 z1 oq => ?_
  refine hK _ _ _ _ (okS_t (okS_t (okS_t hS))) hL h H1 lsA _ ⟨g.1, RelM.put g.2.1 C0.2.2.2.2.2.2.2.2 hB (show (M.2.2.1 a).1 ≠ 6 by omega) z1 oq (fun _ _ => rfl) (fun b hb => fu_n hb) (fun _ _ => rfl) (Or.inl ⟨by show 1 ≤ (M.2.2.1 a).1; omega, by show (M.2.2.1 a).1 ≤ 3; omega, ?_⟩) (fun j => ?_), g.2.2.1.put z1 oq hB, g.2.2.2⟩
  · show H1[a]? = some (arrV (G.2.2.1 (M.2.2.1 a).1) (M.2.2.1 a).2.toNat (fun j => .int (Int32.ofInt (fu M.2.2.2.2.1 a (iu (M.2.2.2.2.1 a) i v) a j))))
    rw [hk, fu_s, e1, stA hi h0]
    show some (arrV _ _ (updV _ _ (Value.int (Int32.ofInt v)))) = _
    rw [upA_i h0]
  · show inR (fu M.2.2.2.2.1 a (iu (M.2.2.2.2.1 a) i v) a j)
    rw [fu_s]
    exact iu_R (g.ok a) (okS_h hS) j
theorem s_bastore (C0 : Cok G p s m args meth c cc nL own) (hK : ∀ pc ls st M, okS st → okL ls → K pc ls st M → Go G p l e R s m args below meth c nL sz0 sl0 Qs pc ls st M) (hd : decode cc pc = .ok (.bastore, 1)) (hS : okS st) (hL : okL ls) (h : stepI X lim Q K (.bastore) ts pc ls st M) : Go G p l e R s m args below meth c nL sz0 sl0 Qs pc ls st M := by
  have h : pI st (fun v st => pI st fun i st => pR st fun a st => (((M.2.2.1 a).1 = 2 ∧ -128 ≤ v ∧ v ≤ 127) ∨ ((M.2.2.1 a).1 = 3 ∧ (v = 0 ∨ v = 1))) ∧ 0 ≤ i ∧ i < (M.2.2.1 a).2 ∧ K (pc + 1) ls st (M.1, M.2.1, M.2.2.1, M.2.2.2.1, fu M.2.2.2.2.1 a (iu (M.2.2.2.2.1 a) i v), M.2.2.2.2.2)) := h
  obtain ⟨v, st0, e0, h1⟩ := pI_x h
  clear h
  subst e0
  obtain ⟨i, st1, e0, h2⟩ := pI_x h1
  clear h1
  subst e0
  obtain ⟨a, st2, e0, h⟩ := pR_x h2
  clear h2
  subst e0
  obtain ⟨hk, h0, h1, h⟩ := h
  have hi : inR i := okS_h (okS_t hS)
  intro H lsA locs g
  obtain ⟨hcel, hB⟩ := RelM.cel g.2.1 (a := a) (by omega) (by omega)
  have hc := hcel.arr (by omega) (by omega)
  rcases hk with hk | hk
  · have hc2 := hc
    rw [hk.1] at hc2
    refine W.bast C0.1 C0.2.1 hc2 ((C0.2.2.2.2.2.1.1.2 1 _ rfl).1 _ _) (fun q => by cases q) (inb hi h0 h1 _ _) rfl rfl hd fun H1 e1 z1 oq => ?_
    rw [show narrow .byte (.int (Int32.ofInt v)) = .int (Int32.ofInt v) from nar_b hk.2.1 hk.2.2] at e1
    refine hK _ _ _ _ (okS_t (okS_t (okS_t hS))) hL h H1 lsA _ ⟨g.1, RelM.put g.2.1 C0.2.2.2.2.2.2.2.2 hB (show (M.2.2.1 a).1 ≠ 6 by omega) z1 oq (fun _ _ => rfl) (fun b hb => fu_n hb) (fun _ _ => rfl) (Or.inl ⟨by show 1 ≤ (M.2.2.1 a).1; omega, by show (M.2.2.1 a).1 ≤ 3; omega, ?_⟩) (fun j => ?_), g.2.2.1.put z1 oq hB, g.2.2.2⟩
    · show H1[a]? = some (arrV (G.2.2.1 (M.2.2.1 a).1) (M.2.2.1 a).2.toNat (fun j => .int (Int32.ofInt (fu M.2.2.2.2.1 a (iu (M.2.2.2.2.1 a) i v) a j))))
      rw [hk.1, fu_s, e1, stA hi h0]
      show some (arrV _ _ (updV _ _ (Value.int (Int32.ofInt v)))) = _
      rw [upA_i h0]
    · show inR (fu M.2.2.2.2.1 a (iu (M.2.2.2.2.1 a) i v) a j)
      rw [fu_s]
      exact iu_R (g.ok a) (okS_h hS) j
  · have hc2 := hc
    rw [hk.1] at hc2
    refine W.zast C0.1 C0.2.1 hc2 ((C0.2.2.2.2.2.1.1.2 2 _ rfl).1 _ _) (fun q => by cases q) (inb hi h0 h1 _ _) rfl rfl hd fun H1 e1 z1 oq => ?_
    rw [show narrow .boolean (.int (Int32.ofInt v)) = .int (Int32.ofInt v) from (nar_z hk.2).1] at e1
    refine hK _ _ _ _ (okS_t (okS_t (okS_t hS))) hL h H1 lsA _ ⟨g.1, RelM.put g.2.1 C0.2.2.2.2.2.2.2.2 hB (show (M.2.2.1 a).1 ≠ 6 by omega) z1 oq (fun _ _ => rfl) (fun b hb => fu_n hb) (fun _ _ => rfl) (Or.inl ⟨by show 1 ≤ (M.2.2.1 a).1; omega, by show (M.2.2.1 a).1 ≤ 3; omega, ?_⟩) (fun j => ?_), g.2.2.1.put z1 oq hB, g.2.2.2⟩
    · show H1[a]? = some (arrV (G.2.2.1 (M.2.2.1 a).1) (M.2.2.1 a).2.toNat (fun j => .int (Int32.ofInt (fu M.2.2.2.2.1 a (iu (M.2.2.2.2.1 a) i v) a j))))
      rw [hk.1, fu_s, e1, stA hi h0]
      show some (arrV _ _ (updV _ _ (Value.int (Int32.ofInt v)))) = _
      rw [upA_i h0]
    · show inR (fu M.2.2.2.2.1 a (iu (M.2.2.2.2.1 a) i v) a j)
      rw [fu_s]
      exact iu_R (g.ok a) (okS_h hS) j
theorem s_lastore (C0 : Cok G p s m args meth c cc nL own) (hK : ∀ pc ls st M, okS st → okL ls → K pc ls st M → Go G p l e R s m args below meth c nL sz0 sl0 Qs pc ls st M) (hd : decode cc pc = .ok (.lastore, 1)) (hS : okS st) (hL : okL ls) (h : stepI X lim Q K (.lastore) ts pc ls st M) : Go G p l e R s m args below meth c nL sz0 sl0 Qs pc ls st M := by
  have h : pL st (fun v st => pI st fun i st => pR st fun a st => (M.2.2.1 a).1 = 4 ∧ 0 ≤ i ∧ i < (M.2.2.1 a).2 ∧ K (pc + 1) ls st (M.1, M.2.1, M.2.2.1, M.2.2.2.1, M.2.2.2.2.1, fu M.2.2.2.2.2 a (iu (M.2.2.2.2.2 a) i v))) := h
  obtain ⟨v, st0, e0, h1⟩ := pL_x h
  clear h
  subst e0
  obtain ⟨i, st1, e0, h2⟩ := pI_x h1
  clear h1
  subst e0
  obtain ⟨a, st2, e0, h⟩ := pR_x h2
  clear h2
  subst e0
  obtain ⟨hk, h0, h1, h⟩ := h
  have hi : inR i := okS_h (okS_t hS)
  intro H lsA locs g
  obtain ⟨hcel, hB⟩ := RelM.cel g.2.1 (a := a) (by omega) (by omega)
  have hc := hcel.arl hk
  refine W.last C0.1 C0.2.1 hc ((C0.2.2.2.2.2.1.1.2 3 _ rfl).1 _ _) (fun q => by cases q) (inb hi h0 h1 _ _) rfl rfl hd fun H1 e1 z1 oq => ?_
  refine hK _ _ _ _ (okS_t (okS_t (okS_t hS))) hL h H1 lsA _ ⟨g.1, RelM.put g.2.1 C0.2.2.2.2.2.2.2.2 hB (show (M.2.2.1 a).1 ≠ 6 by omega) z1 oq (fun _ _ => rfl) (fun _ _ => rfl) (fun b hb => fu_n hb) (Or.inr (Or.inl ⟨hk, ?_⟩)) (fun j => g.ok a j), g.2.2.1.put z1 oq hB, g.2.2.2⟩
  show H1[a]? = some (arrV (G.2.2.1 4) (M.2.2.1 a).2.toNat (fun j => .long (fu M.2.2.2.2.2 a (iu (M.2.2.2.2.2 a) i v) a j)))
  rw [fu_s, e1, stA hi h0, upA_l h0]
theorem s_aastore (C0 : Cok G p s m args meth c cc nL own) (hK : ∀ pc ls st M, okS st → okL ls → K pc ls st M → Go G p l e R s m args below meth c nL sz0 sl0 Qs pc ls st M) (hd : decode cc pc = .ok (.aastore, 1)) (hS : okS st) (hL : okL ls) (h : stepI X lim Q K (.aastore) ts pc ls st M) : Go G p l e R s m args below meth c nL sz0 sl0 Qs pc ls st M := by
  have h : pR st (fun v st => pI st fun i st => pR st fun a st => (M.2.2.1 a).1 = 5 ∧ 0 ≤ i ∧ i < (M.2.2.1 a).2 ∧ M.2.2.1 v = (13, 0) ∧ ¬ v = 0 ∧ K (pc + 1) ls st (M.1, M.2.1, M.2.2.1, fu M.2.2.2.1 a (iu (M.2.2.2.1 a) i v), M.2.2.2.2.1, M.2.2.2.2.2)) := h
  obtain ⟨v, st0, e0, h1⟩ := pR_x h
  clear h
  subst e0
  obtain ⟨i, st1, e0, h2⟩ := pI_x h1
  clear h1
  subst e0
  obtain ⟨a, st2, e0, h⟩ := pR_x h2
  clear h2
  subst e0
  obtain ⟨hk, h0, h1, hv, hv0, h⟩ := h
  have hi : inR i := okS_h (okS_t hS)
  intro H lsA locs g
  obtain ⟨hcel, hB⟩ := RelM.cel g.2.1 (a := a) (by omega) (by omega)
  have hc := hcel.arq hk
  obtain ⟨hcv, -⟩ := RelM.cel g.2.1 (a := v) (by rw [hv]; simp) (by rw [hv]; simp)
  obtain ⟨cellV, g1, g2, g3, -⟩ := hcv.obj (ci := 3) (by rw [hv]) (q := (RX3, TX3, 12)) rfl
  have hKK := C0.2.2.2.2.2.1.1
  have hcls := (hKK.1 3 (RX3, TX3, 12) rfl).2
  obtain ⟨kA, comp, k1, k2, k3, -⟩ := (hKK.2 4 _ rfl).2
  have hcomp : comp = G.1 3 := Option.some.inj (k3.symm.trans hcls.1)
  subst hcomp
  obtain ⟨kC, hkC, -⟩ := hcls.2
  have hlt : ¬ Int32.ofInt i < 0 ∧ (Int32.ofInt i).toNatClampNeg < (arrV (G.2.2.1 5) (M.2.2.1 a).2.toNat (fun j => rfv (M.2.2.2.1 a j))).slots.size := by
    have := inb hi h0 h1 (G.2.2.1 5) (fun j => rfv (M.2.2.2.1 a j))
    exact ⟨fun q => this (Or.inl q), Nat.lt_of_not_le fun q => this (Or.inr q)⟩
  refine W.aast C0.1 C0.2.1 hc (fun q h => by cases h) (fun h => by cases h) k1 k2 rfl hkC hlt g1 (fun q h => by rw [g3] at h; cases h) (by rw [g2]; exact hkC) (by rw [g2]; exact va_assign hcls) rfl rfl hd fun H1 e1 z1 oq => ?_
  refine hK _ _ _ _ (okS_t (okS_t (okS_t hS))) hL h H1 lsA _ ⟨g.1, RelM.put g.2.1 C0.2.2.2.2.2.2.2.2 hB (show (M.2.2.1 a).1 ≠ 6 by omega) z1 oq (fun b hb => fu_n hb) (fun _ _ => rfl) (fun _ _ => rfl) (Or.inr (Or.inr (Or.inl ⟨hk, ?_⟩))) (fun j => g.ok a j), g.2.2.1.put z1 oq hB, g.2.2.2⟩
  show H1[a]? = some (arrV (G.2.2.1 5) (M.2.2.1 a).2.toNat (fun j => rfv (fu M.2.2.2.1 a (iu (M.2.2.2.1 a) i v) a j)))
  rw [fu_s, e1, stA hi h0, upA_r h0 hv0]
theorem s_arraylength (C0 : Cok G p s m args meth c cc nL own) (hK : ∀ pc ls st M, okS st → okL ls → K pc ls st M → Go G p l e R s m args below meth c nL sz0 sl0 Qs pc ls st M) (hd : decode cc pc = .ok (.arraylength, 1)) (hS : okS st) (hL : okL ls) (h : stepI X lim Q K (.arraylength) ts pc ls st M) : Go G p l e R s m args below meth c nL sz0 sl0 Qs pc ls st M := by
  have h : pR st (fun a st => (1 ≤ (M.2.2.1 a).1 ∧ (M.2.2.1 a).1 ≤ 6) ∧ (M.2.2.1 a).2 ≤ 1000000 ∧ K (pc + 1) ls (vI (M.2.2.1 a).2 :: st) M) := h
  obtain ⟨a, st2, e0, h1⟩ := pR_x h
  clear h
  subst e0
  obtain ⟨hk, hn, h⟩ := h1
  intro H lsA locs g
  have hl := g.2.1.2.2.2.2.1 a
  have hr : inR (M.2.2.1 a).2 := by unfold inR; omega
  have kk := hK _ _ _ _ (okS_c (v := vI _) hr (okS_t hS)) hL h H lsA locs g
  have key : ∀ (cA : ClassId) (f : Nat → Value), (arrV cA (M.2.2.1 a).2.toNat f).slots.size.toInt32 = Int32.ofInt (M.2.2.1 a).2 := by
    intro cA f
    rw [arrV_size]
    show Int32.ofNat (M.2.2.1 a).2.toNat = _
    rw [← Int32.ofInt_eq_ofNat]
    congr 1
    omega
  by_cases h6 : (M.2.2.1 a).1 = 6
  · have hT := g.2.1.2.2.2.2.2.2.1 a h6
    refine va_tlen C0.1 C0.2.1 hT g.2.2.1 (v := Int32.ofInt (M.2.2.1 a).2) ?_ hd kk
    rw [← Int32.ofInt_eq_ofNat]
    congr 1
    omega
  · have hcel := (RelM.cel g.2.1 (a := a) (by omega) h6).1
    rcases hcel with ⟨k1, k3, hc⟩ | ⟨k4, hc⟩ | ⟨k5, hc⟩ | ⟨ci, q, k, -⟩
    · have hk' : (M.2.2.1 a).1 = 1 ∨ (M.2.2.1 a).1 = 2 ∨ (M.2.2.1 a).1 = 3 := by omega
      rcases hk' with e | e | e
      · rw [e] at hc
        exact W.alen C0.1 C0.2.1 hc ((C0.2.2.2.2.2.1.1.2 0 _ rfl).1 _ _) (key _ _) rfl rfl hd kk
      · rw [e] at hc
        exact W.alen C0.1 C0.2.1 hc ((C0.2.2.2.2.2.1.1.2 1 _ rfl).1 _ _) (key _ _) rfl rfl hd kk
      · rw [e] at hc
        exact W.alen C0.1 C0.2.1 hc ((C0.2.2.2.2.2.1.1.2 2 _ rfl).1 _ _) (key _ _) rfl rfl hd kk
    · exact W.alen C0.1 C0.2.1 hc ((C0.2.2.2.2.2.1.1.2 3 _ rfl).1 _ _) (key _ _) rfl rfl hd kk
    · exact W.alen C0.1 C0.2.1 hc ((C0.2.2.2.2.2.1.1.2 4 _ rfl).1 _ _) (key _ _) rfl rfl hd kk
    · omega
end ARR

/-! ===== System.arraycopy of ints ===== -/
section CPY
variable {G : Gp} {p : Program} {l : Launch} {e : Env} {R : Room} {s : State} {m : MethodId} {args : Array Value} {below : List Frame} {meth : Method} {c : Code} {nL sz0 sl0 : Nat} {Qs : State → Prop} {cc : ByteArray} {own : String}
variable {X : Cx} {lim : Nat × Nat} {Q : Option AV → Mm → Prop} {K : Nat → Lc → List AV → Mm → Prop} {ts : List Nat} {pc : Nat} {ls : Lc} {st : List AV} {M : Mm}
theorem x_copy {H : Heap} {locs : List Loc} {cells slots : Nat} {lsA : Array Slot} {rest : List Value} (C0 : Cok G p s m args meth c cc nL own) (hml : lsA.size = nL) {idx : Nat} (w1 : Cond.methodLink own idx arraycopyName ∈ tgw) (w2 : Cond.native arraycopyName ∈ tgw) (w3 : Cond.static arraycopyName ∈ tgw) (w4 : Cond.initialized "java/lang/System" ∈ tgw) (hS : va_S (Bs G) s.heap H locs) {a0 a n0 n1 : Nat} {f g : Nat → Int32} (hc0 : H[a0]? = some (vp_cell (G.2.2.1 1) (n0, .inl f))) (hc1 : H[a]? = some (vp_cell (G.2.2.1 1) (n1, .inl g))) (hB : Bs G a)
    {sp dp n : Int32} (h1 : ¬ sp < 0) (h2 : ¬ dp < 0) (h3 : ¬ n < 0) (h4 : sp.toNatClampNeg + n.toNatClampNeg ≤ n0) (h5 : dp.toNatClampNeg + n.toNatClampNeg ≤ n1)
    (hframes : 1 ≤ R.frames) (hlocals : (rest.map fun v => v.category).sum + 18 ≤ R.locals) (hdg : decode cc pc = .ok (.invokestatic idx, 3))
    (kk : ∀ (H1 : Heap) (locs1 : List Loc), H1[a]? = some (vp_cell (G.2.2.1 1) (n1, .inl (va_cpy f g sp.toNatClampNeg dp.toNatClampNeg n.toNatClampNeg))) → H1.size = H.size → (∀ q : Nat, q ≠ a → H1[q]? = H[q]?) → va_S (Bs G) s.heap H1 locs1 → W p l e R s m args below meth c H1 locs1 cells slots Qs (F0 m (pc + 3) lsA rest)) : W p l e R s m args below meth c H locs cells slots Qs (F0 m pc lsA (.int n :: .int dp :: .ref a :: .int sp :: .ref a0 :: rest)) := by
  have nn : ∀ z : Int32, ¬ z < 0 → z.toInt = (z.toNatClampNeg : Int) := by
    intro z hz
    have hz0 : (0 : Int) ≤ z.toInt := by
      have := Int32.not_lt.mp hz
      simpa using Int32.le_iff_toInt_le.mp this
    show z.toInt = ((z.toInt.toNat : Nat) : Int)
    omega
  have hts := C0.2.2.2.2.1
  have hKK := C0.2.2.2.2.2.1.1
  intro T hT X
  obtain ⟨-, k0, hk0, cm0, hkk0⟩ := (hKK.2 0 _ rfl).1 n0 (fun j => .int (f j))
  obtain ⟨-, k1, hk1, cm1, hkk1⟩ := (hKK.2 0 _ rfl).1 n1 (fun j => .int (g j))
  obtain ⟨vm', X', step⟩ := X.arraycopy C0.1 C0.2.2.2.1 (hts _ w1) (hts _ w2) (hts _ w3) (hts _ w4) (src := a0) (dst := a) (cs := vp_cell (G.2.2.1 1) (n0, .inl f)) (cd := vp_cell (G.2.2.1 1) (n1, .inl g)) (srcPos := sp) (destPos := dp) (n := n) (by rw [hT]; exact hc0) (by rw [hT]; exact hc1)
    (fun _ h => by cases h) (fun _ h => by cases h) (fun h => by cases h) (fun h => by cases h) hk0 hk1 hkk0 hkk1 rfl h1 h2 h3
    (by rw [nn sp h1, nn n h3]; show ¬ _ > ((arrV (G.2.2.1 1) n0 (fun j => .int (f j))).slots.size : Int); rw [arrV_size]; omega)
    (by rw [nn dp h2, nn n h3]; show ¬ _ > ((arrV (G.2.2.1 1) n1 (fun j => .int (g j))).slots.size : Int); rw [arrV_size]; omega)
    (fun vm₁ _ i hi => by
      have e : (vp_cell (G.2.2.1 1) (n0, .inl f)).slots.getD (sp.toNatClampNeg + i) .null = .int (f (sp.toNatClampNeg + i)) := by
        show (arrV (G.2.2.1 1) n0 (fun j => .int (f j))).slots.getD _ _ = _
        rw [Array.getD_eq_getD_getElem?, arrV_read _ _ (by omega)]
        rfl
      refine ⟨?_, ?_⟩
      · rw [e]
        rfl
      · rw [e]
        exact trivial)
    (g := F0 m pc lsA (.int n :: .int dp :: .ref a :: .int sp :: .ref a0 :: rest)) rfl (by rw [C0.2.2.1]; exact hml) (rest := rest) rfl (by rw [C0.2.1]; exact hdg) hframes (by show 2 * 0 + _ + 18 ≤ _; omega)
  have e1 : copied (vp_cell (G.2.2.1 1) (n0, .inl f)) (vp_cell (G.2.2.1 1) (n1, .inl g)) sp dp n = vp_cell (G.2.2.1 1) (n1, .inl (va_cpy f g sp.toNatClampNeg dp.toNatClampNeg n.toNatClampNeg)) := va_copied (fun z => .int z) (G.2.2.1 1) (G.2.2.1 1) f g h4
  rw [e1] at X' step
  have hl : a < H.size := (Array.getElem?_eq_some_iff.mp hc1).1
  have hheap : ((T.setVm vm').setCell a (vp_cell (G.2.2.1 1) (n1, .inl (va_cpy f g sp.toNatClampNeg dp.toNatClampNeg n.toNatClampNeg)))).heap = H.setIfInBounds a (vp_cell (G.2.2.1 1) (n1, .inl (va_cpy f g sp.toNatClampNeg dp.toNatClampNeg n.toNatClampNeg))) := by rw [← hT]; rfl
  have oq : ∀ q : Nat, q ≠ a → (H.setIfInBounds a (vp_cell (G.2.2.1 1) (n1, .inl (va_cpy f g sp.toNatClampNeg dp.toNatClampNeg n.toNatClampNeg))))[q]? = H[q]? := fun q hq => by simp [Array.getElem?_setIfInBounds, Ne.symm hq]
  obtain ⟨t, a1, b1⟩ := kk _ _ (show (H.setIfInBounds a _)[a]? = some _ by simp [Array.getElem?_setIfInBounds, hl]) (by simp) oq ⟨by simp; exact hS.1, fun q g1 g2 => by
      rw [oq q (fun e => g2 (by rw [e]; exact hB))]
      exact hS.2.1 q g1 g2, fun q hq => by
      rcases List.mem_append.mp hq with h | h
      · exact hS.2.2 q h
      · obtain ⟨z, -, hz⟩ := List.mem_map.mp h
        rw [← hz]
        exact hB⟩ _ hheap X'
  exact ⟨t, step t a1, b1⟩
theorem call_copy {own : String} {j : Nat} (w1 : Cond.methodLink own j arraycopyName ∈ tgw) (w2 : Cond.native arraycopyName ∈ tgw) (w3 : Cond.static arraycopyName ∈ tgw) (w4 : Cond.initialized "java/lang/System" ∈ tgw) : CallOK own (.invokestatic j) (5, 0, 0, 0, T_copy) := by
  intro G p l e R s m args below meth c nL sz0 sl0 Qs cc pc ls st as M K C0 hd hlen has hst hfr hlo hw hc1 hc2 hT kk
  dsimp only at hlen hfr hlo hc1 hc2 hT
  match as, hT, hlen, has with
  | [Sum.inr (Sum.inr (some a)), Sum.inl sp, Sum.inr (Sum.inr (some b)), Sum.inl dp, Sum.inl n], hT, _, has =>
    have rsp : inR sp := okS_h (okS_t has)
    have rdp : inR dp := okS_h (okS_t (okS_t (okS_t has)))
    have rn : inR n := okS_h (okS_t (okS_t (okS_t (okS_t has))))
    obtain ⟨ka, kb, h0, h1, h2, h3, h4, hT⟩ : (M.2.2.1 a).1 = 1 ∧ (M.2.2.1 b).1 = 1 ∧ 0 ≤ sp ∧ 0 ≤ dp ∧ 0 ≤ n ∧ sp + n ≤ (M.2.2.1 a).2 ∧ dp + n ≤ (M.2.2.1 b).2 ∧ K none (M.1, M.2.1, M.2.2.1, M.2.2.2.1, fu M.2.2.2.2.1 b (fun i => if dp ≤ i ∧ i < dp + n then M.2.2.2.2.1 a (sp + (i - dp)) else M.2.2.2.2.1 b i), M.2.2.2.2.2) := hT
    intro H lsA locs g
    have ca := (RelM.cel g.2.1 (a := a) (by omega) (by omega)).1.arr (by omega) (by omega)
    obtain ⟨hcb, hB⟩ := RelM.cel g.2.1 (a := b) (by omega) (by omega)
    have cb := hcb.arr (by omega) (by omega)
    rw [ka] at ca
    rw [kb] at cb
    refine x_copy (rest := st.map conc) C0 g.1.1 w1 w2 w3 w4 g.2.2.1 (a0 := a) (a := b) (n0 := (M.2.2.1 a).2.toNat) (n1 := (M.2.2.1 b).2.toNat) (f := fun j => Int32.ofInt (M.2.2.2.2.1 a j)) (g := fun j => Int32.ofInt (M.2.2.2.2.1 b j)) ca cb hB (by rw [ofI0, ltI rsp inR_0]; omega) (by rw [ofI0, ltI rdp inR_0]; omega) (by rw [ofI0, ltI rn inR_0]; omega) (by rw [clampI rsp h0, clampI rn h2]; omega) (by rw [clampI rdp h1, clampI rn h2]; omega) (by omega) (by rw [stw_e]; omega) hd fun H1 locs1 e1 z1 oq hS1 => ?_
    refine kk none _ trivial hT H1 lsA locs1 ⟨g.1, RelM.put g.2.1 C0.2.2.2.2.2.2.2.2 hB (show (M.2.2.1 b).1 ≠ 6 by omega) z1 oq (fun _ _ => rfl) (fun x hx => fu_n hx) (fun _ _ => rfl) (Or.inl ⟨by show 1 ≤ (M.2.2.1 b).1; omega, by show (M.2.2.1 b).1 ≤ 3; omega, ?_⟩) (fun i => ?_), hS1, g.2.2.2⟩
    · show H1[b]? = some (arrV (G.2.2.1 (M.2.2.1 b).1) (M.2.2.1 b).2.toNat (fun j => .int (Int32.ofInt (fu M.2.2.2.2.1 b (fun i => if dp ≤ i ∧ i < dp + n then M.2.2.2.2.1 a (sp + (i - dp)) else M.2.2.2.2.1 b i) b j))))
      rw [e1, kb, vp_cell_i, fu_s, clampI rsp h0, clampI rdp h1, clampI rn h2]
      congr 2
      funext j
      unfold va_cpy
      by_cases hj : dp.toNat ≤ j ∧ j < dp.toNat + n.toNat
      · have e : ((sp.toNat + (j - dp.toNat) : Nat) : Int) = sp + ((j : Int) - dp) := by omega
        rw [if_pos hj, if_pos (by omega)]
        dsimp only
        rw [e]
      · rw [if_neg hj, if_neg (by omega)]
    · show inR (fu M.2.2.2.2.1 b (fun i => if dp ≤ i ∧ i < dp + n then M.2.2.2.2.1 a (sp + (i - dp)) else M.2.2.2.2.1 b i) b i)
      rw [fu_s]
      split
      · exact g.ok a _
      · exact g.ok b i
end CPY
/-! ===== a method's table; the machine is sound ===== -/
def plk : List (Nat × Option (List Nat) × Instr × List Nat) → Nat → Option (List Nat) × Instr × List Nat
  | [], _ => (some [], .nop, [])
  | q :: t, pc => if q.1 = pc then q.2 else plk t pc
def llk {α : Type} (d : α) : List (Nat × α) → Nat → α
  | [], _ => d
  | q :: t, i => if q.1 = i then q.2 else llk d t i
def ilen : Instr → Nat
  | .aload _ | .astore _ | .bipush _ | .iload _ | .istore _ | .ldc _ | .lload _ | .lstore _ | .newarray _ => 2
  | .anewarray _ | .getfield _ | .getstatic _ | .goto _ | .if_icmp _ _ | .ifCond _ _ | .ifnonnull _ | .ifnull _ | .iinc _ _ | .invokespecial _ | .invokestatic _ | .invokevirtual _ | .ldc2_w _ | .new _ | .putfield _ | .sipush _ => 3
  | _ => 1
def lclOK (nL : Nat) : Instr → Bool
  | .istore k => decide (k < nL)
  | .astore k => decide (k < nL)
  | .lstore k => decide (k + 1 < nL)
  | .istore_n k => decide (k.val < nL)
  | .astore_n k => decide (k.val < nL)
  | .lstore_n k => decide (k.val + 1 < nL)
  | .iinc k _ => decide (k < nL)
  | _ => true
def insOK (cc : ByteArray) (nL pc : Nat) (i : Instr) (ts : List Nat) : Bool := match i with
  | .tableswitch df lo hi offs => (match decode cc pc with | .ok (i', _) => decide (i' = i) | _ => false) && (match ts with
     | t :: ts => decide ((pc : Int) + df = (t : Int)) && decide ((hi - lo + 1).toNat ≤ ts.length) && decide (ts.length = offs.toList.length) && (offs.toList.zip ts).all (fun q => decide ((pc : Int) + q.1 = (q.2 : Int)))
     | [] => false)
  | .lookupswitch df ps => (match decode cc pc with | .ok (i', _) => decide (i' = i) | _ => false) && (ps.toList.zip (ps.toList.drop 1)).all (fun (a, next) => a.1 < next.1) && (match ts with
     | t :: ts => decide ((pc : Int) + df = (t : Int)) && decide (ps.toList.length ≤ ts.length) && (ps.toList.zip ts).all (fun q => decide ((pc : Int) + q.1.2 = (q.2 : Int)))
     | [] => false)
  | .goto off => decide (decode cc pc = .ok (i, 3)) && (match ts with | [t] => decide ((pc : Int) + off = (t : Int)) | _ => false)
  | .ifnull off => decide (decode cc pc = .ok (i, 3)) && (match ts with | [t] => decide ((pc : Int) + off = (t : Int)) | _ => false)
  | .ifnonnull off => decide (decode cc pc = .ok (i, 3)) && (match ts with | [t] => decide ((pc : Int) + off = (t : Int)) | _ => false)
  | .if_icmp _ off => decide (decode cc pc = .ok (i, 3)) && (match ts with | [t] => decide ((pc : Int) + off = (t : Int)) | _ => false)
  | .ifCond _ off => decide (decode cc pc = .ok (i, 3)) && (match ts with | [t] => decide ((pc : Int) + off = (t : Int)) | _ => false)
  | i => decide (decode cc pc = .ok (i, ilen i)) && lclOK nL i
def tblOK (cc : ByteArray) (nL : Nat) (t : List (Nat × Option (List Nat) × Instr × List Nat)) : Bool := t.all (fun q => insOK cc nL q.1 q.2.2.1 q.2.2.2)
theorem plk_x {t : List (Nat × Option (List Nat) × Instr × List Nat)} {pc : Nat} : plk t pc = (some [], .nop, []) ∨ (pc, plk t pc) ∈ t := by
  induction t with
  | nil => exact Or.inl rfl
  | cons q t ih =>
    unfold plk
    by_cases e : q.1 = pc
    · rw [if_pos e]
      right
      rw [← e]
      exact List.mem_cons_self
    · rw [if_neg e]
      rcases ih with h | h
      · exact Or.inl h
      · exact Or.inr (List.mem_cons_of_mem _ h)
def retOK (x : Nat) (r : Option FieldType) : Prop := (x = 0 → r = some .int) ∧ (x = 1 → r = some .boolean) ∧ (x = 2 → r = some .long) ∧ (x = 3 → r = none) ∧ (x = 4 → ∃ n, r = some (.object n))
/-- what must be known of a method's context -/
def Xok (own : String) (X : Cx) : Prop := (∀ j, flOK own j (xfl X j)) ∧ (∀ j, xnc X j < 12 → ncOK own j (xnc X j)) ∧ (∀ j, xnc X j = 77 → Cond.fieldLink own j "PictureReader" "WIDTHS" "[I" ∈ tgw) ∧ (∀ j z, xkc X j = some z → Jvm.Cond.constant own j (Int32.ofInt z) ∈ tgw) ∧ (∀ j z, xkl X j = some z → Jvm.Cond.constantLong own j z ∈ tgw) ∧
  (∀ j, CallOK own (.invokevirtual j) (xE X (4 * j)) ∧ CallOK own (.invokespecial j) (xE X (4 * j + 1)) ∧ CallOK own (.invokestatic j) (xE X (4 * j + 2)))
section FIN
variable {G : Gp} {p : Program} {l : Launch} {e : Env} {R : Room} {s : State} {m : MethodId} {args : Array Value} {below : List Frame} {meth : Method} {c : Code} {nL sz0 sl0 : Nat} {Qs : State → Prop} {cc : ByteArray} {own : String}
variable {X : Cx} {lim : Nat × Nat} {Q : Option AV → Mm → Prop} {K : Nat → Lc → List AV → Mm → Prop} {ts : List Nat} {pc : Nat} {ls : Lc} {st : List AV} {M : Mm}
variable {k : Option AV → Mm → Prop} {M0 : Mm} {mc ms : Nat}
theorem of_dec {i : Instr} (h : (decide (decode cc pc = .ok (i, ilen i)) && lclOK nL i) = true) : decode cc pc = .ok (i, ilen i) := by
  simp only [Bool.and_eq_true, decide_eq_true_eq] at h
  exact h.1
theorem of_lcl {i : Instr} (h : (decide (decode cc pc = .ok (i, ilen i)) && lclOK nL i) = true) : lclOK nL i = true := by
  simp only [Bool.and_eq_true] at h
  exact h.2
theorem of_br {i : Instr} {off : Int} (h : (decide (decode cc pc = .ok (i, 3)) && (match ts with | [t] => decide ((pc : Int) + off = (t : Int)) | _ => false)) = true) : decode cc pc = .ok (i, 3) ∧ ∃ t, ts = [t] ∧ (pc : Int) + off = (t : Int) := by
  simp only [Bool.and_eq_true, decide_eq_true_eq] at h
  refine ⟨h.1, ?_⟩
  match ts, h.2 with
  | [t], h => exact ⟨t, rfl, by simpa using h⟩
theorem s_inv {op : Instr} {x : Nat × Nat × Nat × Nat × Tr} (C0 : Cok G p s m args meth c cc nL own) (hK : ∀ pc ls st M, okS st → okL ls → K pc ls st M → Go G p l e R s m args below meth c nL sz0 sl0 Qs pc ls st M) (hx : CallOK own op x) (hR : xd X ≤ R.frames ∧ 46 * xd X ≤ R.locals) (hd : decode cc pc = .ok (op, 3)) (hS : okS st) (hL : okL ls) (h : callE x (xd X) (sz0 + R.cells, sl0 + R.slots) st M (fun st M => K (pc + 3) ls st M)) : Go G p l e R s m args below meth c nL sz0 sl0 Qs pc ls st M := by
  obtain ⟨na, dc, mc, ms, T⟩ := x
  obtain ⟨bs, st', h1, h2, h3⟩ := popN_x (show popN na st [] _ from h)
  subst h2
  obtain ⟨hdc, hst, hc1, hc2, hT⟩ := h3
  rw [List.append_nil] at hT
  have ho1 : okS bs := fun v hv => hS v (List.mem_append_left _ (List.mem_reverse.mpr hv))
  have ho2 : okS st' := fun v hv => hS v (List.mem_append_right _ hv)
  refine hx G p l e R s m args below meth c nL sz0 sl0 Qs cc pc ls st' bs M _ C0 hd h1 ho1 ho2 (by show dc + 1 ≤ _; omega) (by show 46 * dc + 46 ≤ _; omega) hst hc1 hc2 hT (fun r M' hr hk => hK _ _ _ _ ?_ hL hk)
  cases r with
  | none => exact ho2
  | some v => exact okS_c hr ho2
theorem s_tabw {df lo hi' : Int} {offs : Array Int} (C0 : Cok G p s m args meth c cc nL own) (hK : ∀ pc ls st M, okS st → okL ls → K pc ls st M → Go G p l e R s m args below meth c nL sz0 sl0 Qs pc ls st M) (hi : insOK cc nL pc (.tableswitch df lo hi' offs) ts = true) (hS : okS st) (hL : okL ls) (h : stepI X lim Q K (.tableswitch df lo hi' offs) ts pc ls st M) : Go G p l e R s m args below meth c nL sz0 sl0 Qs pc ls st M := by
  cases ts with
  | nil => exact h.elim
  | cons t ts =>
    have hi : ((match decode cc pc with | .ok (i', _) => decide (i' = .tableswitch df lo hi' offs) | _ => false) && (decide ((pc : Int) + df = (t : Int)) && decide ((hi' - lo + 1).toNat ≤ ts.length) && decide (ts.length = offs.toList.length) && (offs.toList.zip ts).all (fun q => decide ((pc : Int) + q.1 = (q.2 : Int))))) = true := hi
    simp only [Bool.and_eq_true] at hi
    obtain ⟨hd, hi⟩ := hi
    have hd : ∃ ln, decode cc pc = .ok (.tableswitch df lo hi' offs, ln) := by
      cases hdd : decode cc pc with
      | error _ => rw [hdd] at hd; cases hd
      | ok x => rw [hdd] at hd; obtain ⟨i', ln⟩ := x; exact ⟨ln, by rw [of_decide_eq_true hd]⟩
    obtain ⟨ln, hd⟩ := hd
    simp only [decide_eq_true_eq, List.all_eq_true] at hi
    obtain ⟨⟨⟨h1, h2⟩, h3⟩, h4⟩ := hi
    refine s_tableswitch h1 h2 (fun k t' hk => ?_) C0 hK hd hS hL h
    have hl := (List.getElem?_eq_some_iff.mp hk).1
    refine ⟨offs.toList[k]'(by omega), by rw [← Array.getElem?_toList]; exact List.getElem?_eq_getElem (by omega), ?_⟩
    refine h4 (offs.toList[k]'(by omega), t') (List.mem_of_getElem? (i := k) ?_)
    rw [List.getElem?_zip_eq_some]
    exact ⟨List.getElem?_eq_getElem (by omega), hk⟩
theorem s_lkpw {df : Int} {ps : Array (Int × Int)} (C0 : Cok G p s m args meth c cc nL own) (hK : ∀ pc ls st M, okS st → okL ls → K pc ls st M → Go G p l e R s m args below meth c nL sz0 sl0 Qs pc ls st M) (hi : insOK cc nL pc (.lookupswitch df ps) ts = true) (hS : okS st) (hL : okL ls) (h : stepI X lim Q K (.lookupswitch df ps) ts pc ls st M) : Go G p l e R s m args below meth c nL sz0 sl0 Qs pc ls st M := by
  cases ts with
  | nil => exact h.elim
  | cons t ts =>
    have hi : ((match decode cc pc with | .ok (i', _) => decide (i' = .lookupswitch df ps) | _ => false) && (ps.toList.zip (ps.toList.drop 1)).all (fun (a, next) => a.1 < next.1) && (decide ((pc : Int) + df = (t : Int)) && decide (ps.toList.length ≤ ts.length) && (ps.toList.zip ts).all (fun q => decide ((pc : Int) + q.1.2 = (q.2 : Int))))) = true := hi
    rw [Bool.and_eq_true, Bool.and_eq_true, Bool.and_eq_true, Bool.and_eq_true] at hi
    obtain ⟨⟨hd, hsrt⟩, ⟨h1, h2⟩, h4⟩ := hi
    have hd : ∃ ln, decode cc pc = .ok (.lookupswitch df ps, ln) := by
      cases hdd : decode cc pc with
      | error _ => rw [hdd] at hd; cases hd
      | ok x => rw [hdd] at hd; obtain ⟨i', ln⟩ := x; exact ⟨ln, by rw [of_decide_eq_true hd]⟩
    obtain ⟨ln, hd⟩ := hd
    simp only [decide_eq_true_eq, List.all_eq_true] at h1 h2 h4
    refine s_lookupswitch hsrt h1 h2 (fun k q t' hq hk => ?_) C0 hK hd hS hL h
    refine h4 (q, t') (List.mem_of_getElem? (i := k) ?_)
    rw [List.getElem?_zip_eq_some]
    exact ⟨hq, hk⟩
theorem step_ok (C0 : Cok G p s m args meth c cc nL own) (hX : Xok own X) (hR : xd X ≤ R.frames ∧ 46 * xd X ≤ R.locals) (hret : retOK (xrb X) meth.sig.returnType) (hini : xin X = true → meth.name = "<init>") (hK : ∀ pc ls st M, okS st → okL ls → K pc ls st M → Go G p l e R s m args below meth c nL M0.1 M0.2.1 (MQ below (QcG G k M0 mc ms) args s mc ms (Bs G)) pc ls st M) {i : Instr} (hi : insOK cc nL pc i ts = true) (hS : okS st) (hL : okL ls) (h : stepI X (M0.1 + R.cells, M0.2.1 + R.slots) (fun r M => k r M ∧ M.1 = M0.1 + mc ∧ M.2.1 = M0.2.1 + ms) K i ts pc ls st M) : Go G p l e R s m args below meth c nL M0.1 M0.2.1 (MQ below (QcG G k M0 mc ms) args s mc ms (Bs G)) pc ls st M := by
  obtain ⟨hX1, hX2, hX3, hX4, hX5, hX6⟩ := hX
  match i, hi, h with
  | .iload_n k, hi, h => exact s_iload_n C0 hK (of_dec hi) hS hL h
  | .iload k, hi, h => exact s_iload C0 hK (of_dec hi) hS hL h
  | .lload_n k, hi, h => exact s_lload_n C0 hK (of_dec hi) hS hL h
  | .lload k, hi, h => exact s_lload C0 hK (of_dec hi) hS hL h
  | .aload_n k, hi, h => exact s_aload_n C0 hK (of_dec hi) hS hL h
  | .aload k, hi, h => exact s_aload C0 hK (of_dec hi) hS hL h
  | .iconst _, hi, h => exact s_iconst C0 hK (of_dec hi) hS hL h
  | .bipush _, hi, h => exact s_bipush C0 hK (of_dec hi) hS hL h
  | .sipush _, hi, h => exact s_sipush C0 hK (of_dec hi) hS hL h
  | .lconst _, hi, h => exact s_lconst C0 hK (of_dec hi) hS hL h
  | .aconst_null, hi, h => exact s_aconst_null C0 hK (of_dec hi) hS hL h
  | .dup, hi, h => exact s_dup C0 hK (of_dec hi) hS hL h
  | .dup2, hi, h => exact s_dup2 C0 hK (of_dec hi) hS hL h
  | .iadd, hi, h => exact s_iadd C0 hK (of_dec hi) hS hL h
  | .isub, hi, h => exact s_isub C0 hK (of_dec hi) hS hL h
  | .imul, hi, h => exact s_imul C0 hK (of_dec hi) hS hL h
  | .idiv, hi, h => exact s_idiv C0 hK (of_dec hi) hS hL h
  | .irem, hi, h => exact s_irem C0 hK (of_dec hi) hS hL h
  | .iand, hi, h => exact s_iand C0 hK (of_dec hi) hS hL h
  | .ior, hi, h => exact s_ior C0 hK (of_dec hi) hS hL h
  | .ishl, hi, h => exact s_ishl C0 hK (of_dec hi) hS hL h
  | .ishr, hi, h => exact s_ishr C0 hK (of_dec hi) hS hL h
  | .ladd, hi, h => exact s_ladd C0 hK (of_dec hi) hS hL h
  | .lmul, hi, h => exact s_lmul C0 hK (of_dec hi) hS hL h
  | .lor, hi, h => exact s_lor C0 hK (of_dec hi) hS hL h
  | .lxor, hi, h => exact s_lxor C0 hK (of_dec hi) hS hL h
  | .lshl, hi, h => exact s_lshl C0 hK (of_dec hi) hS hL h
  | .lushr, hi, h => exact s_lushr C0 hK (of_dec hi) hS hL h
  | .lcmp, hi, h => exact s_lcmp C0 hK (of_dec hi) hS hL h
  | .i2b, hi, h => exact s_i2b C0 hK (of_dec hi) hS hL h
  | .i2l, hi, h => exact s_i2l C0 hK (of_dec hi) hS hL h
  | .l2i, hi, h => exact s_l2i C0 hK (of_dec hi) hS hL h
  | .iaload, hi, h => exact s_iaload C0 hK (of_dec hi) hS hL h
  | .baload, hi, h => exact s_baload C0 hK (of_dec hi) hS hL h
  | .laload, hi, h => exact s_laload C0 hK (of_dec hi) hS hL h
  | .aaload, hi, h => exact s_aaload C0 hK (of_dec hi) hS hL h
  | .iastore, hi, h => exact s_iastore C0 hK (of_dec hi) hS hL h
  | .bastore, hi, h => exact s_bastore C0 hK (of_dec hi) hS hL h
  | .lastore, hi, h => exact s_lastore C0 hK (of_dec hi) hS hL h
  | .aastore, hi, h => exact s_aastore C0 hK (of_dec hi) hS hL h
  | .arraylength, hi, h => exact s_arraylength C0 hK (of_dec hi) hS hL h
  | .newarray _, hi, h => exact s_newarray C0 hK (of_dec hi) hS hL h
  | .istore_n k, hi, h => exact s_istore_n (of_decide_eq_true (of_lcl hi)) C0 hK (of_dec hi) hS hL h
  | .istore k, hi, h => exact s_istore (of_decide_eq_true (of_lcl hi)) C0 hK (of_dec hi) hS hL h
  | .astore_n k, hi, h => exact s_astore_n (of_decide_eq_true (of_lcl hi)) C0 hK (of_dec hi) hS hL h
  | .astore k, hi, h => exact s_astore (of_decide_eq_true (of_lcl hi)) C0 hK (of_dec hi) hS hL h
  | .lstore_n k, hi, h => exact s_lstore_n (of_decide_eq_true (of_lcl hi)) C0 hK (of_dec hi) hS hL h
  | .lstore k, hi, h => exact s_lstore (of_decide_eq_true (of_lcl hi)) C0 hK (of_dec hi) hS hL h
  | .iinc k n, hi, h => exact s_iinc (of_decide_eq_true (of_lcl hi)) C0 hK (of_dec hi) hS hL h
  | .ldc j, hi, h => exact s_ldc (hX4 j) C0 hK (of_dec hi) hS hL h
  | .ldc2_w j, hi, h => exact s_ldc2_w (hX5 j) C0 hK (of_dec hi) hS hL h
  | .getfield j, hi, h => exact s_getfield (hX1 j) C0 hK (of_dec hi) hS hL h
  | .putfield j, hi, h => exact s_putfield (hX1 j) hini C0 hK (of_dec hi) hS hL h
  | .getstatic j, hi, h => exact s_getstatic (hX3 j) C0 hK (of_dec hi) hS hL h
  | .new j, hi, h => exact s_new (hX2 j) C0 hK (of_dec hi) hS hL h
  | .anewarray j, hi, h =>
    have hw : xnc X j = 3 → Cond.classLink own j "PictureReader$Picture" ∈ tgw := by
      intro e3
      obtain ⟨q, hq, hw, -⟩ := hX2 j (by omega)
      rw [e3] at hq
      cases hq
      exact hw
    exact s_anewarray hw C0 hK (of_dec hi) hS hL h
  | .invokevirtual j, hi, h => exact s_inv C0 hK (hX6 j).1 hR (of_dec hi) hS hL h
  | .invokespecial j, hi, h => exact s_inv C0 hK (hX6 j).2.1 hR (of_dec hi) hS hL h
  | .invokestatic j, hi, h => exact s_inv C0 hK (hX6 j).2.2 hR (of_dec hi) hS hL h
  | .if_icmp .eq off, hi, h =>
    obtain ⟨hd, t, rfl, ht⟩ := of_br hi
    exact s_icmp_eq ht C0 hK hd hS hL h
  | .ifCond .eq off, hi, h =>
    obtain ⟨hd, t, rfl, ht⟩ := of_br hi
    exact s_if_eq ht C0 hK hd hS hL h
  | .if_icmp .ne off, hi, h =>
    obtain ⟨hd, t, rfl, ht⟩ := of_br hi
    exact s_icmp_ne ht C0 hK hd hS hL h
  | .ifCond .ne off, hi, h =>
    obtain ⟨hd, t, rfl, ht⟩ := of_br hi
    exact s_if_ne ht C0 hK hd hS hL h
  | .if_icmp .lt off, hi, h =>
    obtain ⟨hd, t, rfl, ht⟩ := of_br hi
    exact s_icmp_lt ht C0 hK hd hS hL h
  | .ifCond .lt off, hi, h =>
    obtain ⟨hd, t, rfl, ht⟩ := of_br hi
    exact s_if_lt ht C0 hK hd hS hL h
  | .if_icmp .ge off, hi, h =>
    obtain ⟨hd, t, rfl, ht⟩ := of_br hi
    exact s_icmp_ge ht C0 hK hd hS hL h
  | .ifCond .ge off, hi, h =>
    obtain ⟨hd, t, rfl, ht⟩ := of_br hi
    exact s_if_ge ht C0 hK hd hS hL h
  | .if_icmp .gt off, hi, h =>
    obtain ⟨hd, t, rfl, ht⟩ := of_br hi
    exact s_icmp_gt ht C0 hK hd hS hL h
  | .ifCond .gt off, hi, h =>
    obtain ⟨hd, t, rfl, ht⟩ := of_br hi
    exact s_if_gt ht C0 hK hd hS hL h
  | .if_icmp .le off, hi, h =>
    obtain ⟨hd, t, rfl, ht⟩ := of_br hi
    exact s_icmp_le ht C0 hK hd hS hL h
  | .ifCond .le off, hi, h =>
    obtain ⟨hd, t, rfl, ht⟩ := of_br hi
    exact s_if_le ht C0 hK hd hS hL h
  | .goto off, hi, h =>
    obtain ⟨hd, t, rfl, ht⟩ := of_br hi
    exact s_goto ht C0 hK hd hS hL h
  | .ifnull off, hi, h =>
    obtain ⟨hd, t, rfl, ht⟩ := of_br hi
    exact s_ifnull ht C0 hK hd hS hL h
  | .ifnonnull off, hi, h =>
    obtain ⟨hd, t, rfl, ht⟩ := of_br hi
    exact s_ifnonnull ht C0 hK hd hS hL h
  | .tableswitch df lo hi' offs, hi, h => exact s_tabw C0 hK hi hS hL h
  | .lookupswitch df ps, hi, h => exact s_lkpw C0 hK hi hS hL h
  | .ireturn, hi, h => exact s_ireturn C0 (of_dec hi) hS hret.1 hret.2.1 h
  | .lreturn, hi, h => exact s_lreturn C0 (of_dec hi) hS hret.2.2.1 h
  | .areturn, hi, h => exact s_areturn C0 (of_dec hi) hS hret.2.2.2.2 h
  | .return_, hi, h => exact s_return_ C0 (of_dec hi) hS hret.2.2.2.1 h
  | .athrow, _, h => exact h.elim
  | .caload, _, h => exact h.elim
  | .castore, _, h => exact h.elim
  | .checkcast _, _, h => exact h.elim
  | .d2f, _, h => exact h.elim
  | .d2i, _, h => exact h.elim
  | .d2l, _, h => exact h.elim
  | .dadd, _, h => exact h.elim
  | .daload, _, h => exact h.elim
  | .dastore, _, h => exact h.elim
  | .dcmp _, _, h => exact h.elim
  | .dconst _, _, h => exact h.elim
  | .ddiv, _, h => exact h.elim
  | .dload _, _, h => exact h.elim
  | .dload_n _, _, h => exact h.elim
  | .dmul, _, h => exact h.elim
  | .dneg, _, h => exact h.elim
  | .drem, _, h => exact h.elim
  | .dreturn, _, h => exact h.elim
  | .dstore _, _, h => exact h.elim
  | .dstore_n _, _, h => exact h.elim
  | .dsub, _, h => exact h.elim
  | .dup_x1, _, h => exact h.elim
  | .dup_x2, _, h => exact h.elim
  | .dup2_x1, _, h => exact h.elim
  | .dup2_x2, _, h => exact h.elim
  | .f2d, _, h => exact h.elim
  | .f2i, _, h => exact h.elim
  | .f2l, _, h => exact h.elim
  | .fadd, _, h => exact h.elim
  | .faload, _, h => exact h.elim
  | .fastore, _, h => exact h.elim
  | .fcmp _, _, h => exact h.elim
  | .fconst _, _, h => exact h.elim
  | .fdiv, _, h => exact h.elim
  | .fload _, _, h => exact h.elim
  | .fload_n _, _, h => exact h.elim
  | .fmul, _, h => exact h.elim
  | .fneg, _, h => exact h.elim
  | .frem, _, h => exact h.elim
  | .freturn, _, h => exact h.elim
  | .fstore _, _, h => exact h.elim
  | .fstore_n _, _, h => exact h.elim
  | .fsub, _, h => exact h.elim
  | .goto_w _, _, h => exact h.elim
  | .i2c, _, h => exact h.elim
  | .i2d, _, h => exact h.elim
  | .i2f, _, h => exact h.elim
  | .i2s, _, h => exact h.elim
  | .if_acmp _ _, _, h => exact h.elim
  | .ineg, _, h => exact h.elim
  | .instanceof _, _, h => exact h.elim
  | .invokedynamic _, _, h => exact h.elim
  | .invokeinterface _ _, _, h => exact h.elim
  | .iushr, _, h => exact h.elim
  | .ixor, _, h => exact h.elim
  | .jsr _, _, h => exact h.elim
  | .jsr_w _, _, h => exact h.elim
  | .l2d, _, h => exact h.elim
  | .l2f, _, h => exact h.elim
  | .land, _, h => exact h.elim
  | .ldc_w _, _, h => exact h.elim
  | .ldiv, _, h => exact h.elim
  | .lneg, _, h => exact h.elim
  | .lrem, _, h => exact h.elim
  | .lshr, _, h => exact h.elim
  | .lsub, _, h => exact h.elim
  | .monitorenter, _, h => exact h.elim
  | .monitorexit, _, h => exact h.elim
  | .multianewarray _ _, _, h => exact h.elim
  | .nop, _, h => exact h.elim
  | .pop, _, h => exact h.elim
  | .pop2, _, h => exact h.elim
  | .putstatic _, _, h => exact h.elim
  | .ret _, _, h => exact h.elim
  | .saload, _, h => exact h.elim
  | .sastore, _, h => exact h.elim
  | .swap, _, h => exact h.elim
theorem wp_ok {P : Nat → Option (List Nat) × Instr × List Nat} {tb : List (Nat × Option (List Nat) × Instr × List Nat)} {J : Nat → List AV → Mm → Prop} (C0 : Cok G p s m args meth c cc nL own) (hX : Xok own X) (hR : xd X ≤ R.frames ∧ 46 * xd X ≤ R.locals) (hret : retOK (xrb X) meth.sig.returnType) (hini : xin X = true → meth.name = "<init>") (hP : P = plk tb) (htb : tblOK cc nL tb = true)
    (hJ : ∀ ct vs M, okS vs → vs.length = ((P ct).1.getD []).length → J ct vs M → Go G p l e R s m args below meth c nL M0.1 M0.2.1 (MQ below (QcG G k M0 mc ms) args s mc ms (Bs G)) ct (((P ct).1.getD []).zip vs) [] M) : ∀ (n pc : Nat) (ls : Lc) (st : List AV) (M : Mm), okS st → okL ls → wp X P (M0.1 + R.cells, M0.2.1 + R.slots) (fun r M => k r M ∧ M.1 = M0.1 + mc ∧ M.2.1 = M0.2.1 + ms) J n pc ls st M → Go G p l e R s m args below meth c nL M0.1 M0.2.1 (MQ below (QcG G k M0 mc ms) args s mc ms (Bs G)) pc ls st M := by
  intro n
  induction n with
  | zero => intro pc ls st M _ _ h; exact h.elim
  | succ n ih =>
    intro pc ls st M hS hL h
    have h : wq X _ _ J _ (P pc) pc ls st M := h
    cases hp : P pc with
    | mk o x =>
      rw [hp] at h
      obtain ⟨i, ts⟩ := x
      cases o with
      | some is =>
        obtain ⟨hst0, h5⟩ : st = [] ∧ pick is ls (fun vs => J pc vs M) := h
        clear h
        subst hst0
        obtain ⟨vs, h1, h2, h3⟩ := pick_x h5
        have e : (P pc).1.getD [] = is := by rw [hp]; rfl
        have hgo := hJ pc vs M (fun v hv => ?_) (by rw [e]; exact h1) h3
        · rw [e] at hgo
          intro H lsA locs g
          refine hgo H lsA locs (g.lc ⟨g.1.1, g.1.2.1, fun q hq => ?_⟩)
          obtain ⟨q', hq', rfl⟩ := List.mem_map.mp hq
          exact g.1.2.2 _ (List.mem_map.mpr ⟨q', h2 q' hq', rfl⟩)
        · obtain ⟨j, hj, hjv⟩ := List.getElem_of_mem hv
          have hm : (is[j]'(by omega), v) ∈ is.zip vs := List.mem_of_getElem? (i := j) (by rw [List.getElem?_zip_eq_some]; exact ⟨List.getElem?_eq_getElem (by omega), by rw [← hjv]; exact List.getElem?_eq_getElem hj⟩)
          exact hL _ (h2 _ hm)
      | none =>
        have hi : insOK cc nL pc i ts = true := by
          rcases plk_x (t := tb) (pc := pc) with h' | h'
          · rw [← hP, hp] at h'; cases h'
          · rw [← hP, hp] at h'
            exact List.all_eq_true.mp htb _ h'
        exact step_ok C0 hX hR hret hini (fun pc ls st M => ih pc ls st M) hi hS hL h
theorem wps_ok {P : Nat → Option (List Nat) × Instr × List Nat} {tb : List (Nat × Option (List Nat) × Instr × List Nat)} {J : Nat → List AV → Mm → Prop} (C0 : Cok G p s m args meth c cc nL own) (hX : Xok own X) (hR : xd X ≤ R.frames ∧ 46 * xd X ≤ R.locals) (hret : retOK (xrb X) meth.sig.returnType) (hini : xin X = true → meth.name = "<init>") (hP : P = plk tb) (htb : tblOK cc nL tb = true)
    (hJ : ∀ ct vs M, okS vs → vs.length = ((P ct).1.getD []).length → J ct vs M → Go G p l e R s m args below meth c nL M0.1 M0.2.1 (MQ below (QcG G k M0 mc ms) args s mc ms (Bs G)) ct (((P ct).1.getD []).zip vs) [] M) {n : Nat} (hS : okS st) (hL : okL ls) (h : wps X P (M0.1 + R.cells, M0.2.1 + R.slots) (fun r M => k r M ∧ M.1 = M0.1 + mc ∧ M.2.1 = M0.2.1 + ms) J n pc ls st M) : Go G p l e R s m args below meth c nL M0.1 M0.2.1 (MQ below (QcG G k M0 mc ms) args s mc ms (Bs G)) pc ls st M := by
  have hi : insOK cc nL pc (P pc).2.1 (P pc).2.2 = true ∨ P pc = (some [], .nop, []) := by
    rcases plk_x (t := tb) (pc := pc) with h' | h'
    · rw [← hP] at h'; exact Or.inr h'
    · rw [← hP] at h'; exact Or.inl (List.all_eq_true.mp htb _ h')
  rcases hi with hi | hi
  · exact step_ok C0 hX hR hret hini (fun pc ls st M => wp_ok C0 hX hR hret hini hP htb hJ n pc ls st M) hi hS hL h
  · unfold wps at h
    rw [hi] at h
    exact h.elim
end FIN
/-- a method's contract out of its computed conditions: from its start, and from every cut, to the next cut or the end; a measure falls from cut to cut -/
theorem snd_of {y : MethodName} {b : ByteArray} {n dc mc ms : Nat} {r : Option FieldType} {T : Tr} {X : Cx} {own : String} {P : Nat → Option (List Nat) × Instr × List Nat} {tb : List (Nat × Option (List Nat) × Instr × List Nat)} (hy : plainName y.cls = true) (hcls : y.cls = own) (hP : P = plk tb) (htb : tblOK b n tb = true) (hX : Xok own X) (hd : xd X = dc) (hret : retOK (xrb X) r) (hini : xin X = true → y.name = "<init>")
    (body : ∀ (as : List AV) (M : Mm) (k : Option AV → Mm → Prop), okS as → okM M → T as M k → (lg_sl (as.map conc)).length ≤ n ∧ ∃ (J : Nat → List AV → Mm → Prop) (μ : Nat → List AV → Mm → Nat) (N : Nat),
      wps X P (M.1 + mc, M.2.1 + ms) (fun r M' => k r M' ∧ M'.1 = M.1 + mc ∧ M'.2.1 = M.2.1 + ms) J N 0 (aargs 0 as) [] M ∧
      ∀ c vs M', okS vs → okM M' → vs.length = ((P c).1.getD []).length → J c vs M' → wps X P (M.1 + mc, M.2.1 + ms) (fun r M' => k r M' ∧ M'.1 = M.1 + mc ∧ M'.2.1 = M.2.1 + ms) (fun c' vs' M'' => J c' vs' M'' ∧ μ c' vs' M'' < μ c vs M') N c (((P c).1.getD []).zip vs) [] M') : Snd y b n r T dc mc ms := by
  intro l G as M k has hT
  refine Met.ofW (cc := b) (maxL := n) (ret := r) hy rfl ?_
  intro p e s m args below meth c s₁ B hml hv
  obtain ⟨rfl, hRel, hKS, hB0, hB1⟩ := hv
  have hts := atoms_spec (ws := Cond.code y b n r :: tgw) B.pre
  have hown : s.vm.findClass own = some m.cls := by rw [← hcls]; exact findClass_of_methodNamed B.named
  have hnm : meth.name = y.name := (name_of_methodNamed B.named B.method).1
  have C0 : Cok G p s m (as.map conc).toArray meth c b n own := ⟨B.exec, B.bytes, hml, hown, fun w hw => hts w (List.mem_cons_of_mem _ hw), hKS, B.notSynchronized, hB0, hB1⟩
  obtain ⟨hlen, J, μ, N, h0, hstep⟩ := body as M k has hRel.2.1 hT
  have hl := lv_entry (as.map conc) (n := n) hlen
  rw [aargs_e] at hl
  rw [lg_entry_eq]
  generalize (lg_sl (as.map conc) ++ List.replicate (n - (lg_sl (as.map conc)).length) Slot.unset).toArray = ls at hl ⊢
  have hR : xd X ≤ ({ frames := dc, cells := mc, slots := ms, locals := 46 * dc } : Room).frames ∧ 46 * xd X ≤ ({ frames := dc, cells := mc, slots := ms, locals := 46 * dc } : Room).locals := ⟨Nat.le_of_eq hd, by rw [hd]; exact Nat.le_refl _⟩
  have hrt : retOK (xrb X) meth.sig.returnType := by rw [B.returns]; exact hret
  have key : ∀ (w c' : Nat) (vs : List AV) (M' : Mm), μ c' vs M' < w → okS vs → vs.length = ((P c').1.getD []).length → J c' vs M' → Go G p l e ({ frames := dc, cells := mc, slots := ms, locals := 46 * dc }) s m (as.map conc).toArray below meth c n M.1 M.2.1 (MQ below (QcG G k M mc ms) (as.map conc).toArray s mc ms (Bs G)) c' (((P c').1.getD []).zip vs) [] M' := by
    intro w
    induction w with
    | zero => intro c' vs M' h; exact absurd h (Nat.not_lt_zero _)
    | succ w ih =>
      intro c' vs M' hw hvs hlv hJ
      intro H lsA locs g
      have hz : okL (((P c').1.getD []).zip vs) := fun q hq => hvs q.2 (List.of_mem_zip hq).2
      exact wps_ok (k := k) (M0 := M) (mc := mc) (ms := ms) C0 hX hR hrt (fun h => by rw [hnm]; exact hini h) hP htb (J := fun c2 vs2 M2 => J c2 vs2 M2 ∧ μ c2 vs2 M2 < μ c' vs M') (fun c2 vs2 M2 h1 h2 h3 => ih c2 vs2 M2 (by omega) h1 h2 h3.1) (fun v hv => by cases hv) hz (hstep c' vs M' hvs g.ok hlv hJ) H lsA locs g
  have hgo := wps_ok (k := k) (M0 := M) (mc := mc) (ms := ms) (l := l) (e := e) (below := below) C0 hX hR hrt (fun h => by rw [hnm]; exact hini h) hP htb (J := J) (fun c2 vs2 M2 h1 h2 h3 => key (μ c2 vs2 M2 + 1) c2 vs2 M2 (Nat.lt_succ_self _) h1 h2 h3) (fun v hv => by cases hv) (aargs_ok 0 as has) h0
  have h1 := hgo s.heap ls [] ⟨hl, hRel, va_S.rf, Nat.le_refl _, Nat.le_add_right _ _, Nat.le_refl _, Nat.le_add_right _ _⟩
  rw [Nat.sub_self, Nat.sub_self] at h1
  exact h1

/-! ===== the abstract machine's memory and the heap ===== -/
def conc : AV → Value
  | Sum.inl z => .int (Int32.ofInt z)
  | Sum.inr (Sum.inl x) => .long x
  | Sum.inr (Sum.inr none) => .null
  | Sum.inr (Sum.inr (some a)) => .ref a
def okv : AV → Prop
  | Sum.inl z => inR z
  | _ => True
def okS (st : List AV) : Prop := ∀ v ∈ st, okv v
def okL (ls : Lc) : Prop := ∀ q ∈ ls, okv q.2
def cnl (ls : Lc) : List (Nat × Value) := ls.map fun q => (q.1, conc q.2)
def okM (M : Mm) : Prop := ∀ a i, inR (M.2.2.2.2.1 a i)
theorem toI {z : Int} (h : inR z) : (Int32.ofInt z).toInt = z := by
  rw [Int32.toInt_ofInt]
  obtain ⟨h1, h2⟩ := h
  simp only [Int32.size]
  rw [Int.bmod_eq_of_le] <;> omega
theorem inR_toInt (x : Int32) : inR x.toInt := by
  have h1 := Int32.le_toInt x
  have h2 := Int32.toInt_lt x
  unfold inR
  omega
theorem ofI (x : Int32) : Int32.ofInt x.toInt = x := Int32.ofInt_toInt x
theorem eqI {a b : Int} (ha : inR a) (hb : inR b) : Int32.ofInt a = Int32.ofInt b ↔ a = b := by
  constructor
  · intro h
    have := congrArg Int32.toInt h
    rwa [toI ha, toI hb] at this
  · intro h; rw [h]
theorem ltI {a b : Int} (ha : inR a) (hb : inR b) : Int32.ofInt a < Int32.ofInt b ↔ a < b := by
  rw [Int32.lt_iff_toInt_lt, toI ha, toI hb]
theorem leI {a b : Int} (ha : inR a) (hb : inR b) : Int32.ofInt a ≤ Int32.ofInt b ↔ a ≤ b := by
  rw [Int32.le_iff_toInt_le, toI ha, toI hb]
theorem inR_0 : inR 0 := by unfold inR; omega
theorem ofI0 : (0 : Int32) = Int32.ofInt 0 := rfl
theorem addI {a b : Int} : Int32.ofInt a + Int32.ofInt b = Int32.ofInt (a + b) := (Int32.ofInt_add a b).symm
theorem subI {a b : Int} : Int32.ofInt a - Int32.ofInt b = Int32.ofInt (a - b) := (Int32.ofInt_sub a b).symm
theorem mulI {a b : Int} : Int32.ofInt a * Int32.ofInt b = Int32.ofInt (a * b) := (Int32.ofInt_mul a b).symm
theorem divI {a b : Int} (ha : inR a) (hb : inR b) (h0 : 0 ≤ a) (h1 : 0 < b) : Int32.ofInt a / Int32.ofInt b = Int32.ofInt (a / b) := by
  have hd : inR (a / b) := by
    have h2 : 0 ≤ a / b := Int.ediv_nonneg h0 (by omega)
    have h3 : a / b ≤ a := Int.ediv_le_self b h0
    unfold inR at *; omega
  have e : (Int32.ofInt a / Int32.ofInt b).toInt = (Int32.ofInt (a / b)).toInt := by
    rw [Int32.toInt_div, toI ha, toI hb, toI hd, Int.tdiv_eq_ediv_of_nonneg h0]
    unfold inR at hd
    rw [Int.bmod_eq_of_le] <;> omega
  exact Int32.toInt_inj.mp e
theorem remI {a b : Int} (ha : inR a) (hb : inR b) (h0 : 0 ≤ a) (h1 : 0 < b) : Int32.ofInt a - Int32.ofInt a / Int32.ofInt b * Int32.ofInt b = Int32.ofInt (a % b) := by
  rw [divI ha hb h0 h1, mulI, subI]
  congr 1
  have := Int.mul_ediv_add_emod a b
  rw [Int.mul_comm] at this
  omega
theorem andZ_e (a b : Int) : Int32.ofInt (andZ a b) = Int32.ofInt a &&& Int32.ofInt b := ofI _
theorem orZ_e (a b : Int) : Int32.ofInt (orZ a b) = Int32.ofInt a ||| Int32.ofInt b := ofI _
theorem shlZ_e (a b : Int) : Int32.ofInt (shlZ a b) = Int32.ofInt a <<< (Int32.ofInt b &&& 31) := ofI _
theorem shrZ_e (a b : Int) : Int32.ofInt (shrZ a b) = Int32.ofInt a >>> (Int32.ofInt b &&& 31) := ofI _
theorem i2bZ_e (a : Int) : Int32.ofInt (i2bZ a) = (Int32.ofInt a).toInt8.toInt32 := ofI _
theorem l2iZ_e (x : Int64) : Int32.ofInt (l2iZ x) = x.toInt32 := ofI _
theorem cmpL_e (x y : Int64) : Int32.ofInt (cmpL x y) = lg_cmp x y := by
  unfold cmpL lg_cmp
  split
  · rfl
  · split <;> rfl
theorem cmpL_R (x y : Int64) : inR (cmpL x y) := by
  unfold cmpL inR
  split
  · omega
  · split <;> omega
theorem i2l_e {a : Int} (h : inR a) : (Int32.ofInt a).toInt64 = Int64.ofInt a := by
  apply Int64.toInt_inj.mp
  rw [Int32.toInt_toInt64, toI h, Int64.toInt_ofInt]
  unfold inR at h
  rw [Int.bmod_eq_of_le] <;> simp only [Int64.size] <;> omega
theorem clampI {a : Int} (h : inR a) (h0 : 0 ≤ a) : (Int32.ofInt a).toNatClampNeg = a.toNat := by
  show (Int32.ofInt a).toInt.toNat = _
  rw [toI h]
theorem vp_inI {a : Int} {n : Nat} (h : inR a) (h0 : 0 ≤ a) (h1 : a < n) : vp_in (Int32.ofInt a) n := by
  unfold vp_in
  rw [clampI h h0, ofI0, ltI h inR_0]
  omega
theorem conc_i (z : Int) : conc (vI z) = .int (Int32.ofInt z) := rfl
theorem conc_l (z : Int64) : conc (vL z) = .long z := rfl
theorem conc_r (z : Nat) : conc (vR z) = .ref z := rfl
theorem conc_n : conc vN = .null := rfl
theorem conc_cat : ∀ v : AV, (conc v).category = acat v
  | Sum.inl _ => rfl
  | Sum.inr (Sum.inl _) => rfl
  | Sum.inr (Sum.inr none) => rfl
  | Sum.inr (Sum.inr (some _)) => rfl
theorem lget_mem : ∀ {ls : Lc} {i : Nat} {v : AV}, lget ls i = some v → (i, v) ∈ ls
  | [], _, _, h => by cases h
  | q :: t, i, v, h => by
    unfold lget at h
    split at h
    · rename_i e
      cases h
      rw [← e]
      exact List.mem_cons_self
    · exact List.mem_cons_of_mem _ (lget_mem h)
theorem lget_at {lsA : Array Slot} {nL : Nat} {ls : Lc} (h : lv_has lsA nL (cnl ls)) {i : Nat} {v : AV} (hv : lget ls i = some v) : lsA[i]? = some (.val (conc v)) :=
  h.2.2 (i, conc v) (List.mem_map.mpr ⟨(i, v), lget_mem hv, rfl⟩)
theorem lget_ok {ls : Lc} (h : okL ls) {i : Nat} {v : AV} (hv : lget ls i = some v) : okv v := h (i, v) (lget_mem hv)
theorem lrm1_e (i : Nat) : ∀ ls : Lc, (cnl ls).filter (fun q => !(q.1 == i) && !(q.1 + 1 == i && q.2.category == 2)) = cnl (lrm1 i ls)
  | [] => rfl
  | q :: t => by
    have ih := lrm1_e i t
    unfold cnl at ih ⊢
    have e2 : lrm1 i (q :: t) = if q.1 = i ∨ (q.1 + 1 = i ∧ acat q.2 = 2) then lrm1 i t else q :: lrm1 i t := rfl
    rw [List.map_cons, List.filter_cons, ih, e2]
    simp only [conc_cat]
    have e : (!(q.1 == i) && !(q.1 + 1 == i && acat q.2 == 2)) = true ↔ ¬ (q.1 = i ∨ (q.1 + 1 = i ∧ acat q.2 = 2)) := by
      simp only [Bool.and_eq_true, Bool.not_eq_true', beq_eq_false_iff_ne, Bool.and_eq_false_iff, ne_eq]
      omega
    by_cases h : q.1 = i ∨ (q.1 + 1 = i ∧ acat q.2 = 2)
    · rw [if_pos h, if_neg (fun z => e.mp z h)]
    · rw [if_neg h, if_pos (e.mpr h), List.map_cons]
theorem lrm2_e (i : Nat) : ∀ ls : Lc, (cnl ls).filter (fun q => !(q.1 == i) && (!(q.1 == i + 1) && !(q.1 + 1 == i && q.2.category == 2))) = cnl (lrm2 i ls)
  | [] => rfl
  | q :: t => by
    have ih := lrm2_e i t
    unfold cnl at ih ⊢
    have e2 : lrm2 i (q :: t) = if q.1 = i ∨ q.1 = i + 1 ∨ (q.1 + 1 = i ∧ acat q.2 = 2) then lrm2 i t else q :: lrm2 i t := rfl
    rw [List.map_cons, List.filter_cons, ih, e2]
    simp only [conc_cat]
    have e : (!(q.1 == i) && (!(q.1 == i + 1) && !(q.1 + 1 == i && acat q.2 == 2))) = true ↔ ¬ (q.1 = i ∨ q.1 = i + 1 ∨ (q.1 + 1 = i ∧ acat q.2 = 2)) := by
      simp only [Bool.and_eq_true, Bool.not_eq_true', beq_eq_false_iff_ne, Bool.and_eq_false_iff, ne_eq]
      omega
    by_cases h : q.1 = i ∨ q.1 = i + 1 ∨ (q.1 + 1 = i ∧ acat q.2 = 2)
    · rw [if_pos h, if_neg (fun z => e.mp z h)]
    · rw [if_neg h, if_pos (e.mpr h), List.map_cons]
theorem lrm1_sub {i : Nat} : ∀ {ls : Lc} {q : Nat × AV}, q ∈ lrm1 i ls → q ∈ ls
  | [], _, h => by cases h
  | p :: t, q, h => by
    unfold lrm1 at h
    split at h
    · exact List.mem_cons_of_mem _ (lrm1_sub h)
    · rcases List.mem_cons.mp h with e | h
      · rw [e]; exact List.mem_cons_self
      · exact List.mem_cons_of_mem _ (lrm1_sub h)
theorem lrm2_sub {i : Nat} : ∀ {ls : Lc} {q : Nat × AV}, q ∈ lrm2 i ls → q ∈ ls
  | [], _, h => by cases h
  | p :: t, q, h => by
    unfold lrm2 at h
    split at h
    · exact List.mem_cons_of_mem _ (lrm2_sub h)
    · rcases List.mem_cons.mp h with e | h
      · rw [e]; exact List.mem_cons_self
      · exact List.mem_cons_of_mem _ (lrm2_sub h)
theorem okL1 {ls : Lc} (h : okL ls) {i : Nat} {v : AV} (hv : okv v) : okL ((i, v) :: lrm1 i ls) := fun q hq => by
  rcases List.mem_cons.mp hq with e | hq
  · rw [e]; exact hv
  · exact h q (lrm1_sub hq)
theorem okL2 {ls : Lc} (h : okL ls) {i : Nat} {v : AV} (hv : okv v) : okL ((i, v) :: lrm2 i ls) := fun q hq => by
  rcases List.mem_cons.mp hq with e | hq
  · rw [e]; exact hv
  · exact h q (lrm2_sub hq)
theorem okS_c {st : List AV} {v : AV} (hv : okv v) (h : okS st) : okS (v :: st) := fun q hq => by
  rcases List.mem_cons.mp hq with e | hq
  · rw [e]; exact hv
  · exact h q hq
theorem okS_t {st : List AV} {v : AV} (h : okS (v :: st)) : okS st := fun q hq => h q (List.mem_cons_of_mem _ hq)
theorem okS_h {st : List AV} {v : AV} (h : okS (v :: st)) : okv v := h v List.mem_cons_self
theorem stw_e : ∀ st : List AV, ((st.map conc).map fun v => v.category).sum = stw st
  | [] => rfl
  | v :: t => by
    have ih := stw_e t
    rw [List.map_cons, List.map_cons, List.sum_cons, ih, conc_cat]
    rfl
theorem pI_x {st : List AV} {k : Int → List AV → Prop} (h : pI st k) : ∃ z st', st = vI z :: st' ∧ k z st' := by
  match st, h with
  | Sum.inl z :: st', h => exact ⟨z, st', rfl, h⟩
theorem pL_x {st : List AV} {k : Int64 → List AV → Prop} (h : pL st k) : ∃ z st', st = vL z :: st' ∧ k z st' := by
  match st, h with
  | Sum.inr (Sum.inl z) :: st', h => exact ⟨z, st', rfl, h⟩
theorem pR_x {st : List AV} {k : Nat → List AV → Prop} (h : pR st k) : ∃ z st', st = vR z :: st' ∧ k z st' := by
  match st, h with
  | Sum.inr (Sum.inr (some z)) :: st', h => exact ⟨z, st', rfl, h⟩
theorem pA_x {st : List AV} {k : AV → List AV → Prop} (h : pA st k) : ∃ v st', st = v :: st' ∧ ((∃ a, v = vR a) ∨ v = vN) ∧ k v st' := by
  match st, h with
  | Sum.inr (Sum.inr (some z)) :: st', h => exact ⟨vR z, st', rfl, Or.inl ⟨z, rfl⟩, h⟩
  | Sum.inr (Sum.inr none) :: st', h => exact ⟨vN, st', rfl, Or.inr rfl, h⟩
theorem pN_x {st : List AV} {k0 k1 : List AV → Prop} (h : pN st k0 k1) : (∃ st', st = vN :: st' ∧ k0 st') ∨ ∃ a st', st = vR a :: st' ∧ k1 st' := by
  match st, h with
  | Sum.inr (Sum.inr (some z)) :: st', h => exact Or.inr ⟨z, st', rfl, h⟩
  | Sum.inr (Sum.inr none) :: st', h => exact Or.inl ⟨st', rfl, h⟩
theorem oI_x {o : Option AV} {k : Int → Prop} (h : oI o k) : ∃ z, o = some (vI z) ∧ k z := by
  match o, h with
  | some (Sum.inl z), h => exact ⟨z, rfl, h⟩
theorem oL_x {o : Option AV} {k : Int64 → Prop} (h : oL o k) : ∃ z, o = some (vL z) ∧ k z := by
  match o, h with
  | some (Sum.inr (Sum.inl z)), h => exact ⟨z, rfl, h⟩
theorem oA_x {o : Option AV} {k : AV → Prop} (h : oA o k) : ∃ v, o = some v ∧ ((∃ a, v = vR a) ∨ v = vN) ∧ k v := by
  match o, h with
  | some (Sum.inr (Sum.inr (some z))), h => exact ⟨vR z, rfl, Or.inl ⟨z, rfl⟩, h⟩
  | some (Sum.inr (Sum.inr none)), h => exact ⟨vN, rfl, Or.inr rfl, h⟩
theorem oZ_x {o : Option Int} {k : Int → Prop} (h : oZ o k) : ∃ z, o = some z ∧ k z := by
  match o, h with
  | some z, h => exact ⟨z, rfl, h⟩
theorem oY_x {o : Option Int64} {k : Int64 → Prop} (h : oY o k) : ∃ z, o = some z ∧ k z := by
  match o, h with
  | some z, h => exact ⟨z, rfl, h⟩
theorem oV_x {o : Option AV} {k : AV → Prop} (h : oV o k) : ∃ z, o = some z ∧ k z := by
  match o, h with
  | some z, h => exact ⟨z, rfl, h⟩
theorem pick_x : ∀ {is : List Nat} {ls : Lc} {k : List AV → Prop}, pick is ls k → ∃ vs, vs.length = is.length ∧ (∀ q ∈ is.zip vs, q ∈ ls) ∧ k vs
  | [], _, _, h => ⟨[], rfl, (fun q hq => by cases hq), h⟩
  | i :: is, ls, k, h => by
    obtain ⟨v, hv, h⟩ := oV_x h
    obtain ⟨vs, h1, h2, h3⟩ := pick_x h
    refine ⟨v :: vs, by simp [h1], fun q hq => ?_, h3⟩
    rcases List.mem_cons.mp hq with e | hq
    · rw [e]; exact lget_mem hv
    · exact h2 q hq
theorem popN_x : ∀ {n : Nat} {st as : List AV} {k : List AV → List AV → Prop}, popN n st as k → ∃ bs st', bs.length = n ∧ st = bs.reverse ++ st' ∧ k (bs ++ as) st'
  | 0, st, as, k, h => ⟨[], st, rfl, rfl, h⟩
  | n + 1, v :: st, as, k, h => by
    obtain ⟨bs, st', h1, h2, h3⟩ := popN_x (n := n) h
    refine ⟨bs ++ [v], st', by simp [h1], by simp [h2], by simpa using h3⟩
theorem conc_as (as st : List AV) : (as.reverse ++ st).map conc = (as.map conc).reverse ++ st.map conc := by
  rw [List.map_append, List.map_reverse]
def aargs : Nat → List AV → Lc
  | _, [] => []
  | i, v :: vs => (i, v) :: aargs (if acat v = 2 then i + 2 else i + 1) vs
theorem aargs_e : ∀ (i : Nat) (vs : List AV), lv_args i (vs.map conc) = cnl (aargs i vs)
  | _, [] => rfl
  | i, v :: vs => by
    rw [List.map_cons]
    unfold lv_args aargs cnl
    rw [List.map_cons, conc_cat]
    exact congrArg _ (aargs_e _ vs)
theorem aargs_ok : ∀ (i : Nat) (vs : List AV), okS vs → okL (aargs i vs)
  | _, [], _ => fun q hq => by cases hq
  | i, v :: vs, h => fun q hq => by
    rcases List.mem_cons.mp hq with e | hq
    · rw [e]; exact okS_h h
    · exact aargs_ok _ vs (okS_t h) q hq

/-! ===== numbers ===== -/
theorem fu_fu {α : Type} {f : Nat → α} {a : Nat} {v w : α} : fu (fu f a v) a w = fu f a w := by
  funext b
  unfold fu
  by_cases e : b = a
  · rw [if_pos e, if_pos e]
  · rw [if_neg e, if_neg e, if_neg e]
theorem iu_iu {α : Type} {f : Int → α} {a : Int} {v w : α} : iu (iu f a v) a w = iu f a w := by
  funext b
  unfold iu
  by_cases e : b = a
  · rw [if_pos e, if_pos e]
  · rw [if_neg e, if_neg e, if_neg e]
theorem fu_self {α : Type} {f : Nat → α} {a : Nat} : fu f a (f a) = f := by
  funext b
  unfold fu
  by_cases e : b = a
  · rw [if_pos e, e]
  · rw [if_neg e]
theorem fu_comm {α : Type} {f : Nat → α} {a b : Nat} {v w : α} (h : a ≠ b) : fu (fu f a v) b w = fu (fu f b w) a v := by
  funext c
  unfold fu
  by_cases e : c = a
  · have e2 : ¬ c = b := fun z => h (e.symm.trans z)
    rw [if_neg e2, if_pos e, if_pos e]
  · by_cases e2 : c = b
    · rw [if_pos e2, if_neg e, if_pos e2]
    · rw [if_neg e2, if_neg e, if_neg e, if_neg e2]
theorem fu_am {α : Type} {f : Nat → α} {o m n : Nat} {v : α} (h : (n == m) = false) : fu f (o + m) v (o + n) = f (o + n) := fu_n (by have := ne_of_beq_false h; omega)
theorem fu_a0 {α : Type} {f : Nat → α} {o m : Nat} {v : α} (h : (m == 0) = false) : fu f (o + m) v o = f o := fu_n (by have := ne_of_beq_false h; omega)
theorem fu_0a {α : Type} {f : Nat → α} {o m : Nat} {v : α} (h : (m == 0) = false) : fu f o v (o + m) = f (o + m) := fu_n (by have := ne_of_beq_false h; omega)
theorem iu_l {α : Type} {f : Int → α} {a b : Int} {v : α} (h : (b == a) = false) : iu f a v b = f b := iu_n (ne_of_beq_false h)
theorem rk0 : retOK 0 (some .int) := ⟨fun _ => rfl, (fun h => by cases h), (fun h => by cases h), (fun h => by cases h), (fun h => by cases h)⟩
theorem rk1 : retOK 1 (some .boolean) := ⟨(fun h => by cases h), fun _ => rfl, (fun h => by cases h), (fun h => by cases h), (fun h => by cases h)⟩
theorem rk2 : retOK 2 (some .long) := ⟨(fun h => by cases h), (fun h => by cases h), fun _ => rfl, (fun h => by cases h), (fun h => by cases h)⟩
theorem rk3 : retOK 3 none := ⟨(fun h => by cases h), (fun h => by cases h), (fun h => by cases h), fun _ => rfl, (fun h => by cases h)⟩
theorem rk4 {n : String} : retOK 4 (some (.object n)) := ⟨(fun h => by cases h), (fun h => by cases h), (fun h => by cases h), (fun h => by cases h), fun _ => ⟨_, rfl⟩⟩
theorem ofI_nI {x : Int} (h : 0 ≤ x) : Int32.ofInt x = nI x.toNat := by
  show Int32.ofInt x = Int32.ofNat _
  rw [← Int32.ofInt_eq_ofNat]
  congr 1
  omega
theorem andZ_255 (x : Int) : andZ x 255 = x % 256 := by
  unfold andZ
  rw [pk_and (Int32.ofInt x) (m := Int32.ofInt 255) 8 (by decide +kernel)]
  rw [nI_toInt (by have := Nat.mod_lt (Int32.ofInt x).toBitVec.toNat (show 0 < 2 ^ 8 by decide); omega)]
  show (((BitVec.ofInt 32 x).toNat % 2 ^ 8 : Nat) : Int) = x % 256
  rw [BitVec.toNat_ofInt]
  omega
theorem andZ_31 (x : Int) : andZ x 31 = x % 32 := by
  unfold andZ
  rw [pk_and (Int32.ofInt x) (m := Int32.ofInt 31) 5 (by decide +kernel)]
  rw [nI_toInt (by have := Nat.mod_lt (Int32.ofInt x).toBitVec.toNat (show 0 < 2 ^ 5 by decide); omega)]
  show (((BitVec.ofInt 32 x).toNat % 2 ^ 5 : Nat) : Int) = x % 32
  rw [BitVec.toNat_ofInt]
  omega
theorem nI_or (a b : Nat) : nI a ||| nI b = nI (a ||| b) := by
  apply Int32.toBitVec_inj.1
  show BitVec.ofNat 32 a ||| BitVec.ofNat 32 b = BitVec.ofNat 32 (a ||| b)
  apply BitVec.eq_of_getLsbD_eq
  intro i hi
  simp [BitVec.getLsbD_or, BitVec.getLsbD_ofNat, Nat.testBit_or, hi]
theorem orZ_pair {a b : Int} (ha : 0 ≤ a ∧ a < 256) (hb : 0 ≤ b ∧ b < 256) : orZ (shlZ a 8) b = 256 * a + b := by
  have h1 : Int32.ofInt (shlZ a 8) = nI (2 ^ 8 * a.toNat) := by
    rw [shlZ_e, ofI_nI ha.1, pk_shlN _ 8 (by decide +kernel) (by omega), Nat.mul_comm]
  unfold orZ
  rw [h1, ofI_nI hb.1, nI_or, ← Nat.two_pow_add_eq_or_of_lt (by omega), nI_toInt (by omega)]
  omega
theorem i2bZ_R (a : Int) : -128 ≤ i2bZ a ∧ i2bZ a ≤ 127 := by
  unfold i2bZ
  rw [Int8.toInt_toInt32]
  have h1 := Int8.le_toInt (Int32.ofInt a).toInt8
  have h2 := Int8.toInt_lt (Int32.ofInt a).toInt8
  omega
theorem cmpL_eq {x y : Int64} : cmpL x y = 0 ↔ x = y := by
  unfold cmpL
  split
  · rename_i h
    constructor
    · intro h2; omega
    · intro h2; subst h2; exact absurd h (Int64.lt_irrefl)
  · split
    · rename_i h; simp [h]
    · rename_i h; simp [h]
theorem cmpL_lt {x y : Int64} : cmpL x y < 0 ↔ x < y := by
  unfold cmpL
  split
  · rename_i h
    constructor
    · intro h2; omega
    · intro h2; exact absurd (Int64.lt_trans h h2) Int64.lt_irrefl
  · split
    · rename_i h; subst h
      constructor
      · intro h2; omega
      · intro h2; exact absurd h2 Int64.lt_irrefl
    · rename_i h1 h2
      constructor
      · intro _
        rcases Int64.lt_or_eq_of_le (Int64.not_lt.mp h1) with h | h
        · exact h
        · exact absurd h h2
      · intro _; omega
theorem cmpL_gt {x y : Int64} : 0 < cmpL x y ↔ y < x := by
  unfold cmpL
  split
  · rename_i h
    constructor
    · intro _; exact h
    · intro _; omega
  · split
    · rename_i h; subst h
      constructor
      · intro h2; omega
      · intro h2; exact absurd h2 Int64.lt_irrefl
    · rename_i h1 h2
      constructor
      · intro h; omega
      · intro h; exact absurd h h1
theorem cmpL_ge {x y : Int64} : 0 ≤ cmpL x y ↔ ¬ x < y := by
  rw [← cmpL_lt]; omega
theorem cmpL_le {x y : Int64} : cmpL x y ≤ 0 ↔ ¬ y < x := by
  rw [← cmpL_gt]; omega
def inRL (z : Int) : Prop := -9223372036854775808 ≤ z ∧ z ≤ 9223372036854775807
theorem toIL {z : Int} (h : inRL z) : (Int64.ofInt z).toInt = z := by
  rw [Int64.toInt_ofInt]
  obtain ⟨h1, h2⟩ := h
  simp only [Int64.size]
  rw [Int.bmod_eq_of_le] <;> omega
theorem l2iZ_o {z : Int} (h : inR z) : l2iZ (Int64.ofInt z) = z := by
  unfold l2iZ
  rw [Int64.toInt_toInt32, toIL (by unfold inR at h; unfold inRL; omega)]
  unfold inR at h
  rw [Int.bmod_eq_of_le] <;> omega
theorem ofI_lN (z : Int) : Int64.ofInt z = lN (z % 18446744073709551616).toNat := by
  apply Int64.toBitVec_inj.mp
  show BitVec.ofInt 64 z = BitVec.ofNat 64 _
  apply BitVec.eq_of_toNat_eq
  rw [BitVec.toNat_ofInt, BitVec.toNat_ofNat]
  omega
theorem lN_shl8 (n : Nat) : shlL (lN n) 8 = lN (n * 2 ^ 8) := by
  unfold shlL
  have e : ((Int32.ofInt 8).toInt64 &&& 63) = lN 8 := by decide +kernel
  rw [e]
  apply Int64.toBitVec_inj.mp
  have e2 : (lN 8).toBitVec.smod 64 = BitVec.ofNat 64 8 := by decide +kernel
  rw [Int64.toBitVec_shiftLeft, e2]
  show BitVec.ofNat 64 n <<< BitVec.ofNat 64 8 = BitVec.ofNat 64 (n * 2 ^ 8)
  apply BitVec.eq_of_toNat_eq
  rw [BitVec.shiftLeft_eq', BitVec.toNat_shiftLeft, BitVec.toNat_ofNat, BitVec.toNat_ofNat, BitVec.toNat_ofNat, Nat.mod_eq_of_lt (show 8 < 2 ^ 64 by omega), Nat.shiftLeft_eq, Nat.mul_mod, Nat.mod_mod, ← Nat.mul_mod]
theorem lN_mod (n : Nat) : lN n = lN (n % 2 ^ 64) := by
  apply Int64.toBitVec_inj.mp
  show BitVec.ofNat 64 n = BitVec.ofNat 64 _
  apply BitVec.eq_of_toNat_eq
  rw [BitVec.toNat_ofNat, BitVec.toNat_ofNat, Nat.mod_mod]
theorem lN_or {a b : Nat} (ha : a < 2 ^ 64) (hb : b < 2 ^ 64) : lN a ||| lN b = lN (a ||| b) := by
  apply Int64.toBitVec_inj.mp
  rw [Int64.toBitVec_or]
  show BitVec.ofNat 64 a ||| BitVec.ofNat 64 b = BitVec.ofNat 64 (a ||| b)
  apply BitVec.eq_of_toNat_eq
  rw [BitVec.toNat_or, BitVec.toNat_ofNat, BitVec.toNat_ofNat, BitVec.toNat_ofNat, Nat.mod_eq_of_lt ha, Nat.mod_eq_of_lt hb, Nat.mod_eq_of_lt (Nat.or_lt_two_pow ha hb)]
/-- a byte more: by shift and or, or by times and plus -/
theorem shl_or {V x : Int} (hx : 0 ≤ x ∧ x < 256) : shlL (Int64.ofInt V) 8 ||| Int64.ofInt x = Int64.ofInt (V * 256 + x) := by
  rw [ofI_lN V, ofI_lN x, lN_shl8, lN_mod]
  have e : ((V % 18446744073709551616).toNat * 2 ^ 8) % 2 ^ 64 = 2 ^ 8 * ((V % 18446744073709551616).toNat % 2 ^ 56) := by omega
  rw [e, lN_or (by omega) (by omega), ← Nat.two_pow_add_eq_or_of_lt (by omega), ofI_lN]
  congr 1
  omega
theorem mul_add {V x : Int} : Int64.ofInt V * 256 + Int64.ofInt x = Int64.ofInt (V * 256 + x) := by
  rw [Int64.ofInt_add, Int64.ofInt_mul]
  rfl
/-- the bytes of a number, the highest first, behind z -/
def beZ (b : Int → Int) (p : Int) : Nat → Int → Int
  | 0, v => v
  | n + 1, v => beZ b (p + 1) n (v * 256 + b p)
theorem beZ_s (b : Int → Int) : ∀ (n : Nat) (p v : Int), beZ b p (n + 1) v = beZ b p n v * 256 + b (p + n)
  | 0, p, v => by simp [beZ]
  | n + 1, p, v => by
    have ih := beZ_s b n (p + 1) (v * 256 + b p)
    rw [show beZ b p (n + 1 + 1) v = beZ b (p + 1) (n + 1) (v * 256 + b p) from rfl, ih]
    rw [show beZ b p (n + 1) v = beZ b (p + 1) n (v * 256 + b p) from rfl]
    congr 2
    omega
/-- where the next mark is, or the end -/
def nxt (b : Int → Int) (len : Int) : Nat → Int → Int
  | 0, q => q
  | n + 1, q => if q < len ∧ ¬ b q = 10 then nxt b len n (q + 1) else q
def nxm (b : Int → Int) (len q : Int) : Int := nxt b len (len - q).toNat q
theorem nxm_in {b : Int → Int} {len q : Int} (h : q < len) (h2 : ¬ b q = 10) : nxm b len q = nxm b len (q + 1) := by
  unfold nxm
  rw [show (len - q).toNat = (len - (q + 1)).toNat + 1 by omega]
  show (if _ then _ else _) = _
  rw [if_pos ⟨h, h2⟩]
theorem nxm_out {b : Int → Int} {len q : Int} (h : ¬ q < len ∨ b q = 10) : nxm b len q = q := by
  unfold nxm
  cases (len - q).toNat with
  | zero => rfl
  | succ n =>
    show (if _ then _ else _) = _
    rw [if_neg]
    intro h1
    rcases h with h | h
    · exact h h1.1
    · exact h1.2 h
def LHoles (lay : Nat → Nat × Int) (ρ : Nat → Int → Nat) (o : Nat) : Prop := lay o = (10, 0) ∧ ρ o 0 = o + 1 ∧ ρ o 1 = o + 2 ∧ lay (o + 1) = (1, 4000) ∧ lay (o + 2) = (1, 4000)
def LKinds (lay : Nat → Nat × Int) (ρ : Nat → Int → Nat) (o : Nat) : Prop := lay o = (11, 0) ∧ ρ o 0 = o + 1 ∧ ρ o 1 = o + 2 ∧ ρ o 2 = o + 3 ∧ ρ o 3 = o + 4 ∧ ρ o 4 = o + 5 ∧ ρ o 5 = o + 6 ∧ lay (o + 1) = (3, 40) ∧ lay (o + 2) = (1, 40) ∧ lay (o + 3) = (1, 40) ∧ lay (o + 4) = (1, 40) ∧ lay (o + 5) = (1, 40) ∧ lay (o + 6) = (1, 480)
def LLife (lay : Nat → Nat × Int) (ρ : Nat → Int → Nat) (o : Nat) : Prop := lay o = (12, 0) ∧ ρ o 0 = o + 1 ∧ ρ o 1 = o + 2 ∧ ρ o 2 = o + 3 ∧ ρ o 3 = o + 4 ∧ lay (o + 1) = (1, 600) ∧ lay (o + 2) = (1, 600) ∧ lay (o + 3) = (1, 600) ∧ lay (o + 4) = (1, 600)
def LRoots (lay : Nat → Nat × Int) (ρ : Nat → Int → Nat) (o : Nat) : Prop := lay o = (14, 0) ∧ ρ o 0 = o + 1 ∧ ρ o 1 = o + 2 ∧ lay (o + 1) = (1, 100) ∧ lay (o + 2) = (1, 100)
def LSpread (lay : Nat → Nat × Int) (ρ : Nat → Int → Nat) (o : Nat) : Prop := lay o = (15, 0) ∧ ρ o 0 = o + 1 ∧ ρ o 1 = o + 2 ∧ ρ o 2 = o + 3 ∧ lay (o + 1) = (1, 600) ∧ lay (o + 2) = (1, 600) ∧ lay (o + 3) = (1, 600)
def LTape (lay : Nat → Nat × Int) (ρ : Nat → Int → Nat) (o : Nat) : Prop := lay o = (16, 0) ∧ ρ o 0 = o + 1 ∧ lay (o + 1) = (2, 8000)
def LThings (lay : Nat → Nat × Int) (ρ : Nat → Int → Nat) (o : Nat) : Prop := lay o = (17, 0) ∧ ρ o 0 = o + 1 ∧ ρ o 1 = o + 2 ∧ ρ o 2 = o + 3 ∧ ρ o 3 = o + 4 ∧ ρ o 4 = o + 5 ∧ ρ o 5 = o + 6 ∧ ρ o 6 = o + 7 ∧ ρ o 7 = o + 8 ∧ ρ o 8 = o + 9 ∧ ρ o 9 = o + 10 ∧ ρ o 10 = o + 11 ∧ ρ o 11 = o + 12 ∧ lay (o + 1) = (1, 600) ∧ lay (o + 2) = (1, 600) ∧ lay (o + 3) = (1, 600) ∧ lay (o + 4) = (1, 600) ∧ lay (o + 5) = (1, 600) ∧ lay (o + 6) = (1, 600) ∧ lay (o + 7) = (1, 600) ∧ lay (o + 8) = (1, 601) ∧ lay (o + 9) = (1, 601) ∧ lay (o + 10) = (4, 8000) ∧ lay (o + 11) = (1, 4000) ∧ lay (o + 12) = (1, 4000)
def LTrail (lay : Nat → Nat × Int) (ρ : Nat → Int → Nat) (o : Nat) : Prop := lay o = (18, 0) ∧ ρ o 0 = o + 1 ∧ lay (o + 1) = (1, 600)
def LTwins (lay : Nat → Nat × Int) (ρ : Nat → Int → Nat) (o : Nat) : Prop := lay o = (19, 0) ∧ ρ o 0 = o + 1 ∧ ρ o 1 = o + 2 ∧ ρ o 2 = o + 3 ∧ lay (o + 1) = (1, 600) ∧ lay (o + 2) = (1, 600) ∧ lay (o + 3) = (1, 600)
def LPicture (lay : Nat → Nat × Int) (ρ : Nat → Int → Nat) (o : Nat) : Prop := lay o = (13, 0) ∧ ρ o 0 = o + 1 ∧ ρ o 1 = o + 8 ∧ ρ o 2 = o + 21 ∧ ρ o 3 = o + 24 ∧ ρ o 4 = o + 27 ∧ ρ o 5 = o + 31 ∧ ρ o 6 = o + 35 ∧ ρ o 7 = o + 40 ∧ lay (o + 1) = (11, 0) ∧ lay (o + 8) = (17, 0) ∧ lay (o + 21) = (14, 0) ∧ lay (o + 24) = (10, 0) ∧ lay (o + 27) = (15, 0) ∧ lay (o + 31) = (15, 0) ∧ lay (o + 35) = (12, 0) ∧ lay (o + 40) = (19, 0)
def LModel (lay : Nat → Nat × Int) (ρ : Nat → Int → Nat) (o : Nat) : Prop := lay o = (21, 0) ∧ ρ o 0 = o + 1 ∧ ρ o 2 = o + 2 ∧ ρ o 3 = o + 3 ∧ ρ o 4 = o + 4 ∧ ρ o 5 = o + 5 ∧ ρ o 6 = o + 6 ∧ ρ o 7 = o + 7 ∧ ρ o 8 = o + 8 ∧ ρ o 9 = o + 9 ∧ ρ o 10 = o + 10 ∧ ρ o 11 = o + 11 ∧ ρ o 12 = o + 12 ∧ ρ o 13 = o + 13 ∧ ρ o 14 = o + 14 ∧ ρ o 15 = o + 15 ∧ ρ o 16 = o + 16 ∧ ρ o 17 = o + 17 ∧ ρ o 18 = o + 18 ∧ ρ o 19 = o + 19 ∧ ρ o 20 = o + 20 ∧ ρ o 21 = o + 21 ∧ ρ o 22 = o + 22 ∧ ρ o 24 = o + 23 ∧ ρ o 25 = o + 24 ∧ ρ o 26 = o + 25 ∧ ρ o 27 = o + 26 ∧ lay (o + 1) = (2, 8000) ∧ lay (o + 2) = (2, 24000) ∧ lay (o + 3) = (1, 3) ∧ lay (o + 4) = (1, 3) ∧ lay (o + 5) = (1, 3) ∧ lay (o + 6) = (1, 3) ∧ lay (o + 7) = (1, 3) ∧ lay (o + 8) = (1, 3) ∧ lay (o + 9) = (1, 24000) ∧ lay (o + 10) = (1, 24000) ∧ lay (o + 11) = (1, 120) ∧ lay (o + 12) = (1, 3) ∧ lay (o + 13) = (1, 1800) ∧ lay (o + 14) = (1, 3) ∧ lay (o + 15) = (1, 3) ∧ lay (o + 16) = (1, 300) ∧ lay (o + 17) = (1, 3) ∧ lay (o + 18) = (3, 600) ∧ lay (o + 19) = (3, 600) ∧ lay (o + 20) = (1, 600) ∧ lay (o + 21) = (1, 600) ∧ lay (o + 22) = (1, 600) ∧ lay (o + 23) = (1, 40) ∧ lay (o + 24) = (1, 600) ∧ lay (o + 25) = (1, 600) ∧ lay (o + 26) = (1, 196608)
/-- the table of widths: a static array that nobody writes -/
def Wd (lay : Nat → Nat × Int) (ρ : Nat → Int → Nat) (σ : Nat → Int → Int) : Prop := lay (ρ 0 0) = (6, 6) ∧ σ (ρ 0 0) 0 = 1 ∧ σ (ρ 0 0) 1 = 2 ∧ σ (ρ 0 0) 2 = 4 ∧ σ (ρ 0 0) 3 = 8 ∧ σ (ρ 0 0) 4 = 1 ∧ σ (ρ 0 0) 5 = 2
theorem Wd.fu {lay : Nat → Nat × Int} {ρ : Nat → Int → Nat} {σ : Nat → Int → Int} (h : Wd lay ρ σ) {a : Nat} {f : Int → Int} (ha : (lay a).1 ≠ 6) : Wd lay ρ (fu σ a f) := by
  have e : ρ 0 0 ≠ a := fun e => ha (by rw [← e, h.1])
  unfold Wd
  rw [fu_n e]
  exact h
def wd (s : Int) : Int := if s = 0 ∨ s = 4 then 1 else if s = 1 ∨ s = 5 then 2 else if s = 2 then 4 else if s = 3 then 8 else 0
theorem wd_0 : wd 0 = 1 := by decide
theorem wd_1 : wd 1 = 2 := by decide
theorem wd_2 : wd 2 = 4 := by decide
theorem wd_3 : wd 3 = 8 := by decide
theorem wd_4 : wd 4 = 1 := by decide
theorem wd_5 : wd 5 = 2 := by decide
theorem wd_R (s : Int) : 0 ≤ wd s ∧ wd s ≤ 8 := by
  unfold wd
  repeat' split
  all_goals omega
theorem wd_o {s : Int} (h : s < 0 ∨ 6 ≤ s) : wd s = 0 := by
  unfold wd
  rw [if_neg (by omega), if_neg (by omega), if_neg (by omega), if_neg (by omega)]

/-! ===== the classes: fields, classes made, constants ===== -/
theorem aargs_0 {i : Nat} : aargs i [] = [] := rfl
theorem aargs_i {i : Nat} {x : Int} {vs : List AV} : aargs i (vI x :: vs) = (i, vI x) :: aargs (i + 1) vs := rfl
theorem aargs_r {i x : Nat} {vs : List AV} : aargs i (vR x :: vs) = (i, vR x) :: aargs (i + 1) vs := rfl
theorem aargs_n {i : Nat} {vs : List AV} : aargs i (vN :: vs) = (i, vN) :: aargs (i + 1) vs := rfl
theorem aargs_l {i : Nat} {x : Int64} {vs : List AV} : aargs i (vL x :: vs) = (i, vL x) :: aargs (i + 2) vs := rfl
def nfA (i : Nat) : Nat := nfT.getD i 0
theorem nfT_e {i : Nat} : nfT.getD i 0 = nfA i := rfl
theorem llk_x {α : Type} {d : α} {l : List (Nat × α)} {i : Nat} : llk d l i = d ∨ (i, llk d l i) ∈ l := by
  induction l with
  | nil => exact Or.inl rfl
  | cons q t ih =>
    unfold llk
    by_cases e : q.1 = i
    · rw [if_pos e]
      right
      rw [← e]
      exact List.mem_cons_self
    · rw [if_neg e]
      rcases ih with h | h
      · exact Or.inl h
      · exact Or.inr (List.mem_cons_of_mem _ h)
abbrev Ent : Type := Nat × Nat × Nat × Nat × Tr
def dEnt : Ent := (0, 0, 0, 0, fun _ _ _ => False)
def opOf (x : Nat) : Instr := match x % 4 with
  | 0 => .invokevirtual (x / 4)
  | 1 => .invokespecial (x / 4)
  | _ => .invokestatic (x / 4)
theorem call_d {own : String} {op : Instr} : CallOK own op dEnt := by
  intro G p l e R s m args below meth c nL sz0 sl0 Qs cc pc ls st as M K C0 hd hlen has hst hfr hlo hw hc1 hc2 hT kk
  exact hT.elim
def ncchk (own : String) (l : List (Nat × Nat)) : Bool := l.all (fun q => (q.2 == 77 && decide (Cond.fieldLink own q.1 "PictureReader" "WIDTHS" "[I" ∈ tgw)) || (q.2 != 77 && match clsT[q.2]? with
  | none => false
  | some r => decide (Cond.classLink own q.1 r.1 ∈ tgw) && decide (Cond.instantiable r.1 r.2.2 ∈ tgw) && decide (Cond.initialized r.1 ∈ tgw)))
/-- a method's context is right: its class' tables, and its calls -/
theorem xok_of {own : String} {F : List (Nat × (Nat × Int × Nat))} {N : List (Nat × Nat)} {KC : List (Nat × Option Int)} {KL : List (Nat × Option Int64)} {E : List (Nat × Ent)} {d rb : Nat} {ini : Bool} (hF : F.all (fun q => flchk own q.1 q.2) = true) (hN : ncchk own N = true) (hC : KC.all (fun q => match q.2 with | some z => decide (Jvm.Cond.constant own q.1 (Int32.ofInt z) ∈ tgw) | none => true) = true) (hL : KL.all (fun q => match q.2 with | some z => decide (Jvm.Cond.constantLong own q.1 z ∈ tgw) | none => true) = true) (hE : ∀ q ∈ E, CallOK own (opOf q.1) q.2) : Xok own (llk (0, 0, 9) F, llk 99 N, llk none KC, llk none KL, llk dEnt E, d, rb, ini) := by
  refine ⟨fun j => ?_, fun j hj => ?_, fun j hj => ?_, fun j z hz => ?_, fun j z hz => ?_, fun j => ⟨?_, ?_, ?_⟩⟩
  · rcases llk_x (d := ((0, 0, 9) : Nat × Int × Nat)) (l := F) (i := j) with h | h
    · exact Or.inl (by show (llk (0, 0, 9) F j).2.2 = 9; rw [h])
    · exact flchk_ok (List.all_eq_true.mp hF _ h)
  · have hj : llk 99 N j < 12 := hj
    rcases llk_x (d := 99) (l := N) (i := j) with h | h
    · rw [h] at hj; omega
    · have h2 := List.all_eq_true.mp hN _ h
      simp only [Bool.or_eq_true, Bool.and_eq_true, beq_iff_eq, decide_eq_true_eq, bne_iff_ne] at h2
      show ncOK own j (llk 99 N j)
      rcases h2 with h2 | h2
      · omega
      · cases hq : clsT[llk 99 N j]? with
        | none => rw [hq] at h2; exact absurd h2.2 (by simp)
        | some r => rw [hq] at h2; simp only [Bool.and_eq_true, decide_eq_true_eq] at h2; exact ⟨r, hq, h2.2.1.1, h2.2.1.2, h2.2.2⟩
  · have hj : llk 99 N j = 77 := hj
    rcases llk_x (d := 99) (l := N) (i := j) with h | h
    · rw [h] at hj; omega
    · have h2 := List.all_eq_true.mp hN _ h
      simp only [Bool.or_eq_true, Bool.and_eq_true, beq_iff_eq, decide_eq_true_eq, bne_iff_ne] at h2
      rcases h2 with h2 | h2
      · exact h2.2
      · exact absurd hj h2.1
  · have hz : llk none KC j = some z := hz
    rcases llk_x (d := (none : Option Int)) (l := KC) (i := j) with h | h
    · rw [h] at hz; cases hz
    · rw [hz] at h
      have h2 := List.all_eq_true.mp hC _ h
      dsimp only at h2
      exact of_decide_eq_true h2
  · have hz : llk none KL j = some z := hz
    rcases llk_x (d := (none : Option Int64)) (l := KL) (i := j) with h | h
    · rw [h] at hz; cases hz
    · rw [hz] at h
      have h2 := List.all_eq_true.mp hL _ h
      dsimp only at h2
      exact of_decide_eq_true h2
  · show CallOK own _ (llk dEnt E (4 * j))
    rcases llk_x (d := dEnt) (l := E) (i := 4 * j) with h | h
    · rw [h]; exact call_d
    · have h2 := hE _ h
      have e : opOf (4 * j) = .invokevirtual j := by simp only [opOf, show 4 * j % 4 = 0 by omega, show 4 * j / 4 = j by omega]
      rw [e] at h2
      exact h2
  · show CallOK own _ (llk dEnt E (4 * j + 1))
    rcases llk_x (d := dEnt) (l := E) (i := 4 * j + 1) with h | h
    · rw [h]; exact call_d
    · have h2 := hE _ h
      have e : opOf (4 * j + 1) = .invokespecial j := by simp only [opOf, show (4 * j + 1) % 4 = 1 by omega, show (4 * j + 1) / 4 = j by omega]
      rw [e] at h2
      exact h2
  · show CallOK own _ (llk dEnt E (4 * j + 2))
    rcases llk_x (d := dEnt) (l := E) (i := 4 * j + 2) with h | h
    · rw [h]; exact call_d
    · have h2 := hE _ h
      have e : opOf (4 * j + 2) = .invokestatic j := by simp only [opOf, show (4 * j + 2) % 4 = 2 by omega, show (4 * j + 2) / 4 = j by omega]
      rw [e] at h2
      exact h2
def ftX0 : List (Nat × (Nat × Int × Nat)) := [(9, (0, 0, 1)), (15, (0, 1, 1)), (18, (0, 2, 0)), (22, (0, 3, 0))]
theorem ftX0_ok : ftX0.all (fun q => flchk RX0 q.1 q.2) = true := by decide +kernel
def ntX0 : List (Nat × Nat) := []
theorem ntX0_ok : ncchk RX0 ntX0 = true := by decide +kernel
def kcX0 : List (Nat × Option Int) := []
theorem kcX0_ok : kcX0.all (fun q => match q.2 with | some z => decide (Jvm.Cond.constant RX0 q.1 (Int32.ofInt z) ∈ tgw) | none => true) = true := by decide +kernel
def klX0 : List (Nat × Option Int64) := []
theorem klX0_ok : klX0.all (fun q => match q.2 with | some z => decide (Jvm.Cond.constantLong RX0 q.1 z ∈ tgw) | none => true) = true := by decide +kernel
def ftX1 : List (Nat × (Nat × Int × Nat)) := [(9, (1, 0, 1)), (15, (1, 1, 1)), (19, (1, 2, 1)), (22, (1, 3, 1)), (25, (1, 4, 1)), (28, (1, 5, 1)), (31, (1, 6, 0))]
theorem ftX1_ok : ftX1.all (fun q => flchk RX1 q.1 q.2) = true := by decide +kernel
def ntX1 : List (Nat × Nat) := []
theorem ntX1_ok : ncchk RX1 ntX1 = true := by decide +kernel
def kcX1 : List (Nat × Option Int) := []
theorem kcX1_ok : kcX1.all (fun q => match q.2 with | some z => decide (Jvm.Cond.constant RX1 q.1 (Int32.ofInt z) ∈ tgw) | none => true) = true := by decide +kernel
def klX1 : List (Nat × Option Int64) := []
theorem klX1_ok : klX1.all (fun q => match q.2 with | some z => decide (Jvm.Cond.constantLong RX1 q.1 z ∈ tgw) | none => true) = true := by decide +kernel
def ftX2 : List (Nat × (Nat × Int × Nat)) := [(9, (2, 0, 1)), (15, (2, 1, 1)), (18, (2, 2, 1)), (21, (2, 3, 1)), (24, (2, 4, 0)), (28, (2, 5, 0))]
theorem ftX2_ok : ftX2.all (fun q => flchk RX2 q.1 q.2) = true := by decide +kernel
def ntX2 : List (Nat × Nat) := []
theorem ntX2_ok : ncchk RX2 ntX2 = true := by decide +kernel
def kcX2 : List (Nat × Option Int) := [(42, some 1000000)]
theorem kcX2_ok : kcX2.all (fun q => match q.2 with | some z => decide (Jvm.Cond.constant RX2 q.1 (Int32.ofInt z) ∈ tgw) | none => true) = true := by decide +kernel
def klX2 : List (Nat × Option Int64) := []
theorem klX2_ok : klX2.all (fun q => match q.2 with | some z => decide (Jvm.Cond.constantLong RX2 q.1 z ∈ tgw) | none => true) = true := by decide +kernel
def ftX3 : List (Nat × (Nat × Int × Nat)) := [(12, (3, 0, 1)), (21, (3, 1, 1)), (28, (3, 2, 1)), (35, (3, 3, 1)), (42, (3, 4, 1)), (46, (3, 5, 1)), (52, (3, 6, 1)), (59, (3, 7, 1)), (63, (3, 8, 0)), (67, (3, 9, 0)), (70, (3, 10, 0)), (73, (3, 11, 0))]
theorem ftX3_ok : ftX3.all (fun q => flchk RX3 q.1 q.2) = true := by decide +kernel
def ntX3 : List (Nat × Nat) := [(9, 1), (18, 7), (25, 4), (32, 0), (39, 5), (49, 2), (56, 9)]
theorem ntX3_ok : ncchk RX3 ntX3 = true := by decide +kernel
def kcX3 : List (Nat × Option Int) := []
theorem kcX3_ok : kcX3.all (fun q => match q.2 with | some z => decide (Jvm.Cond.constant RX3 q.1 (Int32.ofInt z) ∈ tgw) | none => true) = true := by decide +kernel
def klX3 : List (Nat × Option Int64) := []
theorem klX3_ok : klX3.all (fun q => match q.2 with | some z => decide (Jvm.Cond.constantLong RX3 q.1 z ∈ tgw) | none => true) = true := by decide +kernel
def ftX4 : List (Nat × (Nat × Int × Nat)) := [(9, (4, 0, 1)), (15, (4, 1, 1)), (18, (4, 2, 0)), (22, (4, 3, 0))]
theorem ftX4_ok : ftX4.all (fun q => flchk RX4 q.1 q.2) = true := by decide +kernel
def ntX4 : List (Nat × Nat) := []
theorem ntX4_ok : ncchk RX4 ntX4 = true := by decide +kernel
def kcX4 : List (Nat × Option Int) := []
theorem kcX4_ok : kcX4.all (fun q => match q.2 with | some z => decide (Jvm.Cond.constant RX4 q.1 (Int32.ofInt z) ∈ tgw) | none => true) = true := by decide +kernel
def klX4 : List (Nat × Option Int64) := []
theorem klX4_ok : klX4.all (fun q => match q.2 with | some z => decide (Jvm.Cond.constantLong RX4 q.1 z ∈ tgw) | none => true) = true := by decide +kernel
def ftX5 : List (Nat × (Nat × Int × Nat)) := [(9, (5, 0, 1)), (15, (5, 1, 1)), (18, (5, 2, 1)), (21, (5, 3, 0))]
theorem ftX5_ok : ftX5.all (fun q => flchk RX5 q.1 q.2) = true := by decide +kernel
def ntX5 : List (Nat × Nat) := []
theorem ntX5_ok : ncchk RX5 ntX5 = true := by decide +kernel
def kcX5 : List (Nat × Option Int) := []
theorem kcX5_ok : kcX5.all (fun q => match q.2 with | some z => decide (Jvm.Cond.constant RX5 q.1 (Int32.ofInt z) ∈ tgw) | none => true) = true := by decide +kernel
def klX5 : List (Nat × Option Int64) := []
theorem klX5_ok : klX5.all (fun q => match q.2 with | some z => decide (Jvm.Cond.constantLong RX5 q.1 z ∈ tgw) | none => true) = true := by decide +kernel
def ftX6 : List (Nat × (Nat × Int × Nat)) := [(9, (6, 0, 1)), (15, (6, 1, 0))]
theorem ftX6_ok : ftX6.all (fun q => flchk RX6 q.1 q.2) = true := by decide +kernel
def ntX6 : List (Nat × Nat) := []
theorem ntX6_ok : ncchk RX6 ntX6 = true := by decide +kernel
def kcX6 : List (Nat × Option Int) := []
theorem kcX6_ok : kcX6.all (fun q => match q.2 with | some z => decide (Jvm.Cond.constant RX6 q.1 (Int32.ofInt z) ∈ tgw) | none => true) = true := by decide +kernel
def klX6 : List (Nat × Option Int64) := [(29, some (-1))]
theorem klX6_ok : klX6.all (fun q => match q.2 with | some z => decide (Jvm.Cond.constantLong RX6 q.1 z ∈ tgw) | none => true) = true := by decide +kernel
def ftX7 : List (Nat × (Nat × Int × Nat)) := [(9, (7, 0, 1)), (15, (7, 1, 1)), (18, (7, 2, 1)), (21, (7, 3, 1)), (24, (7, 4, 1)), (27, (7, 5, 1)), (30, (7, 6, 1)), (33, (7, 7, 1)), (36, (7, 8, 1)), (39, (7, 9, 1)), (43, (7, 10, 1)), (46, (7, 11, 1)), (49, (7, 12, 0)), (53, (7, 13, 0)), (56, (7, 14, 0)), (59, (7, 15, 0)), (62, (7, 16, 0)), (65, (7, 17, 2))]
theorem ftX7_ok : ftX7.all (fun q => flchk RX7 q.1 q.2) = true := by decide +kernel
def ntX7 : List (Nat × Nat) := []
theorem ntX7_ok : ncchk RX7 ntX7 = true := by decide +kernel
def kcX7 : List (Nat × Option Int) := []
theorem kcX7_ok : kcX7.all (fun q => match q.2 with | some z => decide (Jvm.Cond.constant RX7 q.1 (Int32.ofInt z) ∈ tgw) | none => true) = true := by decide +kernel
def klX7 : List (Nat × Option Int64) := [(110, some 31)]
theorem klX7_ok : klX7.all (fun q => match q.2 with | some z => decide (Jvm.Cond.constantLong RX7 q.1 z ∈ tgw) | none => true) = true := by decide +kernel
def ftX8 : List (Nat × (Nat × Int × Nat)) := [(9, (8, 0, 1)), (15, (8, 1, 0))]
theorem ftX8_ok : ftX8.all (fun q => flchk RX8 q.1 q.2) = true := by decide +kernel
def ntX8 : List (Nat × Nat) := []
theorem ntX8_ok : ncchk RX8 ntX8 = true := by decide +kernel
def kcX8 : List (Nat × Option Int) := []
theorem kcX8_ok : kcX8.all (fun q => match q.2 with | some z => decide (Jvm.Cond.constant RX8 q.1 (Int32.ofInt z) ∈ tgw) | none => true) = true := by decide +kernel
def klX8 : List (Nat × Option Int64) := []
theorem klX8_ok : klX8.all (fun q => match q.2 with | some z => decide (Jvm.Cond.constantLong RX8 q.1 z ∈ tgw) | none => true) = true := by decide +kernel
def ftX9 : List (Nat × (Nat × Int × Nat)) := [(9, (9, 0, 1)), (15, (9, 1, 1)), (18, (9, 2, 1)), (21, (9, 3, 0))]
theorem ftX9_ok : ftX9.all (fun q => flchk RX9 q.1 q.2) = true := by decide +kernel
def ntX9 : List (Nat × Nat) := []
theorem ntX9_ok : ncchk RX9 ntX9 = true := by decide +kernel
def kcX9 : List (Nat × Option Int) := []
theorem kcX9_ok : kcX9.all (fun q => match q.2 with | some z => decide (Jvm.Cond.constant RX9 q.1 (Int32.ofInt z) ∈ tgw) | none => true) = true := by decide +kernel
def klX9 : List (Nat × Option Int64) := []
theorem klX9_ok : klX9.all (fun q => match q.2 with | some z => decide (Jvm.Cond.constantLong RX9 q.1 z ∈ tgw) | none => true) = true := by decide +kernel
def ftX10 : List (Nat × (Nat × Int × Nat)) := [(12, (10, 0, 1)), (19, (10, 2, 1)), (25, (10, 1, 1)), (53, (3, 9, 4)), (61, (3, 3, 3)), (71, (3, 1, 3)), (91, (3, 0, 3)), (104, (3, 6, 3)), (123, (3, 5, 3)), (127, (3, 4, 3)), (137, (3, 7, 3))]
theorem ftX10_ok : ftX10.all (fun q => flchk RX10 q.1 q.2) = true := by decide +kernel
def ntX10 : List (Nat × Nat) := [(9, 6), (16, 8), (23, 3), (172, 77)]
theorem ntX10_ok : ncchk RX10 ntX10 = true := by decide +kernel
def kcX10 : List (Nat × Option Int) := [(154, some (-100000))]
theorem kcX10_ok : kcX10.all (fun q => match q.2 with | some z => decide (Jvm.Cond.constant RX10 q.1 (Int32.ofInt z) ∈ tgw) | none => true) = true := by decide +kernel
def klX10 : List (Nat × Option Int64) := []
theorem klX10_ok : klX10.all (fun q => match q.2 with | some z => decide (Jvm.Cond.constantLong RX10 q.1 z ∈ tgw) | none => true) = true := by decide +kernel
def ftX11 : List (Nat × (Nat × Int × Nat)) := [(9, (11, 0, 1)), (13, (11, 2, 1)), (16, (11, 3, 1)), (20, (11, 4, 1)), (23, (11, 5, 1)), (26, (11, 6, 1)), (29, (11, 7, 1)), (32, (11, 8, 1)), (35, (11, 9, 1)), (38, (11, 10, 1)), (41, (11, 11, 1)), (44, (11, 12, 1)), (47, (11, 13, 1)), (50, (11, 14, 1)), (53, (11, 15, 1)), (56, (11, 16, 1)), (59, (11, 17, 1)), (62, (11, 18, 1)), (66, (11, 19, 1)), (69, (11, 20, 1)), (72, (11, 21, 1)), (75, (11, 22, 1)), (78, (11, 24, 1)), (81, (11, 25, 1)), (84, (11, 26, 1)), (88, (11, 27, 1)), (91, (11, 1, 0)), (200, (11, 23, 0))]
theorem ftX11_ok : ftX11.all (fun q => flchk RX11 q.1 q.2) = true := by decide +kernel
def ntX11 : List (Nat × Nat) := []
theorem ntX11_ok : ncchk RX11 ntX11 = true := by decide +kernel
def kcX11 : List (Nat × Option Int) := [(87, some 196608), (105, some 65535), (106, some 65536), (231, some (-100000))]
theorem kcX11_ok : kcX11.all (fun q => match q.2 with | some z => decide (Jvm.Cond.constant RX11 q.1 (Int32.ofInt z) ∈ tgw) | none => true) = true := by decide +kernel
def klX11 : List (Nat × Option Int64) := [(127, some (-1)), (129, some 256)]
theorem klX11_ok : klX11.all (fun q => match q.2 with | some z => decide (Jvm.Cond.constantLong RX11 q.1 z ∈ tgw) | none => true) = true := by decide +kernel

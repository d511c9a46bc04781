/-! THE CLAIM OUT OF ONE WALK OF THE LAW'S BODY. Your part is whole_start (and what it stands on); all else here is the same for every law, but numbers. -/
def R_law : String := "PictureReaderLaw"
def lw_P (b : Addr) (xs : List Int32) (args : Array Value) (s : State) : Prop := args = #[.ref b] ∧ s.IntsAt b xs ∧ xs.length ≤ 3072 ∧ (Jvm.Cond.and given_1 narrow_1).before args s = true
def lw_Q (_ : Array Value) (s : State) (o : Outcome) (t : State) : Prop := o = .returned (some (.int 1)) ∧ Framed s o t [] 600000 7302250
def lw_Z (below : List Frame) (a : Array Value) (s : State) : State → Prop := fun t => ∃ o, t.status = .running ∧ Ended t below o ∧ lw_Q a s o t
/-- the law's own end, with 1 on the stack, nothing written that was there before, its room as the claim has it -/
theorem lw_ret {p : Program} {l : Launch} {e : Env} {s : State} {m : MethodId} {below : List Frame} {meth : Method} {c : Code} {b : Nat} (hx : p.tables.exec = Jvm.exec) (hb : c.code = code) (hr : meth.sig.returnType = ret) (hlocks : meth.locks = false) {pc : Nat} {H : Heap} {ls : Array Slot} (hdg : decode code pc = .ok (.ireturn, 1)) : W p l e room_1 s m #[Value.ref b] below meth c H [] 600000 7302250 (lw_Z below #[Value.ref b] s) (F0 m pc ls [.int 1]) := by
  intro T hT X
  obtain ⟨fs, hret, hrun, hended, hW, hframe⟩ := X.leave (v := some (.int 1)) (hlocks := hlocks) (fun h => by rw [hr] at h; cases h)
  have hmeth' : T.vm.method? m = some meth := X.method'
  refine ⟨T.setFrames fs, ?_, .returned (some (.int 1)), hrun, hended, rfl, ⟨_, rfl⟩, hW, hframe⟩
  jvm_step X.here [X.here.top, hx, hb, hdg, hmeth', hr, ret, narrow_b1]
  (try refine ⟨rfl, ?_⟩); (try refine ⟨rfl, ?_⟩)
  first | (intro acts; rw [hret _ acts rfl rfl rfl]) | rw [hret _ _ rfl rfl rfl]
  exact Steps.refl _
/-- what holds at the law's entry: the machine, the code, the tables' words (any of lw_tbl by 'hts w (by decide +kernel)'), the script of L ints xs at the cell b, what the Statement gives of the start (any of its parts by flat_of_before) -/
def lw_At (p : Program) (s : State) (m : MethodId) (meth : Method) (c : Code) (b L : Nat) (xs : Nat → Int32) : Prop :=
  p.tables.exec = Jvm.exec ∧ c.code = code ∧ meth.sig.returnType = ret ∧ c.maxLocals = 4 ∧ s.vm.findClass R_law = some m.cls ∧ (∀ w ∈ lw_tbl, w.before #[Value.ref b] s = true) ∧ va_X b L xs s s.heap ∧ b < s.heap.size ∧ meth.locks = false ∧ (Jvm.Cond.and given_1 narrow_1).before #[Value.ref b] s = true
set_option maxHeartbeats 8000000 in
set_option maxRecDepth 100000 in
theorem whole_start {p : Program} {e : Env} {s : State} {m : MethodId} {below : List Frame} {meth : Method} {c : Code} (l : Launch) {b L : Nat} {xs : Nat → Int32} (hL : L ≤ 3072) (C0 : lw_At p s m meth c b L xs) : W p l e room_1 s m #[Value.ref b] below meth c s.heap [] 0 0 (lw_Z below #[Value.ref b] s) (entryFrame m ([Value.ref b] : List Value).toArray 4) := by
  obtain ⟨hx, hb, hr, hml, hown, hts, hX, hbl, hlocks, hgv⟩ := id C0
  have hA : ∀ a : Nat, a < s.heap.size → ¬ (fun q : Nat => s.heap.size ≤ q) a := fun a h => Nat.not_le.mpr h
  obtain ⟨c0, i0, k0⟩ := u_known (C := RX0) (T := TX0) (N := 4) (n := 4) hts (fun w hw => tgw_in (inX0 w hw)) (hts (.instantiable RX0 4) (by decide +kernel))
  obtain ⟨c1, i1, k1⟩ := u_known (C := RX1) (T := TX1) (N := 7) (n := 7) hts (fun w hw => tgw_in (inX1 w hw)) (hts (.instantiable RX1 7) (by decide +kernel))
  obtain ⟨c2, i2, k2⟩ := u_known (C := RX2) (T := TX2) (N := 6) (n := 6) hts (fun w hw => tgw_in (inX2 w hw)) (hts (.instantiable RX2 6) (by decide +kernel))
  obtain ⟨c3, i3, k3⟩ := u_known (C := RX3) (T := TX3) (N := 12) (n := 12) hts (fun w hw => tgw_in (inX3 w hw)) (hts (.instantiable RX3 12) (by decide +kernel))
  obtain ⟨c4, i4, k4⟩ := u_known (C := RX4) (T := TX4) (N := 4) (n := 4) hts (fun w hw => tgw_in (inX4 w hw)) (hts (.instantiable RX4 4) (by decide +kernel))
  obtain ⟨c5, i5, k5⟩ := u_known (C := RX5) (T := TX5) (N := 4) (n := 4) hts (fun w hw => tgw_in (inX5 w hw)) (hts (.instantiable RX5 4) (by decide +kernel))
  obtain ⟨c6, i6, k6⟩ := u_known (C := RX6) (T := TX6) (N := 2) (n := 2) hts (fun w hw => tgw_in (inX6 w hw)) (hts (.instantiable RX6 2) (by decide +kernel))
  obtain ⟨c7, i7, k7⟩ := u_known (C := RX7) (T := TX7) (N := 18) (n := 18) hts (fun w hw => tgw_in (inX7 w hw)) (hts (.instantiable RX7 18) (by decide +kernel))
  obtain ⟨c8, i8, k8⟩ := u_known (C := RX8) (T := TX8) (N := 2) (n := 2) hts (fun w hw => tgw_in (inX8 w hw)) (hts (.instantiable RX8 2) (by decide +kernel))
  obtain ⟨c9, i9, k9⟩ := u_known (C := RX9) (T := TX9) (N := 4) (n := 4) hts (fun w hw => tgw_in (inX9 w hw)) (hts (.instantiable RX9 4) (by decide +kernel))
  obtain ⟨c10, i10, k10⟩ := u_known (C := RX10) (T := TX10) (N := 3) (n := 3) hts (fun w hw => tgw_in (inX10 w hw)) (hts (.instantiable RX10 3) (by decide +kernel))
  obtain ⟨c11, i11, k11⟩ := u_known (C := RX11) (T := TX11) (N := 28) (n := 28) hts (fun w hw => tgw_in (inX11 w hw)) (hts (.instantiable RX11 28) (by decide +kernel))
  obtain ⟨dC, dI, hKc⟩ : ∃ (dC : Nat → ClassId) (dI : Nat → Nat → Nat), ∀ (k : Nat) (q : vw_C), clsT[k]? = some q → u_Kn s q.1 q.2.1 q.2.2 (dC k) (dI k) := by
    refine ⟨fun k => match k with | 0 => c0 | 1 => c1 | 2 => c2 | 3 => c3 | 4 => c4 | 5 => c5 | 6 => c6 | 7 => c7 | 8 => c8 | 9 => c9 | 10 => c10 | _ => c11, fun k => match k with | 0 => i0 | 1 => i1 | 2 => i2 | 3 => i3 | 4 => i4 | 5 => i5 | 6 => i6 | 7 => i7 | 8 => i8 | 9 => i9 | 10 => i10 | _ => i11, ?_⟩
    intro k q hq
    match k, hq with
    | 0, hq => cases hq; exact k0
    | 1, hq => cases hq; exact k1
    | 2, hq => cases hq; exact k2
    | 3, hq => cases hq; exact k3
    | 4, hq => cases hq; exact k4
    | 5, hq => cases hq; exact k5
    | 6, hq => cases hq; exact k6
    | 7, hq => cases hq; exact k7
    | 8, hq => cases hq; exact k8
    | 9, hq => cases hq; exact k9
    | 10, hq => cases hq; exact k10
    | 11, hq => cases hq; exact k11
    | k + 12, hq => simp [clsT] at hq
  obtain ⟨a1, q1, co1, f1, g1, h1⟩ := Cond.arrayClass_spec (hts (.arrayClass .int) (by decide +kernel))
  obtain ⟨a2, q2, co2, f2, g2, h2⟩ := Cond.arrayClass_spec (hts (.arrayClass .byte) (by decide +kernel))
  obtain ⟨a3, q3, co3, f3, g3, h3⟩ := Cond.arrayClass_spec (hts (.arrayClass .boolean) (by decide +kernel))
  obtain ⟨a4, q4, co4, f4, g4, h4⟩ := Cond.arrayClass_spec (hts (.arrayClass .long) (by decide +kernel))
  have hao := hts (.arrayOver (.object "PictureReader$Picture")) (by decide +kernel)
  obtain ⟨comp, a5, k5, y1, y2, y3, y4, y5⟩ := Cond.arrayOver_spec (n := "PictureReader$Picture") hao
  obtain ⟨aC, ha1, ha2, ha3, ha4, ha5⟩ : ∃ aC : Nat → ClassId, aC 1 = a1 ∧ aC 2 = a2 ∧ aC 3 = a3 ∧ aC 4 = a4 ∧ aC 5 = a5 := ⟨fun k => match k with | 1 => a1 | 2 => a2 | 3 => a3 | 4 => a4 | _ => a5, rfl, rfl, rfl, rfl, rfl⟩
  subst ha1
  subst ha2
  subst ha3
  subst ha4
  subst ha5
  have hKS : KS (dC, dI, aC, s.heap.size) s := by
    refine ⟨⟨hKc, fun k q hq => ?_⟩, fun w hw => va_Nw.of (nwT_on w hw) (hts w (nwT_in w hw)), va_AO.of hao⟩
    match k, hq with
    | 0, hq => cases hq; exact ⟨fun n z => ⟨fun k h => (by cases h), q1, g1, co1, h1⟩, f1⟩
    | 1, hq => cases hq; exact ⟨fun n z => ⟨fun k h => (by cases h), q2, g2, co2, h2⟩, f2⟩
    | 2, hq => cases hq; exact ⟨fun n z => ⟨fun k h => (by cases h), q3, g3, co3, h3⟩, f3⟩
    | 3, hq => cases hq; exact ⟨fun n z => ⟨fun k h => (by cases h), q4, g4, co4, h4⟩, f4⟩
    | 4, hq => cases hq; exact ⟨fun n z => ⟨fun k h => (by cases h), k5, y3, comp, y4⟩, ⟨k5, comp, y3, y4, y1, y5⟩⟩
    | k + 5, hq => simp [tysT] at hq
  have hs := flat_of_before _ hgv
  have harr : (Cond.arrayOf (.static "PictureReader" "WIDTHS" "[I") .int).before #[Value.ref b] s = true := hs _ (by decide +kernel)
  have hlen := va_eqt (hs (Cond.eq (.length (.static "PictureReader" "WIDTHS" "[I")) (.int 6)) (by decide +kernel))
  have e0 := va_eqt (hs (Cond.eq (.elem (.static "PictureReader" "WIDTHS" "[I") (.int 0)) (.int 1)) (by decide +kernel))
  have e1 := va_eqt (hs (Cond.eq (.elem (.static "PictureReader" "WIDTHS" "[I") (.int 1)) (.int 2)) (by decide +kernel))
  have e2 := va_eqt (hs (Cond.eq (.elem (.static "PictureReader" "WIDTHS" "[I") (.int 2)) (.int 4)) (by decide +kernel))
  have e3 := va_eqt (hs (Cond.eq (.elem (.static "PictureReader" "WIDTHS" "[I") (.int 3)) (.int 8)) (by decide +kernel))
  have e4 := va_eqt (hs (Cond.eq (.elem (.static "PictureReader" "WIDTHS" "[I") (.int 4)) (.int 1)) (by decide +kernel))
  have e5 := va_eqt (hs (Cond.eq (.elem (.static "PictureReader" "WIDTHS" "[I") (.int 5)) (.int 2)) (by decide +kernel))
  obtain ⟨wa, hwa, hT⟩ := va_Tof (N := 6) (f := fun j => .int (Int32.ofInt (wvL j))) (A := fun q : Nat => s.heap.size ≤ q) (by decide) harr hlen (fun j hj => by
    match j, hj with
    | 0, _ => exact e0
    | 1, _ => exact e1
    | 2, _ => exact e2
    | 3, _ => exact e3
    | 4, _ => exact e4
    | 5, _ => exact e5
    | j + 6, hj => omega) hA
  have hZ := va_Zref (A := fun q : Nat => s.heap.size ≤ q) (hts (.laysStatic "PictureReader" "WIDTHS" "[I") (by decide +kernel)) (hts (.initialized "PictureReader") (by decide +kernel)) hwa hA
  have hwl : wa < s.heap.size := Nat.not_le.mp hT.out
  have hbL : layL wa b L b = (6, (L : Int)) := by
    unfold layL
    by_cases ew : b = wa
    · rw [if_pos ew]
      obtain ⟨scr, x1, x2, x3, x4, x5⟩ := hX
      obtain ⟨cell, z1, z2, z3, z4, z5, z6, z7⟩ := hT
      rw [← ew, x1] at z1
      have ec : scr = cell := Option.some.inj z1
      rw [← ec, x4] at z5
      have := congrArg Int32.toInt (show nI L = nI 6 from z5)
      rw [nI_toInt (by omega), nI_toInt (by omega)] at this
      rw [show L = 6 by omega]
      rfl
    · rw [if_neg ew, if_pos rfl]
  have hRel : Rel (dC, dI, aC, s.heap.size) s (s.heap.size, 0, layL wa b L, rhoL wa, sigL wa b xs, fun _ _ => 0) s.heap := by
    refine ⟨rfl, sigL_R, fun a h0 h6 => ?_, fun a ha => ?_, fun a => ?_, fun a h1 h2 => absurd h2 (Nat.not_lt.mpr h1), fun a ha => ?_, hZ⟩
    · exfalso
      show False
      have h0 : (layL wa b L a).1 ≠ 0 := h0
      have h6 : (layL wa b L a).1 ≠ 6 := h6
      unfold layL at h0 h6
      by_cases e1 : a = wa
      · rw [if_pos e1] at h6; exact h6 rfl
      · rw [if_neg e1] at h0 h6
        by_cases e2 : a = b
        · rw [if_pos e2] at h6; exact h6 rfl
        · rw [if_neg e2] at h0; exact h0 rfl
    · have ha : s.heap.size ≤ a := ha
      show (layL wa b L a).1 = 0
      unfold layL
      rw [if_neg (by omega), if_neg (by omega)]
    · show 0 ≤ (layL wa b L a).2 ∧ (layL wa b L a).2 ≤ 1000000
      unfold layL
      by_cases e1 : a = wa
      · rw [if_pos e1]; exact ⟨by decide, by decide⟩
      · rw [if_neg e1]
        by_cases e2 : a = b
        · rw [if_pos e2]; show 0 ≤ (L : Int) ∧ (L : Int) ≤ 1000000; omega
        · rw [if_neg e2]; exact ⟨by decide, by decide⟩
    · have ha : (layL wa b L a).1 = 6 := ha
      show va_T .int a (layL wa b L a).2.toNat (fun j => .int (Int32.ofInt (sigL wa b xs a j))) (fun q : Nat => s.heap.size ≤ q) s s.heap
      by_cases e1 : a = wa
      · have ef : (fun j : Nat => Value.int (Int32.ofInt (sigL wa b xs a j))) = fun j => Value.int (Int32.ofInt (wvL j)) := by
          funext j
          unfold sigL
          rw [if_pos e1, Int.toNat_natCast]
        rw [ef, e1, show (layL wa b L wa).2.toNat = 6 by unfold layL; rw [if_pos rfl]; rfl]
        exact hT
      · by_cases e2 : a = b
        · rw [e2, hbL]
          rw [e2] at e1
          obtain ⟨scr, x1, x2, x3, x4, x5⟩ := hX
          refine ⟨scr, x1, x2, x3, by show (L : Int).toNat ≤ _; omega, ?_, fun j hj => ?_, hA b hbl⟩
          · show scr.slots.size.toInt32 = Int32.ofNat (L : Int).toNat
            rw [x4, Int.toNat_natCast]
          · have hj : j < (L : Int).toNat := hj
            rw [x5 j (by omega)]
            show some (Value.int (xs j)) = some (Value.int (Int32.ofInt (sigL wa b xs b j)))
            unfold sigL
            rw [if_neg e1, if_pos rfl, Int.toNat_natCast, ofI]
        · exfalso
          unfold layL at ha
          rw [if_neg e1, if_neg e2] at ha
          exact absurd ha (by decide)
  have hW : Wd (layL wa b L) (rhoL wa) (sigL wa b xs) := by
    have hr0 : rhoL wa 0 0 = wa := rfl
    unfold Wd
    rw [hr0]
    refine ⟨by unfold layL; rw [if_pos rfl], ?_, ?_, ?_, ?_, ?_, ?_⟩
    all_goals unfold sigL
    all_goals rw [if_pos rfl]
    all_goals rfl
  have C1 : Cok (dC, dI, aC, s.heap.size) p s m #[Value.ref b] meth c code 4 RL := ⟨hx, hb, hml, hown, fun w hw => hts w (tgw_in hw), hKS, hlocks, Nat.le_refl _, by show 0 < s.heap.size; omega⟩
  have h1 := law_walk (l := l) (e := e) (below := below) (L := (L : Int)) (by omega) C1 (by rw [hr]; exact rk1) hRel hbL hbl hW (show rhoL wa 0 0 < s.heap.size from hwl)
  intro T hT2 X
  obtain ⟨t, s1, o, s2, s3, s4, L2, s5, s6⟩ := h1 T hT2 X
  obtain ⟨⟨r, M1, t1, t2, t3, t4⟩, t5⟩ := s4
  refine ⟨t, s1, o, s2, s3, ?_, s5.1, s5.2.1, (State.sameButNew.drop_fresh (L := []) (J := L2) s5.2.2 s6).mono (by decide) (by decide)⟩
  rw [t1, t3]
  rfl
set_option maxHeartbeats 4000000 in
theorem lw_walk (l : Launch) (b : Addr) (xs : List Int32) : MetFree l x (headSpec (Jvm.Cond.code x code maxLocals ret :: tables_1) room_1) (lw_P b xs) (fun _ _ _ _ _ => True) lw_Q := by
  refine MetFree.of_bodyS (code := code) (maxLocals := maxLocals) (ret := ret) (by decide) ?_ ?_
  · intro args s m h hn
    obtain ⟨meth, c, h1, h2, h3, h4, h5, h6, -, -⟩ := Cond.code_spec hn (atoms_spec (ws := Jvm.Cond.code x code maxLocals ret :: tables_1) h _ List.mem_cons_self)
    exact ⟨meth, c, h1, h2, h3, h4, h5, h6⟩
  · intro p e s m args below meth c s₁ B hml0 hP _
    obtain ⟨rfl, hx, hbd, hgv⟩ := hP
    obtain ⟨scr, harrAt, hlist, hof, hsmall⟩ := hx
    obtain ⟨hcb, hkn, -, -⟩ := State.arrayAt?_spec harrAt
    have hown : s.vm.findClass R_law = some m.cls := findClass_of_methodNamed B.named
    have hts0 : ∀ c ∈ (Jvm.Cond.code x code maxLocals ret :: tables_1), c.before #[Value.ref b] s = true := atoms_spec (ws := Jvm.Cond.code x code maxLocals ret :: tables_1) B.pre
    have hts : ∀ w ∈ lw_tbl, w.before #[Value.ref b] s = true := k2_hts_sels lw_privs (fun w hw => hts0 w (List.mem_cons_of_mem _ hw)) lw_privs_ok
    have hml : c.maxLocals = 4 := B.maxLocals_eq (hts0 _ List.mem_cons_self)
    have X₀ : Stand p l e room_1 s m #[Value.ref b] below meth c s₁ [] 0 0 := Stand.of_body B
    have hh0 : s₁.heap = s.heap := by rw [B.state]; rfl
    have hsz : scr.slots.size = xs.length := by rw [← Array.length_toList, hlist, List.length_map]
    have hval : ∀ j : Nat, j < xs.length → scr.slots[j]? = some (.int (xs.getD j 0)) := fun j hj => by
      rw [← Array.getElem?_toList, hlist]
      simp [hj]
    have hbl : b < s.heap.size := (Array.getElem?_eq_some_iff.mp hcb).1
    have hX : va_X b xs.length (fun j => xs.getD j 0) s s.heap := ⟨scr, hcb, hof, hkn, hsz, hval⟩
    have K : W p l e room_1 s m #[Value.ref b] below meth c s₁.heap [] 0 0 (lw_Z below #[Value.ref b] s) (entryFrame m ([Value.ref b] : List Value).toArray 4) := by
      rw [hh0]
      exact whole_start l hbd ⟨B.exec, B.bytes, B.returns, hml, hown, hts, hX, hbl, B.notSynchronized, hgv⟩
    obtain ⟨t, a1, o, b1, b2, b3⟩ := K s₁ rfl X₀
    exact ⟨t, o, a1, b1, b2, b3⟩
theorem lw_pre_spec {args : Array Value} {s : State} (h : (Jvm.Cond.and given_1 narrow_1).before args s = true) (hr : rest_1_c.before args s = true) : ∃ (b : Addr) (xs : List Int32), lw_P b xs args s := by
  have hs := flat_of_before _ h
  have hq := flat_of_before _ hr
  have hc : (Cond.count 1).before args s = true := hs _ (by decide +kernel)
  have harr : (Cond.arrayOf (.arg 0) .int).before args s = true := hs _ (by decide +kernel)
  have hle : (Cond.le (.length (.arg 0)) (.int 3072)).before args s = true := hs _ (by decide +kernel)
  have hlen : (Cond.isInt (.length (.arg 0))).before args s = true := hq _ (by decide +kernel)
  have hall : (Cond.all (.arg 0) (.isInt (.elem (.arg 0) (.index 0)))).before args s = true := hq _ (by decide +kernel)
  obtain ⟨b, xs, hb, hx⟩ := State.ints_of_pre rfl harr hlen hall
  have hsm : xs.length < 2 ^ 31 := hx.choose_spec.2.2.2
  have hev : (Term.length (.arg 0)).eval args s none [] s = some (.int xs.length.toInt32) := hx.length_eval hb
  have hv := Cond.le_ints hev (show (Term.int 3072).eval args s none [] s = some (.int 3072) from rfl)
  have hd : xs.length.toInt32 ≤ 3072 := by
    simpa [Cond.before, Cond.holds, hv] using hle
  have hN : xs.length ≤ 3072 := (Int32.ofNat_le_ofNat hsm (by decide)).mp (show Int32.ofNat xs.length ≤ Int32.ofNat 3072 from hd)
  exact ⟨b, xs, Cond.one_arg hc (show args[0]? = some (.ref b) from hb), hx, hN, h⟩
theorem lw_comes (l : Launch) : Comes l x (Jvm.Cond.code x code maxLocals ret :: tables_1) room_1 (fun tb e args s => Calls_1 tb e args s ∧ rest_1 tb e args s ∧ Pre_1 tb e args s)
    (fun _ _ args s o t => lw_Q args s o t) := by
  intro p e ha hc hk s m args below hf hfit hheap happ hpre
  obtain ⟨b, xs, hP⟩ := lw_pre_spec hpre.2.2 hpre.2.1
  obtain ⟨k, o, h1, h2, h3, hQ⟩ := lw_walk l b xs p e ha hc hk s m args below hf ((Spec.applies_iff_loose hf).mp happ).1 hP trivial
  exact ⟨k, o, h1, h2, h3, hQ⟩
theorem lw_frame {s t : State} {o : Outcome} {args : Array Value} (h : Framed s o t [] 600000 7302250) :
    Framed s o t (fieldLocs frame_1_writes args s ++ arrayLocs frame_1_arrays args s ++ staticLocs frame_1_statics s) 600000 7302250 := h
theorem lw_limb (L : Cond) (hL : ∀ (args : Array Value) (s t : State), L.after args s (.returned (some (.int 1))) t = true) :
    ArmFor flags0 classFile x code maxLocals ret World_1 tables_1 room_1 Calls_1 rest_1 Pre_1
      (fun tb e a s o t => postC L tb e a s o t ∧ Framed s o t (fieldLocs frame_1_writes a s ++ arrayLocs frame_1_arrays a s ++ staticLocs frame_1_statics s) 600000 7302250) := by
  intro l _ _ _ p e ha hc hk s m args below hf hfit hheap happ hpre
  obtain ⟨k, o, h1, h2, h3, rfl, hF⟩ := lw_comes l p e ha hc hk s m args below hf hfit hheap happ hpre
  exact ⟨k, _, h1, h2, h3, hL args s _, lw_frame hF⟩
theorem i_vc : Claimed_1_1 ∧ Claimed_1_2 := ⟨lw_limb limb_1_1 (fun args s t => by simp [limb_1_1, Cond.after, Cond.holds, Cond.value]), lw_limb limb_1_2 (fun args s t => Cond.after_iff.mpr (by
  first | (rw [show limb_1_2 = Cond.eq .result (.int 1) from rfl, Cond.eq_ints (x := 1) (y := 1) rfl rfl]; simp; done) | (simp [limb_1_2, Cond.value, Term.eval]; done)))⟩

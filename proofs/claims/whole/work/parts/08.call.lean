/-! ===== calls ===== -/
def CallOK (own : String) (op : Instr) (x : Nat × Nat × Nat × Nat × Tr) : Prop :=
  ∀ (G : Gp) (p : Program) (l : Launch) (e : Env) (R : Room) (s : State) (m : MethodId) (args : Array Value) (below : List Frame) (meth : Method) (c : Code) (nL sz0 sl0 : Nat) (Qs : State → Prop) (cc : ByteArray) (pc : Nat) (ls : Lc) (st as : List AV) (M : Mm) (K : Option AV → Mm → Prop),
    Cok G p s m args meth c cc nL own → decode cc pc = .ok (op, 3) → as.length = x.1 → okS as → okS st → x.2.1 + 1 ≤ R.frames → 46 * x.2.1 + 46 ≤ R.locals → stw st ≤ 8 → M.1 + x.2.2.1 ≤ sz0 + R.cells → M.2.1 + x.2.2.2.1 ≤ sl0 + R.slots → x.2.2.2.2 as M K →
    (∀ r M', okO r → K r M' → Go G p l e R s m args below meth c nL sz0 sl0 Qs (pc + 3) ls (psh r st) M') → Go G p l e R s m args below meth c nL sz0 sl0 Qs pc ls (as.reverse ++ st) M
def mkT (ci : Nat) (F : Nat → List AV → Mm → (Option AV → Mm → Prop) → Prop) : Tr := fun as M k => match as with
  | Sum.inr (Sum.inr (some o)) :: as => M.2.2.1 o = (10 + ci, 0) ∧ F o as M k
  | _ => False
theorem mkT_e {ci o sz sl : Nat} {F : Nat → List AV → Mm → (Option AV → Mm → Prop) → Prop} {as : List AV} {lay : Nat → Nat × Int} {ρ : Nat → Int → Nat} {σ : Nat → Int → Int} {τ : Nat → Int → Int64} {k : Option AV → Mm → Prop} : mkT ci F (vR o :: as) (sz, sl, lay, ρ, σ, τ) k = (lay o = (10 + ci, 0) ∧ F o as (sz, sl, lay, ρ, σ, τ) k) := rfl
theorem mkT_r {ci : Nat} {F : Nat → List AV → Mm → (Option AV → Mm → Prop) → Prop} {as : List AV} {M : Mm} {k : Option AV → Mm → Prop} (h : mkT ci F as M k) : ∃ b As, as = vR b :: As ∧ M.2.2.1 b = (10 + ci, 0) ∧ F b As M k := by
  match as, h with
  | Sum.inr (Sum.inr (some o)) :: as, h => exact ⟨o, as, rfl, h⟩
section CLL
variable {G : Gp} {p : Program} {l : Launch} {e : Env} {R : Room} {s : State} {m : MethodId} {args : Array Value} {below : List Frame} {meth : Method} {c : Code} {nL sz0 sl0 : Nat} {Qs : State → Prop} {cc : ByteArray} {own : String}
variable {X : Cx} {lim : Nat × Nat} {Q : Option AV → Mm → Prop} {K : Nat → Lc → List AV → Mm → Prop} {ts : List Nat} {pc : Nat} {ls : Lc} {st : List AV} {M : Mm}
variable {y : MethodName} {b : ByteArray} {n dc mc ms : Nat} {r : Option FieldType} {T : Tr}
theorem pre_U {k : Option AV → Mm → Prop} {as : List AV} {H : Heap} {lsA : Array Slot} {locs : List Loc} (C0 : Cok G p s m args meth c cc nL own) (g : Gh G s R nL sz0 sl0 ls M H lsA locs) : ∀ U : State, U.heap = H → s.WarmedH U.vm → PcG G as M (as.map conc).toArray U := by
  intro U hU hW
  refine ⟨rfl, ?_, C0.2.2.2.2.2.1.warm hW, ?_, C0.2.2.2.2.2.2.2.2⟩
  · have hm := RelM.moved (t := U) g.2.1 hW.alike (fun a h1 h2 => by rw [hU]; exact g.2.2.1.2.1 a h1 h2)
    rw [← hU] at hm
    exact hm
  · have := C0.2.2.2.2.2.2.2.1
    have := g.2.2.1.1
    rw [hU]; omega
theorem x_call {k : Option AV → Mm → Prop} {a : Array Value} {H : Heap} {lsA : Array Slot} {locs : List Loc} {st0 : List Value} (C0 : Cok G p s m args meth c cc nL own) (g : Gh G s R nL sz0 sl0 ls M H lsA locs) (hc1 : M.1 + mc ≤ sz0 + R.cells) (hc2 : M.2.1 + ms ≤ sl0 + R.slots)
    (hr : va_Run p l e R s m args below meth c H locs (M.1 - sz0) (M.2.1 - sl0) mc ms (F0 m pc lsA st0) (st.map conc) (QcG G k M mc ms a) (Bs G))
    (kk : ∀ r M', okO r → k r M' → Go G p l e R s m args below meth c nL sz0 sl0 Qs (pc + 3) ls (psh r st) M') : W p l e R s m args below meth c H locs (M.1 - sz0) (M.2.1 - sl0) Qs (F0 m pc lsA st0) := by
  intro T hT X
  obtain ⟨v, st₀, t, T', L, h0, X', hL, e1, e2, ⟨⟨r, M', hv, hr, hk, hRel, hm1, hm2⟩, hF⟩, stp⟩ := hr T hT X
  cases hv
  obtain ⟨-, -, hS, g4, g5, g6, g7⟩ := id g
  have hB := C0.2.2.2.2.2.2.2.1
  have hz := hF.1
  have hFq := hF.2
  rw [h0] at hz hFq
  have hal : t.vm.Alike s.vm := by rw [← e2]; exact X'.warmed.alike.symm
  have hR2 : Rel G s M' T'.heap := by
    have hm := RelM.moved (t := s) hRel hal (fun a h1 h2 => by
      have h3 : a < G.2.2.2 := Nat.lt_of_not_le h2
      rw [hFq a (by have := hS.1; omega) h2, hS.2.1 a (by omega) h2])
    rw [e1]
    exact hm
  have e3 : (M.1 - sz0) + mc = M'.1 - sz0 := by omega
  have e4 : (M.2.1 - sl0) + ms = M'.2.1 - sl0 := by omega
  rw [e3, e4] at X'
  have hgo := kk r M' hr hk T'.heap lsA (locs ++ L) ⟨g.1, hR2, ⟨by rw [e1]; have := hS.1; omega, fun q h1 h2 => by rw [e1, hFq q (by have := hS.1; omega) h2]; exact hS.2.1 q h1 h2, fun q hq => by
    rcases List.mem_append.mp hq with h | h
    · exact hS.2.2 q h
    · exact hL q h⟩, by omega, by omega, by omega, by omega⟩
  obtain ⟨t2, a1, b1⟩ := hgo T' rfl X'
  refine ⟨t2, stp t2 ?_, b1⟩
  have e5 : (psh r st).map conc = (r.map conc).toList ++ st.map conc := by cases r <;> rfl
  rw [e5] at a1
  exact a1
theorem call_I (hM : Snd y b n none T dc mc ms) (hnl : n ≤ 27) {own : String} {j na : Nat} (hnm : y.name = "<init>") (hdesc : y.cls ≠ "java/lang/invoke/MethodHandle" ∧ y.cls ≠ "java/lang/invoke/VarHandle" ∧ (parseMethodDescriptor y.desc).map (fun d => d.parameters.length) = some na) (h1 : Cond.methodLink own j y ∈ tgw) (h2 : Cond.instanceMethod y ∈ tgw) (h3 : Cond.initialized y.cls ∈ tgw) (h4 : Cond.code y b n none ∈ tgw) (hrecv : ∀ as M k, T as M k → ∃ b As, as = vR b :: As) : CallOK own (.invokespecial j) (na + 1, dc, mc, ms, T) := by
  intro G p l e R s m args below meth c nL sz0 sl0 Qs cc pc ls st as M K C0 hd hlen has hst hfr hlo hw hc1 hc2 hT kk
  dsimp only at hlen hfr hlo hc1 hc2 hT
  obtain ⟨o, As, rfl⟩ := hrecv as M K hT
  intro H lsA locs g
  have hts := C0.2.2.2.2.1
  refine x_call C0 g hc1 hc2 (st := st) (va_runI (As := As.map conc) (rest := st.map conc) (b := o) ⟨C0.1, C0.2.1, C0.2.2.1, C0.2.2.2.1, hts⟩ (hM l G _ M K has hT) ⟨callB_of na hts (fun w hw => ?_) rfl rfl rfl (hts _ h3) (hts _ h1) hdesc ⟨hfr, by dsimp only; omega⟩, hnm, hts _ h2⟩ ⟨PcG.blind, fun U hU hW => ?_⟩ rfl (by simpa using hlen) g.1.1 (by simp [conc_r]) (lv_room (by rw [stw_e]; exact hw)) hd (by have := g.2.2.2; omega)) kk
  · rcases List.mem_cons.mp hw with rfl | hw
    · exact ⟨h4, tgw_good h4⟩
    · exact ⟨hw, tgw_good hw⟩
  · exact pre_U (k := K) (as := vR o :: As) C0 g U hU hW
theorem call_V (hM : Snd y b n r T dc mc ms) (hnl : n ≤ 27) {own : String} {j na ci : Nat} {q : vw_C} (hq : clsT[ci]? = some q) (hdesc : y.cls = q.1 ∧ y.cls ≠ "java/lang/invoke/MethodHandle" ∧ y.cls ≠ "java/lang/invoke/VarHandle" ∧ (parseMethodDescriptor y.desc).map (fun d => d.parameters.length) = some na) (h1 : Cond.methodLink own j y ∈ tgw) (h2 : Cond.instanceMethod y ∈ tgw) (h3 : Cond.initialized q.1 ∈ tgw) (h4 : Cond.code y b n r ∈ tgw) (h5 : Cond.selects q.1 y y ∈ tgw) (hrecv : ∀ as M k, T as M k → ∃ b As, as = vR b :: As ∧ M.2.2.1 b = (10 + ci, 0)) : CallOK own (.invokevirtual j) (na + 1, dc, mc, ms, T) := by
  intro G p l e R s m args below meth c nL sz0 sl0 Qs cc pc ls st as M K C0 hd hlen has hst hfr hlo hw hc1 hc2 hT kk
  dsimp only at hlen hfr hlo hc1 hc2 hT
  obtain ⟨o, As, rfl, hla⟩ := hrecv as M K hT
  intro H lsA locs g
  have hts := C0.2.2.2.2.1
  obtain ⟨hcel, -⟩ := RelM.cel g.2.1 (a := o) (by rw [hla]; simp) (by rw [hla]; simp; omega)
  obtain ⟨cell, q1, q2, q3, -⟩ := hcel.obj (by rw [hla]) hq
  refine x_call C0 g hc1 hc2 (st := st) (va_runV (C := q.1) (As := As.map conc) (rest := st.map conc) (b := o) ⟨C0.1, C0.2.1, C0.2.2.1, C0.2.2.2.1, hts⟩ (hM l G _ M K has hT) (cwV na hts (fun w hw => ?_) rfl rfl rfl hdesc ⟨hfr, by dsimp only; omega⟩) ⟨PcG.blind, ⟨cell, q1, by rw [q3]; rfl, by rw [q2]; exact (C0.2.2.2.2.2.1.1.1 ci q hq).2.1⟩, fun U hU hW => ?_⟩ rfl (by simpa using hlen) g.1.1 (by simp [conc_r]) (lv_room (by rw [stw_e]; exact hw)) hd (by have := g.2.2.2; omega)) kk
  · have hw : w = Cond.methodLink own j y ∨ w = Cond.instanceMethod y ∨ w = Cond.selects q.1 y y ∨ w = Cond.initialized q.1 ∨ w = Cond.code y b n r ∨ w ∈ tgw := by simpa [wsV] using hw
    have hw : w ∈ tgw := by
      rcases hw with rfl | rfl | rfl | rfl | rfl | hw
      all_goals assumption
    exact ⟨hw, tgw_good hw⟩
  · exact pre_U (k := K) (as := vR o :: As) C0 g U hU hW
theorem call_S (hM : Snd y b n r T dc mc ms) (hnl : n ≤ 27) {own : String} {j na : Nat} (hdesc : y.cls ≠ "java/lang/invoke/MethodHandle" ∧ y.cls ≠ "java/lang/invoke/VarHandle" ∧ (parseMethodDescriptor y.desc).map (fun d => d.parameters.length) = some na) (h1 : Cond.methodLink own j y ∈ tgw ∨ Cond.methodLinkNest own j y "PictureReader" ∈ nwT) (h2 : Cond.static y ∈ tgw) (h3 : Cond.initialized y.cls ∈ tgw) (h4 : Cond.code y b n r ∈ tgw) : CallOK own (.invokestatic j) (na, dc, mc, ms, T) := by
  intro G p l e R s m args below meth c nL sz0 sl0 Qs cc pc ls st as M K C0 hd hlen has hst hfr hlo hw hc1 hc2 hT kk
  dsimp only at hlen hfr hlo hc1 hc2 hT
  intro H lsA locs g
  have hts := C0.2.2.2.2.1
  have hG : GoodIn tgw (Cond.code y b n r :: tgw) := fun w hw => by
    rcases List.mem_cons.mp hw with rfl | hw
    · exact ⟨h4, tgw_good h4⟩
    · exact ⟨hw, tgw_good hw⟩
  rcases h1 with h1 | h1
  · exact x_call C0 g hc1 hc2 (st := st) (va_runS (As := as.map conc) (rest := st.map conc) ⟨C0.1, C0.2.1, C0.2.2.1, C0.2.2.2.1, hts⟩ (hM l G _ M K has hT) ⟨callB_of na hts hG rfl rfl rfl (hts _ h3) (hts _ h1) hdesc ⟨hfr, by dsimp only; omega⟩, hts _ h2⟩ ⟨PcG.blind, fun U hU hW => pre_U (k := K) C0 g U hU hW⟩ rfl (by simpa using hlen) g.1.1 (by simp) (lv_room (by rw [stw_e]; exact hw)) hd (by have := g.2.2.2; omega)) kk
  · exact x_call C0 g hc1 hc2 (st := st) (va_runSN (As := as.map conc) (rest := st.map conc) ⟨C0.1, C0.2.1, C0.2.2.1, C0.2.2.2.1, hts⟩ (hM l G _ M K has hT) ⟨va_cnB na hts hG rfl rfl rfl (C0.2.2.2.2.2.1.2.1 _ h1) (hts _ h3) hdesc ⟨hfr, by dsimp only; omega⟩, hts _ h2, trivial⟩ ⟨PcG.blind, fun U hU hW => pre_U (k := K) C0 g U hU hW⟩ rfl (by simpa using hlen) g.1.1 (by simp) (lv_room (by rw [stw_e]; exact hw)) hd (by have := g.2.2.2; omega)) kk
def T_objInit : Tr := fun as M k => match as with
  | [Sum.inr (Sum.inr (some _))] => k none M
  | _ => False
theorem T_objInit_e {o : Nat} {M : Mm} {k : Option AV → Mm → Prop} : T_objInit [vR o] M k = k none M := rfl
theorem call_objInit {own : String} {j : Nat} (h1 : Cond.methodLink own j objectInit ∈ tgw) (h2 : Cond.instanceMethod objectInit ∈ tgw) (h3 : Cond.code objectInit ⟨#[0xb1]⟩ 1 none ∈ tgw) : CallOK own (.invokespecial j) (1, 0, 0, 0, T_objInit) := by
  intro G p l e R s m args below meth c nL sz0 sl0 Qs cc pc ls st as M K C0 hd hlen has hst hfr hlo hw hc1 hc2 hT kk
  dsimp only at hlen hfr hlo hc1 hc2 hT
  have hts := C0.2.2.2.2.1
  match as, hT with
  | [Sum.inr (Sum.inr (some o))], hT =>
    intro H lsA locs g
    refine W.objInit C0.1 C0.2.1 C0.2.2.2.1 (hts _ h1) (hts _ h2) (hts _ h3) rfl (by rw [C0.2.2.1]; exact g.1.1) rfl hd (by omega) ?_ (kk none M trivial hT H lsA locs g)
    show 2 * 0 + ((st.map conc).map fun v => v.category).sum + 12 ≤ R.locals
    rw [stw_e]
    omega
def T_max : Tr := fun as M k => pI as fun a as => pI as fun b _ => k (some (vI (max a b))) M
theorem call_max {own : String} {j : Nat} (h1 : Cond.methodLink own j Lib.Math.max.name ∈ tgw) (h2 : Cond.static Lib.Math.max.name ∈ tgw) (h3 : Cond.initialized "java/lang/Math" ∈ tgw) (h4 : Cond.code Lib.Math.max.name Lib.Math.max.code 2 (some .int) ∈ tgw) : CallOK own (.invokestatic j) (2, 0, 0, 0, T_max) := by
  intro G p l e R s m args below meth c nL sz0 sl0 Qs cc pc ls st as M K C0 hd hlen has hst hfr hlo hw hc1 hc2 hT kk
  dsimp only at hlen hfr hlo hc1 hc2 hT
  have hts := C0.2.2.2.2.1
  match as, hT, hlen, has with
  | [Sum.inl x, Sum.inl y], hT, _, has =>
    have hx : inR x := okS_h has
    have hy : inR y := okS_h (okS_t has)
    have hT : K (some (vI (max x y))) M := hT
    intro H lsA locs g
    obtain ⟨-, -, -, g4, g5, g6, g7⟩ := id g
    refine va_mmax (rest := st.map conc) C0.1 C0.2.1 (by rw [C0.2.2.1]; exact g.1.1.symm) C0.2.2.2.1 (hts _ h1) (hts _ h2) (hts _ h3) (hts _ h4) (by omega) (by rw [stw_e]; omega) (by omega) (by omega) hd ?_
    have e : (if Int32.ofInt x < Int32.ofInt y then Int32.ofInt y else Int32.ofInt x) = Int32.ofInt (max x y) := by
      by_cases hxy : x < y
      · rw [if_pos ((ltI hx hy).mpr hxy), Int.max_eq_right (by omega)]
      · rw [if_neg (fun q => hxy ((ltI hx hy).mp q)), Int.max_eq_left (by omega)]
    rw [e]
    have hr : inR (max x y) := by unfold inR at *; omega
    exact kk (some (vI (max x y))) M hr hT H lsA locs g
def T_copy : Tr := fun as M k => pR as fun a as => pI as fun sp as => pR as fun b as => pI as fun dp as => pI as fun n _ => (M.2.2.1 a).1 = 1 ∧ (M.2.2.1 b).1 = 1 ∧ 0 ≤ sp ∧ 0 ≤ dp ∧ 0 ≤ n ∧ sp + n ≤ (M.2.2.1 a).2 ∧ dp + n ≤ (M.2.2.1 b).2 ∧
  k none (M.1, M.2.1, M.2.2.1, M.2.2.2.1, fu M.2.2.2.2.1 b (fun i => if dp ≤ i ∧ i < dp + n then M.2.2.2.2.1 a (sp + (i - dp)) else M.2.2.2.2.1 b i), M.2.2.2.2.2)
end CLL

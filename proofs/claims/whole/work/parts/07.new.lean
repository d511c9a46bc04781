/-! ===== new cells, answers, calls ===== -/
theorem RelM.fresh {G : Gp} {s : State} {sz : Nat} {lay : Nat → Nat × Int} {ρ : Nat → Int → Nat} {σ : Nat → Int → Int} {τ : Nat → Int → Int64} {H H1 : Heap} (h : RelM G s sz lay ρ σ τ H) (h0 : 0 < G.2.2.2) (hB : G.2.2.2 ≤ sz) {kd : Nat} {n : Int} (hk0 : kd ≠ 0) (hk6 : kd ≠ 6) (hn : 0 ≤ n ∧ n ≤ 1000000) (hz : H1.size = sz + 1) (hq : ∀ q : Nat, q < sz → H1[q]? = H[q]?) (hc : celOK G (kd, n) (fun _ => 0) (fun _ => 0) (fun _ => 0) sz H1) : RelM G s (sz + 1) (fu lay sz (kd, n)) (fu ρ sz (fun _ => 0)) (fu σ sz (fun _ => 0)) (fu τ sz (fun _ => 0)) H1 := by
  obtain ⟨g1, g2, g3, g4, g5, g6, g7, g8⟩ := h
  refine ⟨hz, fun b i => ?_, fun b h1 h2 => ?_, fun b hb => ?_, fun b => ?_, fun b h1 h2 => ?_, fun b hb => ?_, ?_⟩
  · by_cases e : b = sz
    · subst e; rw [fu_s]; exact inR_0
    · rw [fu_n e]; exact g2 b i
  · by_cases e : b = sz
    · omega
    · rw [fu_n e] at h1 h2; exact g3 b h1 h2
  · rw [fu_n (by omega)]; exact g4 b (by omega)
  · by_cases e : b = sz
    · subst e; rw [fu_s]; exact hn
    · rw [fu_n e]; exact g5 b
  · by_cases e : b = sz
    · subst e; rw [fu_s, fu_s, fu_s, fu_s]; exact hc
    · rw [fu_n e, fu_n e, fu_n e, fu_n e]; exact (g6 b h1 (by omega)).kept (hq b (by omega))
  · by_cases e : b = sz
    · subst e; rw [fu_s] at hb; exact absurd hb hk6
    · rw [fu_n e] at hb ⊢; rw [fu_n e]; exact g7 b hb
  · rw [fu_n (by omega)]; exact g8
theorem vaS_push {A : Nat → Prop} {H0 H H1 : Heap} {locs : List Loc} (h : va_S A H0 H locs) (hz : H1.size = H.size + 1) (hq : ∀ q : Nat, q < H.size → H1[q]? = H[q]?) : va_S A H0 H1 locs := ⟨by have := h.1; omega, fun x h1 h2 => (hq x (Nat.lt_of_lt_of_le h1 h.1)).trans (h.2.1 x h1 h2), h.2.2⟩
theorem vaS_old {G : Gp} {H0 H : Heap} {locs : List Loc} (h : va_S (Bs G) H0 H locs) : ∀ a : Nat, a < H0.size → ¬ Bs G a → H[a]? = H0[a]? := h.2.1
theorem RelM.moved {G : Gp} {s t : State} {sz : Nat} {lay : Nat → Nat × Int} {ρ : Nat → Int → Nat} {σ : Nat → Int → Int} {τ : Nat → Int → Int64} {H : Heap} (h : RelM G s sz lay ρ σ τ H) (hvm : s.vm.Alike t.vm) (hq : ∀ a : Nat, a < s.heap.size → ¬ Bs G a → t.heap[a]? = s.heap[a]?) : RelM G t sz lay ρ σ τ H := by
  obtain ⟨g1, g2, g3, g4, g5, g6, g7, g8⟩ := h
  exact ⟨g1, g2, g3, g4, g5, g6, fun a ha => ((g7 a ha).moved hvm).kept hq, (g8.moved hvm).kept hq⟩
def okO (r : Option AV) : Prop := match r with
  | some v => okv v
  | none => True
def PcG (G : Gp) (as : List AV) (M : Mm) : Array Value → State → Prop := va_Pc (as.map conc) (fun U => Rel G U M U.heap ∧ KS G U ∧ G.2.2.2 ≤ U.heap.size ∧ 0 < G.2.2.2)
def QcG (G : Gp) (k : Option AV → Mm → Prop) (M : Mm) (mc ms : Nat) : Array Value → State → Outcome → State → Prop := fun _ st oc t =>
  (∃ (r : Option AV) (M' : Mm), oc = .returned (r.map conc) ∧ okO r ∧ k r M' ∧ Rel G t M' t.heap ∧ M'.1 = M.1 + mc ∧ M'.2.1 = M.2.1 + ms) ∧ va_F (Bs G) st t
/-- a method's contract: whenever T says so, it comes to k -/
def Snd (y : MethodName) (b : ByteArray) (n : Nat) (r : Option FieldType) (T : Tr) (dc mc ms : Nat) : Prop :=
  ∀ (l : Launch) (G : Gp) (as : List AV) (M : Mm) (k : Option AV → Mm → Prop), okS as → T as M k → Met l y (Cond.code y b n r :: tgw) ({ frames := dc, cells := mc, slots := ms, locals := 46 * dc }) (PcG G as M) (QcG G k M mc ms) mc ms (Bs G)
theorem KS.warm {G : Gp} {s U : State} (h : KS G s) (hW : s.WarmedH U.vm) : KS G U := by
  refine ⟨va_K.moved hW.alike h.1, fun w hw => ?_, va_AO.moved hW.alike h.2.2⟩
  have hz := h.2.1 w hw
  simp only [nwT, List.mem_cons, List.not_mem_nil, or_false] at hw
  rcases hw with rfl | rfl | rfl | rfl | rfl | rfl | rfl | rfl | rfl | rfl | rfl | rfl | rfl | rfl | rfl
  all_goals first | exact va_Nw.warmF hW hz | exact va_Nw.warmM hW hz
theorem PcG.blind {G : Gp} {as : List AV} {M : Mm} : FrameBlind (PcG G as M) := by
  intro a U g mk h
  obtain ⟨h1, h2, h3, h4, h5⟩ := h
  refine ⟨h1, RelM.moved (t := U.calling g mk a) h2 (Vm.Alike.refl U.vm) (fun _ _ _ => rfl), ⟨va_K.moved (u := U) (U := U.calling g mk a) (Vm.Alike.refl U.vm) h3.1, fun w hw => ?_, va_AO.moved (u := U) (U := U.calling g mk a) (Vm.Alike.refl U.vm) h3.2.2⟩, h4, h5⟩
  have hz := h3.2.1 w hw
  simp only [nwT, List.mem_cons, List.not_mem_nil, or_false] at hw
  rcases hw with rfl | rfl | rfl | rfl | rfl | rfl | rfl | rfl | rfl | rfl | rfl | rfl | rfl | rfl | rfl
  all_goals exact va_tabs (A := #[]) (u := U) (U := U.calling g mk a) rfl rfl hz
section CAL
variable {G : Gp} {p : Program} {l : Launch} {e : Env} {R : Room} {s : State} {m : MethodId} {args : Array Value} {below : List Frame} {meth : Method} {c : Code} {nL sz0 sl0 : Nat} {Qs : State → Prop} {cc : ByteArray} {own : String}
variable {X : Cx} {lim : Nat × Nat} {Q : Option AV → Mm → Prop} {K : Nat → Lc → List AV → Mm → Prop} {ts : List Nat} {pc : Nat} {ls : Lc} {st : List AV} {M : Mm}
def ncOK (own : String) (j ci : Nat) : Prop := ∃ q : vw_C, clsT[ci]? = some q ∧ Cond.classLink own j q.1 ∈ tgw ∧ Cond.instantiable q.1 q.2.2 ∈ tgw ∧ Cond.initialized q.1 ∈ tgw
theorem dflt_f {ci k : Nat} {q : vw_C} {ty : Nat → FieldType} (hk : k < q.2.2) (h : ∀ k, k < q.2.2 → (q.2.1 k).1 = q.1 ∧ (fkd ci k = 0 → ty k = .int ∧ (q.2.1 k).2.2.2 = false) ∧ (fkd ci k = 2 → ty k = .boolean ∧ (q.2.1 k).2.2.2 = false) ∧ (fkd ci k = 1 → isRT (ty k) = true ∧ (q.2.1 k).2.2.2 = true) ∧ fkd ci k ≤ 2) : defaultValue (ty k) = fval ci (fun _ => 0) (fun _ => 0) k := by
  obtain ⟨-, h0, h2, h1, hle⟩ := h k hk
  unfold fval
  by_cases e : fkd ci k = 1
  · rw [if_pos e]
    have h1 := (h1 e).1
    cases ht : ty k <;> rw [ht] at h1 <;> first | rfl | cases h1
  · rw [if_neg e]
    have e2 : fkd ci k = 0 ∨ fkd ci k = 2 := by omega
    rcases e2 with e2 | e2
    · rw [(h0 e2).1]; rfl
    · rw [(h2 e2).1]; rfl
theorem s_new {j : Nat} (hN : xnc X j < 12 → ncOK own j (xnc X j)) (C0 : Cok G p s m args meth c cc nL own) (hK : ∀ pc ls st M, okS st → okL ls → K pc ls st M → Go G p l e R s m args below meth c nL sz0 sl0 Qs pc ls st M) (hd : decode cc pc = .ok (.new j, 3)) (hS : okS st) (hL : okL ls) (h : stepI X (sz0 + R.cells, sl0 + R.slots) Q K (.new j) ts pc ls st M) : Go G p l e R s m args below meth c nL sz0 sl0 Qs pc ls st M := by
  have h : xnc X j < 12 ∧ wnew (sz0 + R.cells, sl0 + R.slots) (10 + xnc X j) 0 (nfT.getD (xnc X j) 0) M (fun a M => K (pc + 3) ls (vR a :: st) M) := h
  obtain ⟨h12, hc1, hc2, h⟩ := h
  obtain ⟨q, hq, hw1, hw2, hw3⟩ := hN h12
  obtain ⟨hin, hnf, ty0, hty, hnm, hcl⟩ := clsF_all _ q hq
  rw [← hnf] at hc2 h
  dsimp only at hc1 hc2
  intro H lsA locs g
  have hts := C0.2.2.2.2.1
  have hKn := C0.2.2.2.2.2.1.1.1 _ q hq
  have hsz : H.size = M.1 := g.2.1.1
  have hBs : G.2.2.2 ≤ M.1 := by have := C0.2.2.2.2.2.2.2.1; have := g.2.2.1.1; omega
  obtain ⟨-, -, -, g4, g5, g6, g7⟩ := id g
  refine W.newcK C0.1 C0.2.1 C0.2.2.2.1 (hts _ hw1) (hts _ hw2) (hts _ hw3) rfl hd (by omega) (by omega) hKn.2.1 hsz fun H1 kC hkC e1 z1 o1 => ?_
  refine W.cs (cells' := (M.1 + 1) - sz0) (slots' := (M.2.1 + q.2.2) - sl0) (by omega) (by omega) ?_
  refine hK _ _ _ _ (okS_c (v := vR _) trivial hS) hL h H1 lsA locs ⟨g.1, RelM.fresh g.2.1 C0.2.2.2.2.2.2.2.2 hBs (by omega) (by have := h12; omega) (by omega) z1 (fun x hx => o1 x hx) ?_, vaS_push g.2.2.1 (by omega) (fun x hx => o1 x (by omega)), by dsimp only; omega, by dsimp only; omega, by dsimp only; omega, by dsimp only; omega⟩
  exact Or.inr (Or.inr (Or.inr ⟨_, q, rfl, hq, (u_born ty0 hts hin hKn hkC e1 hty).to (fun k hk => dflt_f hk hcl)⟩))
theorem aw_i : Cond.arrayClass .int ∈ tgw := by decide +kernel
theorem aw_b : Cond.arrayClass .byte ∈ tgw := by decide +kernel
theorem aw_z : Cond.arrayClass .boolean ∈ tgw := by decide +kernel
theorem aw_l : Cond.arrayClass .long ∈ tgw := by decide +kernel
theorem s_newarray {t : ArrayType} (C0 : Cok G p s m args meth c cc nL own) (hK : ∀ pc ls st M, okS st → okL ls → K pc ls st M → Go G p l e R s m args below meth c nL sz0 sl0 Qs pc ls st M) (hd : decode cc pc = .ok (.newarray t, 2)) (hS : okS st) (hL : okL ls) (h : stepI X (sz0 + R.cells, sl0 + R.slots) Q K (.newarray t) ts pc ls st M) : Go G p l e R s m args below meth c nL sz0 sl0 Qs pc ls st M := by
  have h : pI st (fun n st => 0 ≤ n ∧ n ≤ 1000000 ∧ 1 ≤ akd t ∧ wnew (sz0 + R.cells, sl0 + R.slots) (akd t) n n.toNat M fun a M => K (pc + 2) ls (vR a :: st) M) := h
  obtain ⟨n, st1, e0, h2⟩ := pI_x h
  clear h
  subst e0
  obtain ⟨h0, h1, hk, hc1, hc2, h⟩ := h2
  dsimp only at hc1 hc2
  have hr : inR n := okS_h hS
  intro H lsA locs g
  have hsz : H.size = M.1 := g.2.1.1
  have hBs : G.2.2.2 ≤ M.1 := by have := C0.2.2.2.2.2.2.2.1; have := g.2.2.1.1; omega
  obtain ⟨-, -, -, g4, g5, g6, g7⟩ := id g
  have hneg : ¬ Int32.ofInt n < 0 := by rw [ofI0, ltI hr inR_0]; omega
  match t, h, hk, hd with
  | .int, h, _, hd =>
    refine va_newaK (atype := .int) C0.1 C0.2.1 (C0.2.2.2.2.1 _ aw_i) rfl hd rfl hneg (clampI hr h0) (by show n.toNat * 4 ≤ _; omega) (by omega) (by omega) hsz fun H1 cA e1 z1 o1 hAr hNm => ?_
    have hcA : cA = G.2.2.1 1 := Option.some.inj (hNm.symm.trans (C0.2.2.2.2.2.1.1.2 0 _ rfl).2)
    refine W.cs (cells' := (M.1 + 1) - sz0) (slots' := (M.2.1 + n.toNat) - sl0) (by omega) (by omega) ?_
    refine hK _ _ _ _ (okS_c (v := vR _) trivial (okS_t hS)) hL h H1 lsA locs ⟨g.1, RelM.fresh g.2.1 C0.2.2.2.2.2.2.2.2 hBs (by decide) (by decide) ⟨h0, h1⟩ z1 (fun x hx => o1 x hx) (Or.inl ⟨by show 1 ≤ 1; omega, by show 1 ≤ 3; omega, ?_⟩), vaS_push g.2.2.1 (by omega) (fun x hx => o1 x (by omega)), by dsimp only; omega, by dsimp only; omega, by dsimp only; omega, by dsimp only; omega⟩
    rw [e1, hcA]
    rfl
  | .byte, h, _, hd =>
    refine va_newaK (atype := .byte) C0.1 C0.2.1 (C0.2.2.2.2.1 _ aw_b) rfl hd rfl hneg (clampI hr h0) (by show n.toNat * 1 ≤ _; omega) (by omega) (by omega) hsz fun H1 cA e1 z1 o1 hAr hNm => ?_
    have hcA : cA = G.2.2.1 2 := Option.some.inj (hNm.symm.trans (C0.2.2.2.2.2.1.1.2 1 _ rfl).2)
    refine W.cs (cells' := (M.1 + 1) - sz0) (slots' := (M.2.1 + n.toNat) - sl0) (by omega) (by omega) ?_
    refine hK _ _ _ _ (okS_c (v := vR _) trivial (okS_t hS)) hL h H1 lsA locs ⟨g.1, RelM.fresh g.2.1 C0.2.2.2.2.2.2.2.2 hBs (by decide) (by decide) ⟨h0, h1⟩ z1 (fun x hx => o1 x hx) (Or.inl ⟨by show 1 ≤ 2; omega, by show 2 ≤ 3; omega, ?_⟩), vaS_push g.2.2.1 (by omega) (fun x hx => o1 x (by omega)), by dsimp only; omega, by dsimp only; omega, by dsimp only; omega, by dsimp only; omega⟩
    rw [e1, hcA]
    rfl
  | .boolean, h, _, hd =>
    refine va_newaK (atype := .boolean) C0.1 C0.2.1 (C0.2.2.2.2.1 _ aw_z) rfl hd rfl hneg (clampI hr h0) (by show n.toNat * 1 ≤ _; omega) (by omega) (by omega) hsz fun H1 cA e1 z1 o1 hAr hNm => ?_
    have hcA : cA = G.2.2.1 3 := Option.some.inj (hNm.symm.trans (C0.2.2.2.2.2.1.1.2 2 _ rfl).2)
    refine W.cs (cells' := (M.1 + 1) - sz0) (slots' := (M.2.1 + n.toNat) - sl0) (by omega) (by omega) ?_
    refine hK _ _ _ _ (okS_c (v := vR _) trivial (okS_t hS)) hL h H1 lsA locs ⟨g.1, RelM.fresh g.2.1 C0.2.2.2.2.2.2.2.2 hBs (by decide) (by decide) ⟨h0, h1⟩ z1 (fun x hx => o1 x hx) (Or.inl ⟨by show 1 ≤ 3; omega, by show 3 ≤ 3; omega, ?_⟩), vaS_push g.2.2.1 (by omega) (fun x hx => o1 x (by omega)), by dsimp only; omega, by dsimp only; omega, by dsimp only; omega, by dsimp only; omega⟩
    rw [e1, hcA]
    rfl
  | .long, h, _, hd =>
    refine va_newaK (atype := .long) C0.1 C0.2.1 (C0.2.2.2.2.1 _ aw_l) rfl hd rfl hneg (clampI hr h0) (by show n.toNat * 8 ≤ _; omega) (by omega) (by omega) hsz fun H1 cA e1 z1 o1 hAr hNm => ?_
    have hcA : cA = G.2.2.1 4 := Option.some.inj (hNm.symm.trans (C0.2.2.2.2.2.1.1.2 3 _ rfl).2)
    refine W.cs (cells' := (M.1 + 1) - sz0) (slots' := (M.2.1 + n.toNat) - sl0) (by omega) (by omega) ?_
    refine hK _ _ _ _ (okS_c (v := vR _) trivial (okS_t hS)) hL h H1 lsA locs ⟨g.1, RelM.fresh g.2.1 C0.2.2.2.2.2.2.2.2 hBs (by decide) (by decide) ⟨h0, h1⟩ z1 (fun x hx => o1 x hx) (Or.inr (Or.inl ⟨rfl, ?_⟩)), vaS_push g.2.2.1 (by omega) (fun x hx => o1 x (by omega)), by dsimp only; omega, by dsimp only; omega, by dsimp only; omega, by dsimp only; omega⟩
    rw [e1, hcA]
    rfl
  | .char, _, hk, _ => exact absurd hk (by decide)
  | .float, _, hk, _ => exact absurd hk (by decide)
  | .double, _, hk, _ => exact absurd hk (by decide)
  | .short, _, hk, _ => exact absurd hk (by decide)
theorem s_anewarray {j : Nat} (hN : xnc X j = 3 → Cond.classLink own j "PictureReader$Picture" ∈ tgw) (C0 : Cok G p s m args meth c cc nL own) (hK : ∀ pc ls st M, okS st → okL ls → K pc ls st M → Go G p l e R s m args below meth c nL sz0 sl0 Qs pc ls st M) (hd : decode cc pc = .ok (.anewarray j, 3)) (hS : okS st) (hL : okL ls) (h : stepI X (sz0 + R.cells, sl0 + R.slots) Q K (.anewarray j) ts pc ls st M) : Go G p l e R s m args below meth c nL sz0 sl0 Qs pc ls st M := by
  have h : pI st (fun n st => 0 ≤ n ∧ n ≤ 1000000 ∧ xnc X j = 3 ∧ wnew (sz0 + R.cells, sl0 + R.slots) 5 n n.toNat M fun a M => K (pc + 3) ls (vR a :: st) M) := h
  obtain ⟨n, st1, e0, h2⟩ := pI_x h
  clear h
  subst e0
  obtain ⟨h0, h1, hk, hc1, hc2, h⟩ := h2
  dsimp only at hc1 hc2
  have hr : inR n := okS_h hS
  intro H lsA locs g
  have hsz : H.size = M.1 := g.2.1.1
  have hBs : G.2.2.2 ≤ M.1 := by have := C0.2.2.2.2.2.2.2.1; have := g.2.2.1.1; omega
  obtain ⟨-, -, -, g4, g5, g6, g7⟩ := id g
  have hneg : ¬ Int32.ofInt n < 0 := by rw [ofI0, ltI hr inR_0]; omega
  have hcl : (Int32.ofInt n).toNatClampNeg = n.toNat := clampI hr h0
  refine W.anew C0.1 C0.2.1 C0.2.2.2.1 (C0.2.2.2.2.1 _ (hN hk)) (va_AO.use C0.2.2.2.2.2.1.2.2) rfl hd rfl hneg (by rw [hcl]; omega) (by omega) (by rw [hcl]; omega) fun cA kA comp f1 f2 f3 f4 => ?_
  rw [hcl]
  obtain ⟨kA', comp', k1, k2, k3, k4⟩ := (C0.2.2.2.2.2.1.1.2 4 _ rfl).2
  have hcA : cA = G.2.2.1 5 := Option.some.inj (f1.symm.trans k4)
  refine W.cs (cells' := (M.1 + 1) - sz0) (slots' := (M.2.1 + n.toNat) - sl0) (by omega) (by omega) ?_
  rw [hsz]
  refine hK _ _ _ _ (okS_c (v := vR _) trivial (okS_t hS)) hL h _ lsA locs ⟨g.1, RelM.fresh g.2.1 C0.2.2.2.2.2.2.2.2 hBs (by decide) (by decide) ⟨h0, h1⟩ (by rw [Array.size_push, hsz]) (fun x hx => by rw [Array.getElem?_push, if_neg (by omega)]) (Or.inr (Or.inr (Or.inl ⟨rfl, ?_⟩))), vaS_push g.2.2.1 (by rw [Array.size_push]) (fun x hx => by rw [Array.getElem?_push, if_neg (by omega)]), by dsimp only; omega, by dsimp only; omega, by dsimp only; omega, by dsimp only; omega⟩
  rw [← hsz, Array.getElem?_push_size, hcA, arrV_new]
  rfl
variable {k : Option AV → Mm → Prop} {M0 : Mm} {mc ms : Nat}
theorem qret {H : Heap} {lsA : Array Slot} {locs : List Loc} (r : Option AV) (hr : okO r) (hk : k r M) (h1 : M.1 = M0.1 + mc) (h2 : M.2.1 = M0.2.1 + ms) (g : Gh G s R nL sz0 sl0 ls M H lsA locs) : ∀ t : State, t.heap = H → s.WarmedH t.vm → QcG G k M0 mc ms args s (.returned (r.map conc)) t := by
  intro t ht hW
  refine ⟨⟨r, M, rfl, hr, hk, ?_, h1, h2⟩, g.2.2.1.F ht⟩
  have hm := RelM.moved (t := t) g.2.1 hW.alike (fun a h1 h2 => by rw [ht]; exact g.2.2.1.2.1 a h1 h2)
  rw [← ht] at hm
  exact hm
theorem s_ireturn (C0 : Cok G p s m args meth c cc nL own) (hd : decode cc pc = .ok (.ireturn, 1)) (hS : okS st) (h0 : xrb X = 0 → meth.sig.returnType = some .int) (h1 : xrb X = 1 → meth.sig.returnType = some .boolean) (h : stepI X lim (fun r M => k r M ∧ M.1 = M0.1 + mc ∧ M.2.1 = M0.2.1 + ms) K (.ireturn) ts pc ls st M) : Go G p l e R s m args below meth c nL M0.1 M0.2.1 (MQ below (QcG G k M0 mc ms) args s mc ms (Bs G)) pc ls st M := by
  have h : pI st (fun v st => st = [] ∧ rbk (xrb X) v ∧ k (some (vI v)) M ∧ M.1 = M0.1 + mc ∧ M.2.1 = M0.2.1 + ms) := h
  obtain ⟨v, st1, e0, h2⟩ := pI_x h
  clear h
  subst e0
  obtain ⟨rfl, hb, hk, hm1, hm2⟩ := h2
  intro H lsA locs g
  have e1 : M.1 - M0.1 = mc := by omega
  have e2 : M.2.1 - M0.2.1 = ms := by omega
  rw [e1, e2]
  have hrb : xrb X = 0 ∨ xrb X = 1 := by
    generalize xrb X = x at hb
    match x, hb with
    | 0, _ => exact Or.inl rfl
    | 1, _ => exact Or.inr rfl
  rcases hrb with e | e
  · exact W.iret C0.1 C0.2.1 (h0 e) (qret (some (vI v)) (okS_h hS) hk hm1 hm2 g) g.2.2.1.2.2 hd C0.2.2.2.2.2.2.1
  · rw [e] at hb
    exact W.zret C0.1 C0.2.1 (h1 e) (nar_z hb).1 (qret (some (vI v)) (okS_h hS) hk hm1 hm2 g) g.2.2.1.2.2 hd C0.2.2.2.2.2.2.1
theorem s_lreturn (C0 : Cok G p s m args meth c cc nL own) (hd : decode cc pc = .ok (.lreturn, 1)) (hS : okS st) (h0 : xrb X = 2 → meth.sig.returnType = some .long) (h : stepI X lim (fun r M => k r M ∧ M.1 = M0.1 + mc ∧ M.2.1 = M0.2.1 + ms) K (.lreturn) ts pc ls st M) : Go G p l e R s m args below meth c nL M0.1 M0.2.1 (MQ below (QcG G k M0 mc ms) args s mc ms (Bs G)) pc ls st M := by
  have h : pL st (fun v st => st = [] ∧ xrb X = 2 ∧ k (some (vL v)) M ∧ M.1 = M0.1 + mc ∧ M.2.1 = M0.2.1 + ms) := h
  obtain ⟨v, st1, e0, h2⟩ := pL_x h
  clear h
  subst e0
  obtain ⟨rfl, hb, hk, hm1, hm2⟩ := h2
  intro H lsA locs g
  have e1 : M.1 - M0.1 = mc := by omega
  have e2 : M.2.1 - M0.2.1 = ms := by omega
  rw [e1, e2]
  exact W.lret C0.1 C0.2.1 (h0 hb) (qret (some (vL v)) trivial hk hm1 hm2 g) g.2.2.1.2.2 hd C0.2.2.2.2.2.2.1
theorem s_areturn (C0 : Cok G p s m args meth c cc nL own) (hd : decode cc pc = .ok (.areturn, 1)) (hS : okS st) (h0 : xrb X = 4 → ∃ n, meth.sig.returnType = some (.object n)) (h : stepI X lim (fun r M => k r M ∧ M.1 = M0.1 + mc ∧ M.2.1 = M0.2.1 + ms) K (.areturn) ts pc ls st M) : Go G p l e R s m args below meth c nL M0.1 M0.2.1 (MQ below (QcG G k M0 mc ms) args s mc ms (Bs G)) pc ls st M := by
  have h : pA st (fun v st => st = [] ∧ xrb X = 4 ∧ k (some v) M ∧ M.1 = M0.1 + mc ∧ M.2.1 = M0.2.1 + ms) := h
  obtain ⟨v, st1, e0, hv, h2⟩ := pA_x h
  clear h
  subst e0
  obtain ⟨rfl, hb, hk, hm1, hm2⟩ := h2
  obtain ⟨nm, hnm⟩ := h0 hb
  intro H lsA locs g
  have e1 : M.1 - M0.1 = mc := by omega
  have e2 : M.2.1 - M0.2.1 = ms := by omega
  rw [e1, e2]
  rcases hv with ⟨a, rfl⟩ | rfl
  · exact W.aret C0.1 C0.2.1 hnm (Or.inl ⟨nm, rfl⟩) (Or.inr ⟨a, rfl⟩) (qret (some (vR a)) trivial hk hm1 hm2 g) g.2.2.1.2.2 hd C0.2.2.2.2.2.2.1
  · exact W.aret C0.1 C0.2.1 hnm (Or.inl ⟨nm, rfl⟩) (Or.inl rfl) (qret (some vN) trivial hk hm1 hm2 g) g.2.2.1.2.2 hd C0.2.2.2.2.2.2.1
theorem s_return_ (C0 : Cok G p s m args meth c cc nL own) (hd : decode cc pc = .ok (.return_, 1)) (hS : okS st) (h0 : xrb X = 3 → meth.sig.returnType = none) (h : stepI X lim (fun r M => k r M ∧ M.1 = M0.1 + mc ∧ M.2.1 = M0.2.1 + ms) K (.return_) ts pc ls st M) : Go G p l e R s m args below meth c nL M0.1 M0.2.1 (MQ below (QcG G k M0 mc ms) args s mc ms (Bs G)) pc ls st M := by
  have h : st = [] ∧ xrb X = 3 ∧ k none M ∧ M.1 = M0.1 + mc ∧ M.2.1 = M0.2.1 + ms := h
  obtain ⟨rfl, hb, hk, hm1, hm2⟩ := h
  intro H lsA locs g
  have e1 : M.1 - M0.1 = mc := by omega
  have e2 : M.2.1 - M0.2.1 = ms := by omega
  rw [e1, e2]
  exact W.vret C0.1 C0.2.1 (h0 hb) (qret none trivial hk hm1 hm2 g) g.2.2.1.2.2 hd C0.2.2.2.2.2.2.1
end CAL

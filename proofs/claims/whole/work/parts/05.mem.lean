/-! ===== instructions that touch the heap ===== -/
def isRT (t : FieldType) : Bool := match t with
  | .object _ => true
  | .array _ => true
  | _ => false
def clsF (ci : Nat) (q : vw_C) : Prop := (∀ w ∈ u_ws q.1 q.2.1 q.2.2, w ∈ tgw) ∧ q.2.2 = nfT.getD ci 0 ∧ ∃ ty : Nat → FieldType, (∀ k, k < q.2.2 → parseFieldDescriptor (q.2.1 k).2.2.1 = some (ty k)) ∧ (∀ a, a < q.2.2 → ∀ b, b < q.2.2 → a ≠ b → (q.2.1 a).2.1 ≠ (q.2.1 b).2.1) ∧
  (∀ k, k < q.2.2 → (q.2.1 k).1 = q.1 ∧ (fkd ci k = 0 → ty k = .int ∧ (q.2.1 k).2.2.2 = false) ∧ (fkd ci k = 2 → ty k = .boolean ∧ (q.2.1 k).2.2.2 = false) ∧ (fkd ci k = 1 → isRT (ty k) = true ∧ (q.2.1 k).2.2.2 = true) ∧ fkd ci k ≤ 2)

theorem clsF_0 : clsF 0 (RX0, TX0, 4) := ⟨inX0, rfl, tyX0, tyX0_ok, nmX0, by decide +kernel⟩
theorem clsF_1 : clsF 1 (RX1, TX1, 7) := ⟨inX1, rfl, tyX1, tyX1_ok, nmX1, by decide +kernel⟩
theorem clsF_2 : clsF 2 (RX2, TX2, 6) := ⟨inX2, rfl, tyX2, tyX2_ok, nmX2, by decide +kernel⟩
theorem clsF_3 : clsF 3 (RX3, TX3, 12) := ⟨inX3, rfl, tyX3, tyX3_ok, nmX3, by decide +kernel⟩
theorem clsF_4 : clsF 4 (RX4, TX4, 4) := ⟨inX4, rfl, tyX4, tyX4_ok, nmX4, by decide +kernel⟩
theorem clsF_5 : clsF 5 (RX5, TX5, 4) := ⟨inX5, rfl, tyX5, tyX5_ok, nmX5, by decide +kernel⟩
theorem clsF_6 : clsF 6 (RX6, TX6, 2) := ⟨inX6, rfl, tyX6, tyX6_ok, nmX6, by decide +kernel⟩
theorem clsF_7 : clsF 7 (RX7, TX7, 18) := ⟨inX7, rfl, tyX7, tyX7_ok, nmX7, by decide +kernel⟩
theorem clsF_8 : clsF 8 (RX8, TX8, 2) := ⟨inX8, rfl, tyX8, tyX8_ok, nmX8, by decide +kernel⟩
theorem clsF_9 : clsF 9 (RX9, TX9, 4) := ⟨inX9, rfl, tyX9, tyX9_ok, nmX9, by decide +kernel⟩
theorem clsF_10 : clsF 10 (RX10, TX10, 3) := ⟨inX10, rfl, tyX10, tyX10_ok, nmX10, by decide +kernel⟩
theorem clsF_11 : clsF 11 (RX11, TX11, 28) := ⟨inX11, rfl, tyX11, tyX11_ok, nmX11, by decide +kernel⟩
theorem clsF_all : ∀ (ci : Nat) (q : vw_C), clsT[ci]? = some q → clsF ci q
  | 0, q, h => by cases h; exact clsF_0
  | 1, q, h => by cases h; exact clsF_1
  | 2, q, h => by cases h; exact clsF_2
  | 3, q, h => by cases h; exact clsF_3
  | 4, q, h => by cases h; exact clsF_4
  | 5, q, h => by cases h; exact clsF_5
  | 6, q, h => by cases h; exact clsF_6
  | 7, q, h => by cases h; exact clsF_7
  | 8, q, h => by cases h; exact clsF_8
  | 9, q, h => by cases h; exact clsF_9
  | 10, q, h => by cases h; exact clsF_10
  | 11, q, h => by cases h; exact clsF_11
  | n + 12, q, h => by simp [clsT] at h
def flOK (own : String) (idx : Nat) (f : Nat × Int × Nat) : Prop := f.2.2 = 9 ∨ ∃ (q : vw_C) (k : Nat), clsT[f.1]? = some q ∧ k < q.2.2 ∧ f.2.1 = (k : Int) ∧
  ((f.2.2 ≤ 2 ∧ fkd f.1 k = f.2.2 ∧ Cond.fieldLink own idx q.1 (q.2.1 k).2.1 (q.2.1 k).2.2.1 ∈ tgw ∧ (f.2.2 = 1 → q.1 = own)) ∨
   (((f.2.2 = 3 ∧ fkd f.1 k = 1) ∨ (f.2.2 = 4 ∧ fkd f.1 k = 0)) ∧ Cond.fieldLinkNest own idx q.1 (q.2.1 k).2.1 (q.2.1 k).2.2.1 "PictureReader" ∈ nwT))
def flchk (own : String) (idx : Nat) (f : Nat × Int × Nat) : Bool := f.2.2 == 9 || match clsT[f.1]? with
  | none => false
  | some q => decide (0 ≤ f.2.1) && decide (f.2.1.toNat < q.2.2) &&
     ((decide (f.2.2 ≤ 2) && decide (fkd f.1 f.2.1.toNat = f.2.2) && decide (Cond.fieldLink own idx q.1 (q.2.1 f.2.1.toNat).2.1 (q.2.1 f.2.1.toNat).2.2.1 ∈ tgw) && decide (f.2.2 = 1 → q.1 = own)) ||
      (((decide (f.2.2 = 3) && decide (fkd f.1 f.2.1.toNat = 1)) || (decide (f.2.2 = 4) && decide (fkd f.1 f.2.1.toNat = 0))) && decide (Cond.fieldLinkNest own idx q.1 (q.2.1 f.2.1.toNat).2.1 (q.2.1 f.2.1.toNat).2.2.1 "PictureReader" ∈ nwT)))
theorem flchk_ok {own : String} {idx : Nat} {f : Nat × Int × Nat} (h : flchk own idx f = true) : flOK own idx f := by
  unfold flchk at h
  simp only [Bool.or_eq_true, beq_iff_eq] at h
  rcases h with h | h
  · exact Or.inl h
  · cases hq : clsT[f.1]? with
    | none => rw [hq] at h; cases h
    | some q =>
      rw [hq] at h
      simp only [Bool.and_eq_true, Bool.or_eq_true, decide_eq_true_eq] at h
      obtain ⟨⟨h1, h2⟩, h3⟩ := h
      refine Or.inr ⟨q, f.2.1.toNat, hq, h2, by omega, ?_⟩
      rcases h3 with ⟨⟨⟨a, b⟩, c⟩, d⟩ | ⟨a, b⟩
      · exact Or.inl ⟨a, b, c, d⟩
      · exact Or.inr ⟨a, b⟩
theorem RelM.put {G : Gp} {s : State} {sz : Nat} {lay : Nat → Nat × Int} {ρ ρ2 : Nat → Int → Nat} {σ σ2 : Nat → Int → Int} {τ τ2 : Nat → Int → Int64} {H H1 : Heap} (h : RelM G s sz lay ρ σ τ H) (h0 : 0 < G.2.2.2) {a : Nat} (hB : G.2.2.2 ≤ a) (h6 : (lay a).1 ≠ 6) (hz : H1.size = H.size) (hq : ∀ q : Nat, q ≠ a → H1[q]? = H[q]?) (e1 : ∀ b, b ≠ a → ρ2 b = ρ b) (e2 : ∀ b, b ≠ a → σ2 b = σ b) (e3 : ∀ b, b ≠ a → τ2 b = τ b) (hc : celOK G (lay a) (ρ2 a) (σ2 a) (τ2 a) a H1) (hr : ∀ i, inR (σ2 a i)) : RelM G s sz lay ρ2 σ2 τ2 H1 := by
  obtain ⟨g1, g2, g3, g4, g5, g6, g7, g8⟩ := h
  refine ⟨hz.trans g1, fun b i => ?_, g3, g4, g5, fun b h1 h2 => ?_, fun b hb => ?_, by rw [e1 0 (by omega)]; exact g8⟩
  · by_cases e : b = a
    · rw [e]; exact hr i
    · rw [e2 b e]; exact g2 b i
  · by_cases e : b = a
    · rw [e]; exact hc
    · rw [e1 b e, e2 b e, e3 b e]; exact (g6 b h1 h2).kept (hq b e)
  · have e : b ≠ a := fun e => h6 (by rw [← e]; exact hb)
    rw [e2 b e]; exact g7 b hb
theorem RelM.cel {G : Gp} {s : State} {sz : Nat} {lay : Nat → Nat × Int} {ρ : Nat → Int → Nat} {σ : Nat → Int → Int} {τ : Nat → Int → Int64} {H : Heap} (h : RelM G s sz lay ρ σ τ H) {a : Nat} (h0 : (lay a).1 ≠ 0) (h6 : (lay a).1 ≠ 6) : celOK G (lay a) (ρ a) (σ a) (τ a) a H ∧ G.2.2.2 ≤ a := by
  obtain ⟨g1, g2, g3, g4, g5, g6, g7, g8⟩ := h
  have hB := g3 a h0 h6
  refine ⟨g6 a hB (Nat.lt_of_not_le fun q => h0 (g4 a q)), hB⟩
theorem celOK.arr {G : Gp} {lay : Nat × Int} {ρ : Int → Nat} {σ : Int → Int} {τ : Int → Int64} {a : Nat} {H : Heap} (h : celOK G lay ρ σ τ a H) (h1 : 1 ≤ lay.1) (h3 : lay.1 ≤ 3) : H[a]? = some (arrV (G.2.2.1 lay.1) lay.2.toNat (fun j => .int (Int32.ofInt (σ j)))) := by
  rcases h with ⟨_, _, h⟩ | ⟨h, _⟩ | ⟨h, _⟩ | ⟨ci, q, h, _⟩
  · exact h
  all_goals omega
theorem celOK.arl {G : Gp} {lay : Nat × Int} {ρ : Int → Nat} {σ : Int → Int} {τ : Int → Int64} {a : Nat} {H : Heap} (h : celOK G lay ρ σ τ a H) (h1 : lay.1 = 4) : H[a]? = some (arrV (G.2.2.1 4) lay.2.toNat (fun j => .long (τ j))) := by
  rcases h with ⟨_, _, h⟩ | ⟨_, h⟩ | ⟨h, _⟩ | ⟨ci, q, h, _⟩
  · omega
  · exact h
  all_goals omega
theorem celOK.arq {G : Gp} {lay : Nat × Int} {ρ : Int → Nat} {σ : Int → Int} {τ : Int → Int64} {a : Nat} {H : Heap} (h : celOK G lay ρ σ τ a H) (h1 : lay.1 = 5) : H[a]? = some (arrV (G.2.2.1 5) lay.2.toNat (fun j => rfv (ρ j))) := by
  rcases h with ⟨_, _, h⟩ | ⟨h, _⟩ | ⟨_, h⟩ | ⟨ci, q, h, _⟩
  · omega
  · omega
  · exact h
  · omega
theorem celOK.obj {G : Gp} {lay : Nat × Int} {ρ : Int → Nat} {σ : Int → Int} {τ : Int → Int64} {a ci : Nat} {q : vw_C} {H : Heap} (h : celOK G lay ρ σ τ a H) (h1 : lay.1 = 10 + ci) (hq : clsT[ci]? = some q) : t_OB a (G.1 ci) q.2.2 (G.2.1 ci) H (fval ci ρ σ) := by
  rcases h with ⟨_, _, h⟩ | ⟨h, _⟩ | ⟨h, _⟩ | ⟨ci', q', h, h2, h3⟩
  · omega
  · omega
  · omega
  · have e : ci' = ci := by omega
    subst e
    rw [hq] at h2
    cases h2
    exact h3
section MEM
variable {G : Gp} {p : Program} {l : Launch} {e : Env} {R : Room} {s : State} {m : MethodId} {args : Array Value} {below : List Frame} {meth : Method} {c : Code} {nL sz0 sl0 : Nat} {Qs : State → Prop} {cc : ByteArray} {own : String}
variable {X : Cx} {lim : Nat × Nat} {Q : Option AV → Mm → Prop} {K : Nat → Lc → List AV → Mm → Prop} {ts : List Nat} {pc : Nat} {ls : Lc} {st : List AV} {M : Mm}
variable {H : Heap} {locs : List Loc} {cells slots : Nat} {lsA : Array Slot} {rest : List Value}
theorem x_put (C0 : Cok G p s m args meth c cc nL own) {ci k idx a : Nat} {q : vw_C} {V : Nat → Value} (hq : clsT[ci]? = some q) (hk : k < q.2.2) (hlink : Cond.fieldLink own idx q.1 (q.2.1 k).2.1 (q.2.1 k).2.2.1 ∈ tgw) (hfin : (q.2.1 k).2.2.2 = false) {ty : FieldType} {v : Value} (hd : parseFieldDescriptor (q.2.1 k).2.2.1 = some ty) (hn : narrow ty v = v) (hfit : fits ty v = true)
    (hob : t_OB a (G.1 ci) q.2.2 (G.2.1 ci) H V) (hB : Bs G a) (hS0 : va_S (Bs G) s.heap H locs) (hdg : decode cc pc = .ok (.putfield idx, 3))
    (kk : ∀ (H1 : Heap) (locs1 : List Loc), t_OB a (G.1 ci) q.2.2 (G.2.1 ci) H1 (updV V k v) → H1.size = H.size → (∀ x : Nat, x ≠ a → H1[x]? = H[x]?) → va_S (Bs G) s.heap H1 locs1 → W p l e R s m args below meth c H1 locs1 cells slots Qs (F0 m (pc + 3) lsA rest)) : W p l e R s m args below meth c H locs cells slots Qs (F0 m pc lsA (v :: .ref a :: rest)) := by
  obtain ⟨hx, hb, hml, hown, hts, hKS, hlk, hB0, hB1⟩ := C0
  obtain ⟨hin, -, ty0, hty, hnm, hcl⟩ := clsF_all ci q hq
  obtain ⟨C, T, N⟩ := q
  have hK := hKS.1
  have hap := va_apart (own := own) hts hin ty0 hty hnm hK hq
  obtain ⟨cell, q1, q2, q3, q4⟩ := hob
  obtain ⟨hSl, hfc, kC, hkC, hkind⟩ := hK.1 ci _ hq
  obtain ⟨cf, kf, fi, f, hi, hsl⟩ := hSl k hk
  have hlay := hts _ (hin _ (u_in_lay hk))
  unfold u_lay at hlay
  rw [if_neg (by rw [hfin]; decide)] at hlay
  have hst := (u_facts hfc hkC (u_lays hts hin hk) hi).1
  have h6 := u_store hfc hkC hkind hlay hi hd hn hfit
  have hi2 : s.fieldFound? C (T k).2.1 (T k).2.2.1 = some (cf, kf, fi, f) := by
    have e := (hcl k hk).1
    dsimp only at e
    rw [e] at hi
    exact hi
  refine W.putK hx hb (f := f) ⟨hown, hts _ hlink, ⟨_, _, _, hi2⟩, hst⟩ (by rw [q2]; exact h6) q1 q3 (by rw [hsl]; exact k2_hasslot (q4 k hk)) rfl rfl hdg fun H' e1 e2 e3 => ?_
  rw [hsl] at e1 ⊢
  exact kk H' _ ⟨_, e1, q2, q3, t_set q4 hap hk v⟩ e2 e3 (hS0.put e2 e3 hB)
theorem x_putF (C0 : Cok G p s m args meth c cc nL own) {ci k idx a : Nat} {q : vw_C} {V : Nat → Value} (hq : clsT[ci]? = some q) (hk : k < q.2.2) (hlink : Cond.fieldLink own idx q.1 (q.2.1 k).2.1 (q.2.1 k).2.2.1 ∈ tgw) (hfin : (q.2.1 k).2.2.2 = true) (hin2 : meth.name = "<init>") (hdecl : q.1 = own) {ty : FieldType} {v : Value} (hd : parseFieldDescriptor (q.2.1 k).2.2.1 = some ty) (hn : narrow ty v = v) (hfit : fits ty v = true)
    (hob : t_OB a (G.1 ci) q.2.2 (G.2.1 ci) H V) (hB : Bs G a) (hS0 : va_S (Bs G) s.heap H locs) (hdg : decode cc pc = .ok (.putfield idx, 3))
    (kk : ∀ (H1 : Heap) (locs1 : List Loc), t_OB a (G.1 ci) q.2.2 (G.2.1 ci) H1 (updV V k v) → H1.size = H.size → (∀ x : Nat, x ≠ a → H1[x]? = H[x]?) → va_S (Bs G) s.heap H1 locs1 → W p l e R s m args below meth c H1 locs1 cells slots Qs (F0 m (pc + 3) lsA rest)) : W p l e R s m args below meth c H locs cells slots Qs (F0 m pc lsA (v :: .ref a :: rest)) := by
  obtain ⟨hx, hb, hml, hown, hts, hKS, hlk, hB0, hB1⟩ := C0
  obtain ⟨hin, -, ty0, hty, hnm, hcl⟩ := clsF_all ci q hq
  obtain ⟨C, T, N⟩ := q
  have hK := hKS.1
  have hap := va_apart (own := own) hts hin ty0 hty hnm hK hq
  obtain ⟨cell, q1, q2, q3, q4⟩ := hob
  obtain ⟨hSl, hfc, kC, hkC, hkind⟩ := hK.1 ci _ hq
  obtain ⟨cf, kf, fi, f, hi, hsl⟩ := hSl k hk
  have hlay := hts _ (hin _ (u_in_lay hk))
  unfold u_lay at hlay
  rw [if_pos hfin] at hlay
  have hst := (u_facts hfc hkC (u_lays hts hin hk) hi).1
  have e0 : (T k).1 = C := (hcl k hk).1
  have hi2 : s.fieldFound? C (T k).2.1 (T k).2.2.1 = some (cf, kf, fi, f) := by
    have hi' := hi
    dsimp only at hi'
    rw [e0] at hi'
    exact hi'
  have hcf : m.cls = cf := by
    obtain ⟨_, _, c', _, _, _, -, -, hf', -, -, -, hown2, -⟩ := Cond.laysFinal_spec hlay
    have e1 : c' = cf := by have := hi.symm.trans hf'; simp at this; exact this.1.symm
    have e3 : (T k).1 = own := e0.trans hdecl
    dsimp only at hown2
    rw [e3] at hown2
    rw [← e1]; exact Option.some.inj (hown.symm.trans hown2)
  have h6 := u_fits hfc hkC hkind (Or.inr hlay) hi hd hn hfit
  refine W.putFinK hx hb hown (hts _ hlink) hi2 hst hcf hin2 (by rw [q2]; exact h6) q1 q3 (by rw [hsl]; exact k2_hasslot (q4 k hk)) rfl rfl hdg fun H' e1 e2 e3 => ?_
  rw [hsl] at e1 ⊢
  exact kk H' _ ⟨_, e1, q2, q3, t_set q4 hap hk v⟩ e2 e3 (hS0.put e2 e3 hB)
theorem wgf_x {f : Nat × Int × Nat} {lay : Nat → Nat × Int} {ρ : Nat → Int → Nat} {σ : Nat → Int → Int} {a : Nat} {k : AV → Prop} (h : wgf f lay ρ σ a k) : f.2.2 ≠ 9 ∧ lay a = (10 + f.1, 0) ∧ (((f.2.2 = 1 ∨ f.2.2 = 3) ∧ ¬ ρ a f.2.1 = 0 ∧ k (vR (ρ a f.2.1))) ∨ ((f.2.2 = 0 ∨ f.2.2 = 2 ∨ f.2.2 = 4) ∧ k (vI (σ a f.2.1)))) := by
  obtain ⟨ci, j, kd⟩ := f
  match kd, h with
  | 0, h => exact ⟨(fun z => by cases z), h.1, Or.inr ⟨Or.inl rfl, h.2⟩⟩
  | 1, h => exact ⟨(fun z => by cases z), h.1, Or.inl ⟨Or.inl rfl, h.2⟩⟩
  | 2, h => exact ⟨(fun z => by cases z), h.1, Or.inr ⟨Or.inr (Or.inl rfl), h.2⟩⟩
  | 3, h => exact ⟨(fun z => by cases z), h.1, Or.inl ⟨Or.inr rfl, h.2⟩⟩
  | 4, h => exact ⟨(fun z => by cases z), h.1, Or.inr ⟨Or.inr (Or.inr rfl), h.2⟩⟩
theorem x_get (C0 : Cok G p s m args meth c cc nL own) {ci k idx a : Nat} {q : vw_C} {V : Nat → Value} (hq : clsT[ci]? = some q) (hk : k < q.2.2) (hlink : Cond.fieldLink own idx q.1 (q.2.1 k).2.1 (q.2.1 k).2.2.1 ∈ tgw ∨ Cond.fieldLinkNest own idx q.1 (q.2.1 k).2.1 (q.2.1 k).2.2.1 "PictureReader" ∈ nwT) (hob : t_OB a (G.1 ci) q.2.2 (G.2.1 ci) H V) (hdg : decode cc pc = .ok (.getfield idx, 3))
    (kk : W p l e R s m args below meth c H locs cells slots Qs (F0 m (pc + 3) lsA (V k :: rest))) : W p l e R s m args below meth c H locs cells slots Qs (F0 m pc lsA (.ref a :: rest)) := by
  obtain ⟨hx, hb, hml, hown, hts, hKS, hlk, hB0, hB1⟩ := C0
  obtain ⟨hin, -, ty0, hty, hnm, hcl⟩ := clsF_all ci q hq
  obtain ⟨C, T, N⟩ := q
  have hK := hKS.1
  obtain ⟨cell, q1, q2, q3, q4⟩ := hob
  obtain ⟨hSl, hfc, kC, hkC, hkind⟩ := hK.1 ci _ hq
  obtain ⟨cf, kf, fi, f, hi, hsl⟩ := hSl k hk
  have hst := (u_facts hfc hkC (u_lays hts hin hk) hi).1
  have hi2 : s.fieldFound? C (T k).2.1 (T k).2.2.1 = some (cf, kf, fi, f) := by
    have e := (hcl k hk).1
    dsimp only at e
    rw [e] at hi
    exact hi
  rcases hlink with hlink | hlink
  · exact W.getf hx hb hown (hts _ hlink) hi2 hst q1 (by rw [q3]; exact fun h => by cases h) (v := V k) (by rw [hsl, q4 k hk]) rfl rfl hdg kk
  · exact va_Wgetf hx hb hown (va_Nw.use rfl (hKS.2.1 _ hlink)) hi2 hst q1 (by rw [q3]; exact fun h => by cases h) (v := V k) (by rw [hsl, q4 k hk]) rfl rfl hdg kk
theorem s_getfield {j : Nat} (hF : flOK own j (xfl X j)) (C0 : Cok G p s m args meth c cc nL own) (hK : ∀ pc ls st M, okS st → okL ls → K pc ls st M → Go G p l e R s m args below meth c nL sz0 sl0 Qs pc ls st M) (hd : decode cc pc = .ok (.getfield j, 3)) (hS : okS st) (hL : okL ls) (h : stepI X lim Q K (.getfield j) ts pc ls st M) : Go G p l e R s m args below meth c nL sz0 sl0 Qs pc ls st M := by
  have h : pR st (fun a st => wgf (xfl X j) M.2.2.1 M.2.2.2.1 M.2.2.2.2.1 a fun v => K (pc + 3) ls (v :: st) M) := h
  obtain ⟨a, st', e0, h2⟩ := pR_x h
  clear h
  subst e0
  obtain ⟨h9, hla, h⟩ := wgf_x h2
  intro H lsA locs g
  rcases hF with hF | ⟨q, k, hq, hk, hj, hF⟩
  · exact absurd hF h9
  obtain ⟨hcel, hB⟩ := RelM.cel g.2.1 (a := a) (by rw [hla]; simp) (by rw [hla]; simp; omega)
  have hob := hcel.obj (by rw [hla]) hq
  have hlink : Cond.fieldLink own j q.1 (q.2.1 k).2.1 (q.2.1 k).2.2.1 ∈ tgw ∨ Cond.fieldLinkNest own j q.1 (q.2.1 k).2.1 (q.2.1 k).2.2.1 "PictureReader" ∈ nwT := by
    rcases hF with hF | hF
    · exact Or.inl hF.2.2.1
    · exact Or.inr hF.2
  refine x_get C0 hq hk hlink hob hd ?_
  rcases h with ⟨hkd, hne, h⟩ | ⟨hkd, h⟩
  · have e : fval (xfl X j).1 (M.2.2.2.1 a) (M.2.2.2.2.1 a) k = conc (vR (M.2.2.2.1 a (xfl X j).2.1)) := by
      have hf1 : fkd (xfl X j).1 k = 1 := by
        rcases hF with hF | hF
        · have := hF.2.1; omega
        · have := hF.1; omega
      rw [hj] at hne ⊢
      unfold fval rfv
      rw [if_pos hf1, if_neg hne]
      rfl
    rw [e]
    exact hK _ _ _ _ (okS_c (v := vR _) trivial (okS_t hS)) hL h H lsA locs g
  · have e : fval (xfl X j).1 (M.2.2.2.1 a) (M.2.2.2.2.1 a) k = conc (vI (M.2.2.2.2.1 a (xfl X j).2.1)) := by
      have hf1 : ¬ fkd (xfl X j).1 k = 1 := by
        rcases hF with hF | hF
        · have := hF.2.1; omega
        · have := hF.1; omega
      rw [hj]
      unfold fval
      rw [if_neg hf1]
      rfl
    rw [e]
    exact hK _ _ _ _ (okS_c (v := vI _) (g.ok a _) (okS_t hS)) hL h H lsA locs g
theorem fval_i {ci k : Nat} {ρ : Int → Nat} {σ : Int → Int} {j v : Int} (hj : j = (k : Int)) (hf : ¬ fkd ci k = 1) (x : Nat) : updV (fval ci ρ σ) k (.int (Int32.ofInt v)) x = fval ci ρ (iu σ j v) x := by
  unfold updV fval iu
  by_cases e : x = k
  · subst e
    rw [if_pos rfl, if_neg hf, if_pos hj.symm]
  · have e' : ¬ ((x : Int) = j) := by omega
    rw [if_neg e]
    simp only [if_neg e']
theorem fval_r {ci k : Nat} {ρ : Int → Nat} {σ : Int → Int} {j : Int} {b : Nat} (hj : j = (k : Int)) (hf : fkd ci k = 1) (hb : ¬ b = 0) (x : Nat) : updV (fval ci ρ σ) k (.ref b) x = fval ci (iu ρ j b) σ x := by
  unfold updV fval iu rfv
  by_cases e : x = k
  · subst e
    rw [if_pos rfl, if_pos hf, if_pos hj.symm, if_neg hb]
  · have e' : ¬ ((x : Int) = j) := by omega
    rw [if_neg e]
    simp only [if_neg e']
theorem fu_s {α : Type} {f : Nat → α} {a : Nat} {v : α} : fu f a v a = v := by simp [fu]
theorem fu_n {α : Type} {f : Nat → α} {a b : Nat} {v : α} (h : b ≠ a) : fu f a v b = f b := by simp [fu, h]
theorem iu_s {α : Type} {f : Int → α} {a : Int} {v : α} : iu f a v a = v := by simp [iu]
theorem iu_n {α : Type} {f : Int → α} {a b : Int} {v : α} (h : b ≠ a) : iu f a v b = f b := by simp [iu, h]
theorem iu_R {f : Int → Int} {j v : Int} (h : ∀ i, inR (f i)) (hv : inR v) (i : Int) : inR (iu f j v i) := by
  unfold iu
  split
  · exact hv
  · exact h i
theorem nar_z {v : Int} (h : v = 0 ∨ v = 1) : narrow .boolean (.int (Int32.ofInt v)) = .int (Int32.ofInt v) ∧ fits .boolean (.int (Int32.ofInt v)) = true := by
  rcases h with rfl | rfl <;> exact ⟨by decide +kernel, by decide +kernel⟩
theorem s_putfield {j : Nat} (hF : flOK own j (xfl X j)) (hini : xin X = true → meth.name = "<init>") (C0 : Cok G p s m args meth c cc nL own) (hK : ∀ pc ls st M, okS st → okL ls → K pc ls st M → Go G p l e R s m args below meth c nL sz0 sl0 Qs pc ls st M) (hd : decode cc pc = .ok (.putfield j, 3)) (hS : okS st) (hL : okL ls) (h : stepI X lim Q K (.putfield j) ts pc ls st M) : Go G p l e R s m args below meth c nL sz0 sl0 Qs pc ls st M := by
  have h : wpf (xin X) (xfl X j) M.2.2.1 M.2.2.2.1 M.2.2.2.2.1 st (fun ρ σ st => K (pc + 3) ls st (M.1, M.2.1, M.2.2.1, ρ, σ, M.2.2.2.2.2)) := h
  intro H lsA locs g
  rcases hF with hF | ⟨q, k, hq, hk, hj, hF⟩
  · generalize xfl X j = f at h hF
    obtain ⟨ci, j', kd⟩ := f
    dsimp only at hF
    subst hF
    exact h.elim
  obtain ⟨-, -, ty0, hty, -, hcl⟩ := clsF_all _ q hq
  generalize hf : xfl X j = f at h hF hq hj hcl
  obtain ⟨ci, j', kd⟩ := f
  dsimp only at h hF hq hj hcl
  have hc4 := hcl k hk
  match kd, h, hF with
  | 0, h, hF =>
    obtain ⟨v, st, rfl, h⟩ := pI_x (show pI st _ from h)
    obtain ⟨a, st, rfl, h⟩ := pR_x (show pR st _ from h)
    have hF : fkd ci k = 0 ∧ Cond.fieldLink own j q.1 (q.2.1 k).2.1 (q.2.1 k).2.2.1 ∈ tgw := by
      rcases hF with hF | hF
      · exact ⟨hF.2.1, hF.2.2.1⟩
      · have := hF.1; omega
    obtain ⟨hcel, hB⟩ := RelM.cel g.2.1 (a := a) (by rw [h.1]; simp) (by rw [h.1]; simp; omega)
    have e := (hc4.2.1 hF.1).1
    refine x_put C0 hq hk hF.2 (hc4.2.1 hF.1).2 (ty := .int) (by rw [← e]; exact hty k hk) rfl rfl (hcel.obj (by rw [h.1]) hq) hB g.2.2.1 hd fun H1 locs1 hob1 hz1 hq1 hS1 => ?_
    refine hK _ _ _ _ (okS_t (okS_t hS)) hL h.2 H1 lsA locs1 ⟨g.1, RelM.put g.2.1 C0.2.2.2.2.2.2.2.2 hB (by rw [h.1]; simp; omega) hz1 hq1 (fun _ _ => rfl) (fun b hb => fu_n hb) (fun _ _ => rfl) ?_ ?_, hS1, g.2.2.2⟩
    · exact Or.inr (Or.inr (Or.inr ⟨ci, q, by rw [h.1], hq, hob1.to (fun x _ => by show updV _ k _ x = fval ci (M.2.2.2.1 a) (fu M.2.2.2.2.1 a (iu (M.2.2.2.2.1 a) j' v) a) x; rw [fu_s]; exact fval_i hj (by omega) x)⟩))
    · intro i; show inR (fu M.2.2.2.2.1 a (iu (M.2.2.2.2.1 a) j' v) a i); rw [fu_s]; exact iu_R (g.ok a) (okS_h hS) i
  | 2, h, hF =>
    obtain ⟨v, st, rfl, h⟩ := pI_x (show pI st _ from h)
    obtain ⟨a, st, rfl, h⟩ := pR_x (show pR st _ from h)
    have hF : fkd ci k = 2 ∧ Cond.fieldLink own j q.1 (q.2.1 k).2.1 (q.2.1 k).2.2.1 ∈ tgw := by
      rcases hF with hF | hF
      · exact ⟨hF.2.1, hF.2.2.1⟩
      · have := hF.1; omega
    obtain ⟨hcel, hB⟩ := RelM.cel g.2.1 (a := a) (by rw [h.1]; simp) (by rw [h.1]; simp; omega)
    have e := (hc4.2.2.1 hF.1).1
    refine x_put C0 hq hk hF.2 (hc4.2.2.1 hF.1).2 (ty := .boolean) (by rw [← e]; exact hty k hk) (nar_z h.2.1).1 (nar_z h.2.1).2 (hcel.obj (by rw [h.1]) hq) hB g.2.2.1 hd fun H1 locs1 hob1 hz1 hq1 hS1 => ?_
    refine hK _ _ _ _ (okS_t (okS_t hS)) hL h.2.2 H1 lsA locs1 ⟨g.1, RelM.put g.2.1 C0.2.2.2.2.2.2.2.2 hB (by rw [h.1]; simp; omega) hz1 hq1 (fun _ _ => rfl) (fun b hb => fu_n hb) (fun _ _ => rfl) ?_ ?_, hS1, g.2.2.2⟩
    · exact Or.inr (Or.inr (Or.inr ⟨ci, q, by rw [h.1], hq, hob1.to (fun x _ => by show updV _ k _ x = fval ci (M.2.2.2.1 a) (fu M.2.2.2.2.1 a (iu (M.2.2.2.2.1 a) j' v) a) x; rw [fu_s]; exact fval_i hj (by omega) x)⟩))
    · intro i; show inR (fu M.2.2.2.2.1 a (iu (M.2.2.2.2.1 a) j' v) a i); rw [fu_s]; exact iu_R (g.ok a) (okS_h hS) i
  | 1, h, hF =>
    obtain ⟨hini0, h⟩ := h
    obtain ⟨b, st, rfl, h⟩ := pR_x (show pR st _ from h)
    obtain ⟨a, st, rfl, h⟩ := pR_x (show pR st _ from h)
    have hF : fkd ci k = 1 ∧ Cond.fieldLink own j q.1 (q.2.1 k).2.1 (q.2.1 k).2.2.1 ∈ tgw ∧ q.1 = own := by
      rcases hF with hF | hF
      · exact ⟨hF.2.1, hF.2.2.1, hF.2.2.2 rfl⟩
      · have := hF.1; omega
    obtain ⟨hcel, hB⟩ := RelM.cel g.2.1 (a := a) (by rw [h.1]; simp) (by rw [h.1]; simp; omega)
    have e := (hc4.2.2.2.1 hF.1).1
    have hnf : narrow (ty0 k) (.ref b) = .ref b ∧ fits (ty0 k) (.ref b) = true := by
      cases ht : ty0 k <;> rw [ht] at e <;> first | exact ⟨rfl, rfl⟩ | cases e
    refine x_putF C0 hq hk hF.2.1 (hc4.2.2.2.1 hF.1).2 (hini hini0) hF.2.2 (hty k hk) hnf.1 hnf.2 (hcel.obj (by rw [h.1]) hq) hB g.2.2.1 hd fun H1 locs1 hob1 hz1 hq1 hS1 => ?_
    refine hK _ _ _ _ (okS_t (okS_t hS)) hL h.2.2 H1 lsA locs1 ⟨g.1, RelM.put g.2.1 C0.2.2.2.2.2.2.2.2 hB (by rw [h.1]; simp; omega) hz1 hq1 (fun b hb => fu_n hb) (fun _ _ => rfl) (fun _ _ => rfl) ?_ ?_, hS1, g.2.2.2⟩
    · exact Or.inr (Or.inr (Or.inr ⟨ci, q, by rw [h.1], hq, hob1.to (fun x _ => by show updV _ k _ x = fval ci (fu M.2.2.2.1 a (iu (M.2.2.2.1 a) j' b) a) (M.2.2.2.2.1 a) x; rw [fu_s]; exact fval_r hj hF.1 h.2.1 x)⟩))
    · intro i; exact g.ok a i
  | 3, h, _ => exact h.elim
  | 4, h, _ => exact h.elim
  | n + 5, h, _ => exact h.elim
theorem s_getstatic {j : Nat} (hw : xnc X j = 77 → Cond.fieldLink own j "PictureReader" "WIDTHS" "[I" ∈ tgw) (C0 : Cok G p s m args meth c cc nL own) (hK : ∀ pc ls st M, okS st → okL ls → K pc ls st M → Go G p l e R s m args below meth c nL sz0 sl0 Qs pc ls st M) (hd : decode cc pc = .ok (.getstatic j, 3)) (hS : okS st) (hL : okL ls) (h : stepI X lim Q K (.getstatic j) ts pc ls st M) : Go G p l e R s m args below meth c nL sz0 sl0 Qs pc ls st M := by
  have h : xnc X j = 77 ∧ K (pc + 3) ls (vR (M.2.2.2.1 0 0) :: st) M := h
  intro H lsA locs g
  exact va_gets C0.1 C0.2.1 g.2.1.2.2.2.2.2.2.2 g.2.2.1 C0.2.2.2.1 (C0.2.2.2.2.1 _ (hw h.1)) (fun _ h => h) hd (hK _ _ _ _ (okS_c (v := vR _) trivial hS) hL h.2 H lsA locs g)
end MEM

/-- base values: classes, slots, array classes, the first address -/
abbrev Gp : Type := (Nat → ClassId) × (Nat → Nat → Nat) × (Nat → ClassId) × Nat
def rfv (r : Nat) : Value := if r = 0 then .null else .ref r
def fkd (ci k : Nat) : Nat := (fkT.getD ci []).getD k 0
def fval (ci : Nat) (ρ : Int → Nat) (σ : Int → Int) (k : Nat) : Value := if fkd ci k = 1 then rfv (ρ k) else .int (Int32.ofInt (σ k))
def celOK (G : Gp) (lay : Nat × Int) (ρ : Int → Nat) (σ : Int → Int) (τ : Int → Int64) (a : Nat) (H : Heap) : Prop :=
  (1 ≤ lay.1 ∧ lay.1 ≤ 3 ∧ H[a]? = some (arrV (G.2.2.1 lay.1) lay.2.toNat (fun j => .int (Int32.ofInt (σ j))))) ∨
  (lay.1 = 4 ∧ H[a]? = some (arrV (G.2.2.1 4) lay.2.toNat (fun j => .long (τ j)))) ∨
  (lay.1 = 5 ∧ H[a]? = some (arrV (G.2.2.1 5) lay.2.toNat (fun j => rfv (ρ j)))) ∨
  ∃ (ci : Nat) (q : vw_C), lay.1 = 10 + ci ∧ clsT[ci]? = some q ∧ t_OB a (G.1 ci) q.2.2 (G.2.1 ci) H (fval ci ρ σ)
theorem celOK.kept {G : Gp} {lay : Nat × Int} {ρ : Int → Nat} {σ : Int → Int} {τ : Int → Int64} {a : Nat} {H H1 : Heap} (h : celOK G lay ρ σ τ a H) (hq : H1[a]? = H[a]?) : celOK G lay ρ σ τ a H1 := by
  rcases h with ⟨h1, h2, h3⟩ | ⟨h1, h2⟩ | ⟨h1, h2⟩ | ⟨ci, q, h1, h2, h3⟩
  · exact Or.inl ⟨h1, h2, hq.trans h3⟩
  · exact Or.inr (Or.inl ⟨h1, hq.trans h2⟩)
  · exact Or.inr (Or.inr (Or.inl ⟨h1, hq.trans h2⟩))
  · exact Or.inr (Or.inr (Or.inr ⟨ci, q, h1, h2, h3.kept hq⟩))
def tysT (aC : Nat → ClassId) : List (ClassId × FieldType) := [(aC 1, .int), (aC 2, .byte), (aC 3, .boolean), (aC 4, .long), (aC 5, .object "PictureReader$Picture")]
abbrev Bs (G : Gp) : Nat → Prop := fun q => G.2.2.2 ≤ q
def RelM (G : Gp) (s : State) (sz : Nat) (lay : Nat → Nat × Int) (ρ : Nat → Int → Nat) (σ : Nat → Int → Int) (τ : Nat → Int → Int64) (H : Heap) : Prop :=
  H.size = sz ∧ (∀ a i, inR (σ a i)) ∧ (∀ a, (lay a).1 ≠ 0 → (lay a).1 ≠ 6 → G.2.2.2 ≤ a) ∧ (∀ a, sz ≤ a → (lay a).1 = 0) ∧ (∀ a, 0 ≤ (lay a).2 ∧ (lay a).2 ≤ 1000000) ∧
  (∀ a, G.2.2.2 ≤ a → a < sz → celOK G (lay a) (ρ a) (σ a) (τ a) a H) ∧
  (∀ a, (lay a).1 = 6 → va_T .int a (lay a).2.toNat (fun j => .int (Int32.ofInt (σ a j))) (Bs G) s s.heap) ∧
  va_Z "PictureReader" "WIDTHS" "[I" (.ref (ρ 0 0)) (Bs G) s s.heap
def Rel (G : Gp) (s : State) (M : Mm) (H : Heap) : Prop := RelM G s M.1 M.2.2.1 M.2.2.2.1 M.2.2.2.2.1 M.2.2.2.2.2 H
def nwT : List Cond := [.fieldLinkNest "PictureReader" 104 "PictureReader$Picture" "life" "LPictureReader$Life;" "PictureReader", .fieldLinkNest "PictureReader" 123 "PictureReader$Picture" "softWays" "LPictureReader$Spread;" "PictureReader", .fieldLinkNest "PictureReader" 127 "PictureReader$Picture" "ways" "LPictureReader$Spread;" "PictureReader", .fieldLinkNest "PictureReader" 137 "PictureReader$Picture" "twins" "LPictureReader$Twins;" "PictureReader", .fieldLinkNest "PictureReader" 53 "PictureReader$Picture" "records" "I" "PictureReader", .fieldLinkNest "PictureReader" 61 "PictureReader$Picture" "holes" "LPictureReader$Holes;" "PictureReader", .fieldLinkNest "PictureReader" 71 "PictureReader$Picture" "things" "LPictureReader$Things;" "PictureReader", .fieldLinkNest "PictureReader" 91 "PictureReader$Picture" "kinds" "LPictureReader$Kinds;" "PictureReader", .methodLinkNest "PictureReader$Kinds" 43 ⟨"PictureReader", "isSort", "(I)Z"⟩ "PictureReader", .methodLinkNest "PictureReader$Kinds" 46 ⟨"PictureReader", "widthOf", "(I)I"⟩ "PictureReader", .methodLinkNest "PictureReader$Life" 83 ⟨"PictureReader", "isId", "(I)Z"⟩ "PictureReader", .methodLinkNest "PictureReader$Picture" 150 ⟨"PictureReader", "isSort", "(I)Z"⟩ "PictureReader", .methodLinkNest "PictureReader$Picture" 186 ⟨"PictureReader", "widthOf", "(I)I"⟩ "PictureReader", .methodLinkNest "PictureReader$Spread" 62 ⟨"PictureReader", "isId", "(I)Z"⟩ "PictureReader", .methodLinkNest "PictureReader$Tape" 26 ⟨"PictureReader", "widthOf", "(I)I"⟩ "PictureReader"]
def KS (G : Gp) (U : State) : Prop := va_K (G.1, G.2.1) clsT (tysT G.2.2.1) U ∧ (∀ w ∈ nwT, va_Nw w U) ∧ va_AO "PictureReader$Picture" U
def Cok (G : Gp) (p : Program) (s : State) (m : MethodId) (args : Array Value) (meth : Method) (c : Code) (cc : ByteArray) (nL : Nat) (own : String) : Prop :=
  p.tables.exec = Jvm.exec ∧ c.code = cc ∧ c.maxLocals = nL ∧ s.vm.findClass own = some m.cls ∧ (∀ w ∈ tgw, w.before args s = true) ∧ KS G s ∧ meth.locks = false ∧ G.2.2.2 ≤ s.heap.size ∧ 0 < G.2.2.2
def Gh (G : Gp) (s : State) (R : Room) (nL sz0 sl0 : Nat) (ls : Lc) (M : Mm) (H : Heap) (lsA : Array Slot) (locs : List Loc) : Prop :=
  lv_has lsA nL (cnl ls) ∧ Rel G s M H ∧ va_S (Bs G) s.heap H locs ∧ sz0 ≤ M.1 ∧ M.1 ≤ sz0 + R.cells ∧ sl0 ≤ M.2.1 ∧ M.2.1 ≤ sl0 + R.slots
def Go (G : Gp) (p : Program) (l : Launch) (e : Env) (R : Room) (s : State) (m : MethodId) (args : Array Value) (below : List Frame) (meth : Method) (c : Code) (nL sz0 sl0 : Nat) (Qs : State → Prop) (pc : Nat) (ls : Lc) (st : List AV) (M : Mm) : Prop :=
  ∀ (H : Heap) (lsA : Array Slot) (locs : List Loc), Gh G s R nL sz0 sl0 ls M H lsA locs → W p l e R s m args below meth c H locs (M.1 - sz0) (M.2.1 - sl0) Qs (F0 m pc lsA (st.map conc))
theorem Gh.ok {G : Gp} {s : State} {R : Room} {nL sz0 sl0 : Nat} {ls : Lc} {M : Mm} {H : Heap} {lsA : Array Slot} {locs : List Loc} (g : Gh G s R nL sz0 sl0 ls M H lsA locs) : okM M := g.2.1.2.1
theorem Gh.lc {G : Gp} {s : State} {R : Room} {nL sz0 sl0 : Nat} {ls ls' : Lc} {M : Mm} {H : Heap} {lsA lsA' : Array Slot} {locs : List Loc} (g : Gh G s R nL sz0 sl0 ls M H lsA locs) (h : lv_has lsA' nL (cnl ls')) : Gh G s R nL sz0 sl0 ls' M H lsA' locs := ⟨h, g.2⟩
section SND
variable {G : Gp} {p : Program} {l : Launch} {e : Env} {R : Room} {s : State} {m : MethodId} {args : Array Value} {below : List Frame} {meth : Method} {c : Code} {nL sz0 sl0 : Nat} {Qs : State → Prop} {cc : ByteArray} {own : String}
variable {X : Cx} {lim : Nat × Nat} {Q : Option AV → Mm → Prop} {K : Nat → Lc → List AV → Mm → Prop} {ts : List Nat} {pc : Nat} {ls : Lc} {st : List AV} {M : Mm}
theorem s_iload_n {k : Fin 4} (C0 : Cok G p s m args meth c cc nL own) (hK : ∀ pc ls st M, okS st → okL ls → K pc ls st M → Go G p l e R s m args below meth c nL sz0 sl0 Qs pc ls st M) (hd : decode cc pc = .ok (.iload_n k, 1)) (hS : okS st) (hL : okL ls) (h : stepI X lim Q K (.iload_n k) ts pc ls st M) : Go G p l e R s m args below meth c nL sz0 sl0 Qs pc ls st M := by
  obtain ⟨z, hz, h⟩ := oI_x h
  intro H lsA locs g
  exact lv_iload_n C0.1 C0.2.1 hd rfl (lget_at g.1 hz) (hK _ _ _ _ (okS_c (lget_ok hL hz) hS) hL h H lsA locs g)
theorem s_iload {k : Nat} (C0 : Cok G p s m args meth c cc nL own) (hK : ∀ pc ls st M, okS st → okL ls → K pc ls st M → Go G p l e R s m args below meth c nL sz0 sl0 Qs pc ls st M) (hd : decode cc pc = .ok (.iload k, 2)) (hS : okS st) (hL : okL ls) (h : stepI X lim Q K (.iload k) ts pc ls st M) : Go G p l e R s m args below meth c nL sz0 sl0 Qs pc ls st M := by
  obtain ⟨z, hz, h⟩ := oI_x h
  intro H lsA locs g
  exact lv_iload C0.1 C0.2.1 hd (lget_at g.1 hz) (hK _ _ _ _ (okS_c (lget_ok hL hz) hS) hL h H lsA locs g)
theorem s_lload_n {k : Fin 4} (C0 : Cok G p s m args meth c cc nL own) (hK : ∀ pc ls st M, okS st → okL ls → K pc ls st M → Go G p l e R s m args below meth c nL sz0 sl0 Qs pc ls st M) (hd : decode cc pc = .ok (.lload_n k, 1)) (hS : okS st) (hL : okL ls) (h : stepI X lim Q K (.lload_n k) ts pc ls st M) : Go G p l e R s m args below meth c nL sz0 sl0 Qs pc ls st M := by
  obtain ⟨z, hz, h⟩ := oL_x h
  intro H lsA locs g
  exact lv_lload_n C0.1 C0.2.1 hd rfl (lget_at g.1 hz) (hK _ _ _ _ (okS_c (lget_ok hL hz) hS) hL h H lsA locs g)
theorem s_lload {k : Nat} (C0 : Cok G p s m args meth c cc nL own) (hK : ∀ pc ls st M, okS st → okL ls → K pc ls st M → Go G p l e R s m args below meth c nL sz0 sl0 Qs pc ls st M) (hd : decode cc pc = .ok (.lload k, 2)) (hS : okS st) (hL : okL ls) (h : stepI X lim Q K (.lload k) ts pc ls st M) : Go G p l e R s m args below meth c nL sz0 sl0 Qs pc ls st M := by
  obtain ⟨z, hz, h⟩ := oL_x h
  intro H lsA locs g
  exact lv_lload C0.1 C0.2.1 hd (lget_at g.1 hz) (hK _ _ _ _ (okS_c (lget_ok hL hz) hS) hL h H lsA locs g)
theorem s_aload_n {k : Fin 4} (C0 : Cok G p s m args meth c cc nL own) (hK : ∀ pc ls st M, okS st → okL ls → K pc ls st M → Go G p l e R s m args below meth c nL sz0 sl0 Qs pc ls st M) (hd : decode cc pc = .ok (.aload_n k, 1)) (hS : okS st) (hL : okL ls) (h : stepI X lim Q K (.aload_n k) ts pc ls st M) : Go G p l e R s m args below meth c nL sz0 sl0 Qs pc ls st M := by
  have h : oA (lget ls k.val) (fun v => K (pc + 1) ls (v :: st) M) := h
  obtain ⟨v, hz, hv, h⟩ := oA_x h
  intro H lsA locs g
  rcases hv with ⟨a, rfl⟩ | rfl
  · exact lv_aload_n C0.1 C0.2.1 hd rfl (lget_at g.1 hz) (hK _ _ _ _ (okS_c (lget_ok hL hz) hS) hL h H lsA locs g)
  · exact lv_aload_nN C0.1 C0.2.1 hd rfl (lget_at g.1 hz) (hK _ _ _ _ (okS_c (lget_ok hL hz) hS) hL h H lsA locs g)
theorem s_aload {k : Nat} (C0 : Cok G p s m args meth c cc nL own) (hK : ∀ pc ls st M, okS st → okL ls → K pc ls st M → Go G p l e R s m args below meth c nL sz0 sl0 Qs pc ls st M) (hd : decode cc pc = .ok (.aload k, 2)) (hS : okS st) (hL : okL ls) (h : stepI X lim Q K (.aload k) ts pc ls st M) : Go G p l e R s m args below meth c nL sz0 sl0 Qs pc ls st M := by
  have h : oA (lget ls k) (fun v => K (pc + 2) ls (v :: st) M) := h
  obtain ⟨v, hz, hv, h⟩ := oA_x h
  intro H lsA locs g
  rcases hv with ⟨a, rfl⟩ | rfl
  · exact lv_aload C0.1 C0.2.1 hd (lget_at g.1 hz) (hK _ _ _ _ (okS_c (lget_ok hL hz) hS) hL h H lsA locs g)
  · exact lv_aloadN C0.1 C0.2.1 hd (lget_at g.1 hz) (hK _ _ _ _ (okS_c (lget_ok hL hz) hS) hL h H lsA locs g)
theorem s_istore_n {k : Fin 4} (hn : k.val < nL) (C0 : Cok G p s m args meth c cc nL own) (hK : ∀ pc ls st M, okS st → okL ls → K pc ls st M → Go G p l e R s m args below meth c nL sz0 sl0 Qs pc ls st M) (hd : decode cc pc = .ok (.istore_n k, 1)) (hS : okS st) (hL : okL ls) (h : stepI X lim Q K (.istore_n k) ts pc ls st M) : Go G p l e R s m args below meth c nL sz0 sl0 Qs pc ls st M := by
  obtain ⟨z, st, rfl, h⟩ := pI_x h
  intro H lsA locs g
  exact lv_istore_n C0.1 C0.2.1 hd rfl g.1 hn (by rw [lrm1_e]; rfl) (fun lsA' g' => hK _ _ _ _ (okS_t hS) (okL1 hL (okS_h hS)) h H lsA' locs (g.lc g'))
theorem s_lstore_n {k : Fin 4} (hn : k.val + 1 < nL) (C0 : Cok G p s m args meth c cc nL own) (hK : ∀ pc ls st M, okS st → okL ls → K pc ls st M → Go G p l e R s m args below meth c nL sz0 sl0 Qs pc ls st M) (hd : decode cc pc = .ok (.lstore_n k, 1)) (hS : okS st) (hL : okL ls) (h : stepI X lim Q K (.lstore_n k) ts pc ls st M) : Go G p l e R s m args below meth c nL sz0 sl0 Qs pc ls st M := by
  obtain ⟨z, st, rfl, h⟩ := pL_x h
  intro H lsA locs g
  exact lv_lstore_n C0.1 C0.2.1 hd rfl g.1 hn (by rw [lrm2_e]; rfl) (fun lsA' g' => hK _ _ _ _ (okS_t hS) (okL2 hL (okS_h hS)) h H lsA' locs (g.lc g'))
theorem s_astore_n {k : Fin 4} (hn : k.val < nL) (C0 : Cok G p s m args meth c cc nL own) (hK : ∀ pc ls st M, okS st → okL ls → K pc ls st M → Go G p l e R s m args below meth c nL sz0 sl0 Qs pc ls st M) (hd : decode cc pc = .ok (.astore_n k, 1)) (hS : okS st) (hL : okL ls) (h : stepI X lim Q K (.astore_n k) ts pc ls st M) : Go G p l e R s m args below meth c nL sz0 sl0 Qs pc ls st M := by
  have h : pA st (fun v st => K (pc + 1) ((k.val, v) :: lrm1 k.val ls) st M) := h
  obtain ⟨v, st, rfl, hv, h⟩ := pA_x h
  intro H lsA locs g
  rcases hv with ⟨a, rfl⟩ | rfl
  · exact lv_astore_n C0.1 C0.2.1 hd rfl g.1 hn (by rw [lrm1_e]; rfl) (fun lsA' g' => hK _ _ _ _ (okS_t hS) (okL1 hL (okS_h hS)) h H lsA' locs (g.lc g'))
  · exact lv_astore_nN C0.1 C0.2.1 hd rfl g.1 hn (by rw [lrm1_e]; rfl) (fun lsA' g' => hK _ _ _ _ (okS_t hS) (okL1 hL (okS_h hS)) h H lsA' locs (g.lc g'))
theorem s_istore {k : Nat} (hn : k < nL) (C0 : Cok G p s m args meth c cc nL own) (hK : ∀ pc ls st M, okS st → okL ls → K pc ls st M → Go G p l e R s m args below meth c nL sz0 sl0 Qs pc ls st M) (hd : decode cc pc = .ok (.istore k, 2)) (hS : okS st) (hL : okL ls) (h : stepI X lim Q K (.istore k) ts pc ls st M) : Go G p l e R s m args below meth c nL sz0 sl0 Qs pc ls st M := by
  obtain ⟨z, st, rfl, h⟩ := pI_x h
  intro H lsA locs g
  exact lv_istore C0.1 C0.2.1 hd g.1 hn (by rw [lrm1_e]; rfl) (fun lsA' g' => hK _ _ _ _ (okS_t hS) (okL1 hL (okS_h hS)) h H lsA' locs (g.lc g'))
theorem s_lstore {k : Nat} (hn : k + 1 < nL) (C0 : Cok G p s m args meth c cc nL own) (hK : ∀ pc ls st M, okS st → okL ls → K pc ls st M → Go G p l e R s m args below meth c nL sz0 sl0 Qs pc ls st M) (hd : decode cc pc = .ok (.lstore k, 2)) (hS : okS st) (hL : okL ls) (h : stepI X lim Q K (.lstore k) ts pc ls st M) : Go G p l e R s m args below meth c nL sz0 sl0 Qs pc ls st M := by
  obtain ⟨z, st, rfl, h⟩ := pL_x h
  intro H lsA locs g
  exact lv_lstore C0.1 C0.2.1 hd g.1 hn (by rw [lrm2_e]; rfl) (fun lsA' g' => hK _ _ _ _ (okS_t hS) (okL2 hL (okS_h hS)) h H lsA' locs (g.lc g'))
theorem s_astore {k : Nat} (hn : k < nL) (C0 : Cok G p s m args meth c cc nL own) (hK : ∀ pc ls st M, okS st → okL ls → K pc ls st M → Go G p l e R s m args below meth c nL sz0 sl0 Qs pc ls st M) (hd : decode cc pc = .ok (.astore k, 2)) (hS : okS st) (hL : okL ls) (h : stepI X lim Q K (.astore k) ts pc ls st M) : Go G p l e R s m args below meth c nL sz0 sl0 Qs pc ls st M := by
  have h : pA st (fun v st => K (pc + 2) ((k, v) :: lrm1 k ls) st M) := h
  obtain ⟨v, st, rfl, hv, h⟩ := pA_x h
  intro H lsA locs g
  rcases hv with ⟨a, rfl⟩ | rfl
  · exact lv_astore C0.1 C0.2.1 hd g.1 hn (by rw [lrm1_e]; rfl) (fun lsA' g' => hK _ _ _ _ (okS_t hS) (okL1 hL (okS_h hS)) h H lsA' locs (g.lc g'))
  · exact lv_astoreN C0.1 C0.2.1 hd g.1 hn (by rw [lrm1_e]; rfl) (fun lsA' g' => hK _ _ _ _ (okS_t hS) (okL1 hL (okS_h hS)) h H lsA' locs (g.lc g'))
theorem s_iconst {n : Int} (C0 : Cok G p s m args meth c cc nL own) (hK : ∀ pc ls st M, okS st → okL ls → K pc ls st M → Go G p l e R s m args below meth c nL sz0 sl0 Qs pc ls st M) (hd : decode cc pc = .ok (.iconst n, 1)) (hS : okS st) (hL : okL ls) (h : stepI X lim Q K (.iconst n) ts pc ls st M) : Go G p l e R s m args below meth c nL sz0 sl0 Qs pc ls st M := by
  intro H lsA locs g
  exact lv_iconst C0.1 C0.2.1 hd rfl (hK _ _ _ _ (okS_c (v := vI n) h.1 hS) hL h.2 H lsA locs g)
theorem s_bipush {n : Int} (C0 : Cok G p s m args meth c cc nL own) (hK : ∀ pc ls st M, okS st → okL ls → K pc ls st M → Go G p l e R s m args below meth c nL sz0 sl0 Qs pc ls st M) (hd : decode cc pc = .ok (.bipush n, 2)) (hS : okS st) (hL : okL ls) (h : stepI X lim Q K (.bipush n) ts pc ls st M) : Go G p l e R s m args below meth c nL sz0 sl0 Qs pc ls st M := by
  obtain ⟨hr, h⟩ := h
  have hn : inR n := by unfold inR; omega
  intro H lsA locs g
  exact lv_bipush C0.1 C0.2.1 hd (by apply Int32.toInt_inj.mp; rw [Int8.toInt_toInt32, toI hn, Int8.toInt_ofInt, Int.bmod_eq_of_le] <;> simp only [Int8.size] <;> omega) (hK _ _ _ _ (okS_c (v := vI n) hn hS) hL h H lsA locs g)
theorem s_sipush {n : Int} (C0 : Cok G p s m args meth c cc nL own) (hK : ∀ pc ls st M, okS st → okL ls → K pc ls st M → Go G p l e R s m args below meth c nL sz0 sl0 Qs pc ls st M) (hd : decode cc pc = .ok (.sipush n, 3)) (hS : okS st) (hL : okL ls) (h : stepI X lim Q K (.sipush n) ts pc ls st M) : Go G p l e R s m args below meth c nL sz0 sl0 Qs pc ls st M := by
  obtain ⟨hr, h⟩ := h
  have hn : inR n := by unfold inR; omega
  intro H lsA locs g
  exact lv_sipush C0.1 C0.2.1 hd (by apply Int32.toInt_inj.mp; rw [Int16.toInt_toInt32, toI hn, Int16.toInt_ofInt, Int.bmod_eq_of_le] <;> simp only [Int16.size] <;> omega) (hK _ _ _ _ (okS_c (v := vI n) hn hS) hL h H lsA locs g)
theorem s_ldc {j : Nat} (hw : ∀ z, xkc X j = some z → Jvm.Cond.constant own j (Int32.ofInt z) ∈ tgw) (C0 : Cok G p s m args meth c cc nL own) (hK : ∀ pc ls st M, okS st → okL ls → K pc ls st M → Go G p l e R s m args below meth c nL sz0 sl0 Qs pc ls st M) (hd : decode cc pc = .ok (.ldc j, 2)) (hS : okS st) (hL : okL ls) (h : stepI X lim Q K (.ldc j) ts pc ls st M) : Go G p l e R s m args below meth c nL sz0 sl0 Qs pc ls st M := by
  obtain ⟨z, hz, hr, h⟩ := oZ_x h
  intro H lsA locs g
  exact lv_ldc C0.1 C0.2.1 C0.2.2.2.1 (C0.2.2.2.2.1 _ (hw z hz)) hd (hK _ _ _ _ (okS_c (v := vI z) hr hS) hL h H lsA locs g)
theorem s_ldc2_w {j : Nat} (hw : ∀ z, xkl X j = some z → Jvm.Cond.constantLong own j z ∈ tgw) (C0 : Cok G p s m args meth c cc nL own) (hK : ∀ pc ls st M, okS st → okL ls → K pc ls st M → Go G p l e R s m args below meth c nL sz0 sl0 Qs pc ls st M) (hd : decode cc pc = .ok (.ldc2_w j, 3)) (hS : okS st) (hL : okL ls) (h : stepI X lim Q K (.ldc2_w j) ts pc ls st M) : Go G p l e R s m args below meth c nL sz0 sl0 Qs pc ls st M := by
  obtain ⟨z, hz, h⟩ := oY_x h
  intro H lsA locs g
  exact lv_ldc2 C0.1 C0.2.1 C0.2.2.2.1 (C0.2.2.2.2.1 _ (hw z hz)) hd (hK _ _ _ _ (okS_c (v := vL z) trivial hS) hL h H lsA locs g)
theorem s_lconst {n : Fin 2} (C0 : Cok G p s m args meth c cc nL own) (hK : ∀ pc ls st M, okS st → okL ls → K pc ls st M → Go G p l e R s m args below meth c nL sz0 sl0 Qs pc ls st M) (hd : decode cc pc = .ok (.lconst n, 1)) (hS : okS st) (hL : okL ls) (h : stepI X lim Q K (.lconst n) ts pc ls st M) : Go G p l e R s m args below meth c nL sz0 sl0 Qs pc ls st M := by
  intro H lsA locs g
  exact lv_lconst C0.1 C0.2.1 hd rfl (hK _ _ _ _ (okS_c (v := vL (Int64.ofNat n.val)) trivial hS) hL h H lsA locs g)
theorem s_aconst_null (C0 : Cok G p s m args meth c cc nL own) (hK : ∀ pc ls st M, okS st → okL ls → K pc ls st M → Go G p l e R s m args below meth c nL sz0 sl0 Qs pc ls st M) (hd : decode cc pc = .ok (.aconst_null, 1)) (hS : okS st) (hL : okL ls) (h : stepI X lim Q K (.aconst_null) ts pc ls st M) : Go G p l e R s m args below meth c nL sz0 sl0 Qs pc ls st M := by
  intro H lsA locs g
  exact lv_null C0.1 C0.2.1 hd (hK _ _ _ _ (okS_c (v := vN) trivial hS) hL h H lsA locs g)
theorem s_iinc {k : Nat} {n : Int} (hn : k < nL) (C0 : Cok G p s m args meth c cc nL own) (hK : ∀ pc ls st M, okS st → okL ls → K pc ls st M → Go G p l e R s m args below meth c nL sz0 sl0 Qs pc ls st M) (hd : decode cc pc = .ok (.iinc k n, 3)) (hS : okS st) (hL : okL ls) (h : stepI X lim Q K (.iinc k n) ts pc ls st M) : Go G p l e R s m args below meth c nL sz0 sl0 Qs pc ls st M := by
  obtain ⟨z, hz, hr1, hr, h⟩ := oI_x h
  intro H lsA locs g
  obtain ⟨j, hj⟩ := List.getElem?_of_mem (List.mem_map.mpr ⟨(k, vI z), lget_mem hz, rfl⟩ : (k, conc (vI z)) ∈ cnl ls)
  exact lv_iinc C0.1 C0.2.1 hd g.1 hj addI hn (by rw [lrm1_e]; rfl) (fun lsA' g' => hK _ _ _ _ hS (okL1 hL (v := vI (z + n)) hr) h H lsA' locs (g.lc g'))
theorem s_dup (C0 : Cok G p s m args meth c cc nL own) (hK : ∀ pc ls st M, okS st → okL ls → K pc ls st M → Go G p l e R s m args below meth c nL sz0 sl0 Qs pc ls st M) (hd : decode cc pc = .ok (.dup, 1)) (hS : okS st) (hL : okL ls) (h : stepI X lim Q K (.dup) ts pc ls st M) : Go G p l e R s m args below meth c nL sz0 sl0 Qs pc ls st M := by
  match st, h, hS with
  | v :: st, h, hS =>
    intro H lsA locs g
    exact lv_dup C0.1 C0.2.1 hd (by rw [conc_cat]; exact h.1) (hK _ _ _ _ (okS_c (okS_h hS) hS) hL h.2 H lsA locs g)
theorem s_dup2 (C0 : Cok G p s m args meth c cc nL own) (hK : ∀ pc ls st M, okS st → okL ls → K pc ls st M → Go G p l e R s m args below meth c nL sz0 sl0 Qs pc ls st M) (hd : decode cc pc = .ok (.dup2, 1)) (hS : okS st) (hL : okL ls) (h : stepI X lim Q K (.dup2) ts pc ls st M) : Go G p l e R s m args below meth c nL sz0 sl0 Qs pc ls st M := by
  match st, h, hS with
  | v :: w :: st, h, hS =>
    intro H lsA locs g
    exact lv_dup2_11 C0.1 C0.2.1 hd (by rw [conc_cat]; exact h.1) (by rw [conc_cat]; exact h.2.1) (hK _ _ _ _ (okS_c (okS_h hS) (okS_c (okS_h (okS_t hS)) hS)) hL h.2.2 H lsA locs g)
theorem s_iadd (C0 : Cok G p s m args meth c cc nL own) (hK : ∀ pc ls st M, okS st → okL ls → K pc ls st M → Go G p l e R s m args below meth c nL sz0 sl0 Qs pc ls st M) (hd : decode cc pc = .ok (.iadd, 1)) (hS : okS st) (hL : okL ls) (h : stepI X lim Q K (.iadd) ts pc ls st M) : Go G p l e R s m args below meth c nL sz0 sl0 Qs pc ls st M := by
  obtain ⟨b, st, rfl, h⟩ := pI_x h
  obtain ⟨a, st, rfl, h⟩ := pI_x h
  have hb : inR b := okS_h hS
  have ha : inR a := okS_h (okS_t hS)
  have hS' : okS st := okS_t (okS_t hS)
  intro H lsA locs g
  refine lv_iadd C0.1 C0.2.1 hd ?_
  rw [addI]
  exact hK _ _ _ _ (okS_c (v := vI _) (h.1) hS') hL h.2 H lsA locs g
theorem s_isub (C0 : Cok G p s m args meth c cc nL own) (hK : ∀ pc ls st M, okS st → okL ls → K pc ls st M → Go G p l e R s m args below meth c nL sz0 sl0 Qs pc ls st M) (hd : decode cc pc = .ok (.isub, 1)) (hS : okS st) (hL : okL ls) (h : stepI X lim Q K (.isub) ts pc ls st M) : Go G p l e R s m args below meth c nL sz0 sl0 Qs pc ls st M := by
  obtain ⟨b, st, rfl, h⟩ := pI_x h
  obtain ⟨a, st, rfl, h⟩ := pI_x h
  have hb : inR b := okS_h hS
  have ha : inR a := okS_h (okS_t hS)
  have hS' : okS st := okS_t (okS_t hS)
  intro H lsA locs g
  refine lv_isub C0.1 C0.2.1 hd ?_
  rw [subI]
  exact hK _ _ _ _ (okS_c (v := vI _) (h.1) hS') hL h.2 H lsA locs g
theorem s_imul (C0 : Cok G p s m args meth c cc nL own) (hK : ∀ pc ls st M, okS st → okL ls → K pc ls st M → Go G p l e R s m args below meth c nL sz0 sl0 Qs pc ls st M) (hd : decode cc pc = .ok (.imul, 1)) (hS : okS st) (hL : okL ls) (h : stepI X lim Q K (.imul) ts pc ls st M) : Go G p l e R s m args below meth c nL sz0 sl0 Qs pc ls st M := by
  obtain ⟨b, st, rfl, h⟩ := pI_x h
  obtain ⟨a, st, rfl, h⟩ := pI_x h
  have hb : inR b := okS_h hS
  have ha : inR a := okS_h (okS_t hS)
  have hS' : okS st := okS_t (okS_t hS)
  intro H lsA locs g
  refine lv_imul C0.1 C0.2.1 hd ?_
  rw [mulI]
  exact hK _ _ _ _ (okS_c (v := vI _) (h.1) hS') hL h.2 H lsA locs g
theorem s_idiv (C0 : Cok G p s m args meth c cc nL own) (hK : ∀ pc ls st M, okS st → okL ls → K pc ls st M → Go G p l e R s m args below meth c nL sz0 sl0 Qs pc ls st M) (hd : decode cc pc = .ok (.idiv, 1)) (hS : okS st) (hL : okL ls) (h : stepI X lim Q K (.idiv) ts pc ls st M) : Go G p l e R s m args below meth c nL sz0 sl0 Qs pc ls st M := by
  obtain ⟨b, st, rfl, h⟩ := pI_x h
  obtain ⟨a, st, rfl, h⟩ := pI_x h
  have hb : inR b := okS_h hS
  have ha : inR a := okS_h (okS_t hS)
  have hS' : okS st := okS_t (okS_t hS)
  intro H lsA locs g
  refine lv_idiv C0.1 C0.2.1 hd (by rw [ofI0, eqI hb inR_0]; omega) ?_
  rw [divI ha hb h.1 h.2.1]
  exact hK _ _ _ _ (okS_c (v := vI _) (show inR (a / b) from by have h2 : 0 ≤ a / b := Int.ediv_nonneg h.1 (by omega); have h3 : a / b ≤ a := Int.ediv_le_self b h.1; unfold inR at *; omega) hS') hL h.2.2 H lsA locs g
theorem s_irem (C0 : Cok G p s m args meth c cc nL own) (hK : ∀ pc ls st M, okS st → okL ls → K pc ls st M → Go G p l e R s m args below meth c nL sz0 sl0 Qs pc ls st M) (hd : decode cc pc = .ok (.irem, 1)) (hS : okS st) (hL : okL ls) (h : stepI X lim Q K (.irem) ts pc ls st M) : Go G p l e R s m args below meth c nL sz0 sl0 Qs pc ls st M := by
  obtain ⟨b, st, rfl, h⟩ := pI_x h
  obtain ⟨a, st, rfl, h⟩ := pI_x h
  have hb : inR b := okS_h hS
  have ha : inR a := okS_h (okS_t hS)
  have hS' : okS st := okS_t (okS_t hS)
  intro H lsA locs g
  refine lv_irem C0.1 C0.2.1 hd (by rw [ofI0, eqI hb inR_0]; omega) ?_
  rw [remI ha hb h.1 h.2.1]
  exact hK _ _ _ _ (okS_c (v := vI _) (show inR (a % b) from by have h2 : 0 ≤ a % b := Int.emod_nonneg a (by omega); have h3 : a % b < b := Int.emod_lt_of_pos a h.2.1; unfold inR at *; omega) hS') hL h.2.2 H lsA locs g
theorem s_iand (C0 : Cok G p s m args meth c cc nL own) (hK : ∀ pc ls st M, okS st → okL ls → K pc ls st M → Go G p l e R s m args below meth c nL sz0 sl0 Qs pc ls st M) (hd : decode cc pc = .ok (.iand, 1)) (hS : okS st) (hL : okL ls) (h : stepI X lim Q K (.iand) ts pc ls st M) : Go G p l e R s m args below meth c nL sz0 sl0 Qs pc ls st M := by
  obtain ⟨b, st, rfl, h⟩ := pI_x h
  obtain ⟨a, st, rfl, h⟩ := pI_x h
  have hb : inR b := okS_h hS
  have ha : inR a := okS_h (okS_t hS)
  have hS' : okS st := okS_t (okS_t hS)
  intro H lsA locs g
  refine lv_iand C0.1 C0.2.1 hd ?_
  rw [← andZ_e]
  exact hK _ _ _ _ (okS_c (v := vI _) (inR_toInt _) hS') hL h H lsA locs g
theorem s_ior (C0 : Cok G p s m args meth c cc nL own) (hK : ∀ pc ls st M, okS st → okL ls → K pc ls st M → Go G p l e R s m args below meth c nL sz0 sl0 Qs pc ls st M) (hd : decode cc pc = .ok (.ior, 1)) (hS : okS st) (hL : okL ls) (h : stepI X lim Q K (.ior) ts pc ls st M) : Go G p l e R s m args below meth c nL sz0 sl0 Qs pc ls st M := by
  obtain ⟨b, st, rfl, h⟩ := pI_x h
  obtain ⟨a, st, rfl, h⟩ := pI_x h
  have hb : inR b := okS_h hS
  have ha : inR a := okS_h (okS_t hS)
  have hS' : okS st := okS_t (okS_t hS)
  intro H lsA locs g
  refine lv_ior C0.1 C0.2.1 hd ?_
  rw [← orZ_e]
  exact hK _ _ _ _ (okS_c (v := vI _) (inR_toInt _) hS') hL h H lsA locs g
theorem s_ishl (C0 : Cok G p s m args meth c cc nL own) (hK : ∀ pc ls st M, okS st → okL ls → K pc ls st M → Go G p l e R s m args below meth c nL sz0 sl0 Qs pc ls st M) (hd : decode cc pc = .ok (.ishl, 1)) (hS : okS st) (hL : okL ls) (h : stepI X lim Q K (.ishl) ts pc ls st M) : Go G p l e R s m args below meth c nL sz0 sl0 Qs pc ls st M := by
  obtain ⟨b, st, rfl, h⟩ := pI_x h
  obtain ⟨a, st, rfl, h⟩ := pI_x h
  have hb : inR b := okS_h hS
  have ha : inR a := okS_h (okS_t hS)
  have hS' : okS st := okS_t (okS_t hS)
  intro H lsA locs g
  refine lv_ishl C0.1 C0.2.1 hd ?_
  rw [← shlZ_e]
  exact hK _ _ _ _ (okS_c (v := vI _) (inR_toInt _) hS') hL h H lsA locs g
theorem s_ishr (C0 : Cok G p s m args meth c cc nL own) (hK : ∀ pc ls st M, okS st → okL ls → K pc ls st M → Go G p l e R s m args below meth c nL sz0 sl0 Qs pc ls st M) (hd : decode cc pc = .ok (.ishr, 1)) (hS : okS st) (hL : okL ls) (h : stepI X lim Q K (.ishr) ts pc ls st M) : Go G p l e R s m args below meth c nL sz0 sl0 Qs pc ls st M := by
  obtain ⟨b, st, rfl, h⟩ := pI_x h
  obtain ⟨a, st, rfl, h⟩ := pI_x h
  have hb : inR b := okS_h hS
  have ha : inR a := okS_h (okS_t hS)
  have hS' : okS st := okS_t (okS_t hS)
  intro H lsA locs g
  refine lv_ishr C0.1 C0.2.1 hd ?_
  rw [← shrZ_e]
  exact hK _ _ _ _ (okS_c (v := vI _) (inR_toInt _) hS') hL h H lsA locs g
theorem s_ladd (C0 : Cok G p s m args meth c cc nL own) (hK : ∀ pc ls st M, okS st → okL ls → K pc ls st M → Go G p l e R s m args below meth c nL sz0 sl0 Qs pc ls st M) (hd : decode cc pc = .ok (.ladd, 1)) (hS : okS st) (hL : okL ls) (h : stepI X lim Q K (.ladd) ts pc ls st M) : Go G p l e R s m args below meth c nL sz0 sl0 Qs pc ls st M := by
  obtain ⟨b, st, rfl, h⟩ := pL_x h
  obtain ⟨a, st, rfl, h⟩ := pL_x h
  have hS' : okS st := okS_t (okS_t hS)
  intro H lsA locs g
  exact lv_ladd C0.1 C0.2.1 hd (hK _ _ _ _ (okS_c (v := vL _) trivial hS') hL h H lsA locs g)
theorem s_lmul (C0 : Cok G p s m args meth c cc nL own) (hK : ∀ pc ls st M, okS st → okL ls → K pc ls st M → Go G p l e R s m args below meth c nL sz0 sl0 Qs pc ls st M) (hd : decode cc pc = .ok (.lmul, 1)) (hS : okS st) (hL : okL ls) (h : stepI X lim Q K (.lmul) ts pc ls st M) : Go G p l e R s m args below meth c nL sz0 sl0 Qs pc ls st M := by
  obtain ⟨b, st, rfl, h⟩ := pL_x h
  obtain ⟨a, st, rfl, h⟩ := pL_x h
  have hS' : okS st := okS_t (okS_t hS)
  intro H lsA locs g
  exact lv_lmul C0.1 C0.2.1 hd (hK _ _ _ _ (okS_c (v := vL _) trivial hS') hL h H lsA locs g)
theorem s_lor (C0 : Cok G p s m args meth c cc nL own) (hK : ∀ pc ls st M, okS st → okL ls → K pc ls st M → Go G p l e R s m args below meth c nL sz0 sl0 Qs pc ls st M) (hd : decode cc pc = .ok (.lor, 1)) (hS : okS st) (hL : okL ls) (h : stepI X lim Q K (.lor) ts pc ls st M) : Go G p l e R s m args below meth c nL sz0 sl0 Qs pc ls st M := by
  obtain ⟨b, st, rfl, h⟩ := pL_x h
  obtain ⟨a, st, rfl, h⟩ := pL_x h
  have hS' : okS st := okS_t (okS_t hS)
  intro H lsA locs g
  exact lv_lor C0.1 C0.2.1 hd (hK _ _ _ _ (okS_c (v := vL _) trivial hS') hL h H lsA locs g)
theorem s_lxor (C0 : Cok G p s m args meth c cc nL own) (hK : ∀ pc ls st M, okS st → okL ls → K pc ls st M → Go G p l e R s m args below meth c nL sz0 sl0 Qs pc ls st M) (hd : decode cc pc = .ok (.lxor, 1)) (hS : okS st) (hL : okL ls) (h : stepI X lim Q K (.lxor) ts pc ls st M) : Go G p l e R s m args below meth c nL sz0 sl0 Qs pc ls st M := by
  obtain ⟨b, st, rfl, h⟩ := pL_x h
  obtain ⟨a, st, rfl, h⟩ := pL_x h
  have hS' : okS st := okS_t (okS_t hS)
  intro H lsA locs g
  exact lv_lxor C0.1 C0.2.1 hd (hK _ _ _ _ (okS_c (v := vL _) trivial hS') hL h H lsA locs g)
theorem s_lcmp (C0 : Cok G p s m args meth c cc nL own) (hK : ∀ pc ls st M, okS st → okL ls → K pc ls st M → Go G p l e R s m args below meth c nL sz0 sl0 Qs pc ls st M) (hd : decode cc pc = .ok (.lcmp, 1)) (hS : okS st) (hL : okL ls) (h : stepI X lim Q K (.lcmp) ts pc ls st M) : Go G p l e R s m args below meth c nL sz0 sl0 Qs pc ls st M := by
  obtain ⟨b, st, rfl, h⟩ := pL_x h
  obtain ⟨a, st, rfl, h⟩ := pL_x h
  have hS' : okS st := okS_t (okS_t hS)
  intro H lsA locs g
  refine W.lcmp C0.1 C0.2.1 hd ?_
  rw [← cmpL_e]
  exact hK _ _ _ _ (okS_c (v := vI _) (cmpL_R a b) hS') hL h H lsA locs g
theorem s_lshl (C0 : Cok G p s m args meth c cc nL own) (hK : ∀ pc ls st M, okS st → okL ls → K pc ls st M → Go G p l e R s m args below meth c nL sz0 sl0 Qs pc ls st M) (hd : decode cc pc = .ok (.lshl, 1)) (hS : okS st) (hL : okL ls) (h : stepI X lim Q K (.lshl) ts pc ls st M) : Go G p l e R s m args below meth c nL sz0 sl0 Qs pc ls st M := by
  obtain ⟨b, st, rfl, h⟩ := pI_x h
  obtain ⟨a, st, rfl, h⟩ := pL_x h
  have hS' : okS st := okS_t (okS_t hS)
  intro H lsA locs g
  exact lv_lshl C0.1 C0.2.1 hd rfl (hK _ _ _ _ (okS_c (v := vL _) trivial hS') hL h H lsA locs g)
theorem s_lushr (C0 : Cok G p s m args meth c cc nL own) (hK : ∀ pc ls st M, okS st → okL ls → K pc ls st M → Go G p l e R s m args below meth c nL sz0 sl0 Qs pc ls st M) (hd : decode cc pc = .ok (.lushr, 1)) (hS : okS st) (hL : okL ls) (h : stepI X lim Q K (.lushr) ts pc ls st M) : Go G p l e R s m args below meth c nL sz0 sl0 Qs pc ls st M := by
  obtain ⟨b, st, rfl, h⟩ := pI_x h
  obtain ⟨a, st, rfl, h⟩ := pL_x h
  have hS' : okS st := okS_t (okS_t hS)
  intro H lsA locs g
  exact lv_lushr C0.1 C0.2.1 hd rfl (hK _ _ _ _ (okS_c (v := vL _) trivial hS') hL h H lsA locs g)
theorem s_i2b (C0 : Cok G p s m args meth c cc nL own) (hK : ∀ pc ls st M, okS st → okL ls → K pc ls st M → Go G p l e R s m args below meth c nL sz0 sl0 Qs pc ls st M) (hd : decode cc pc = .ok (.i2b, 1)) (hS : okS st) (hL : okL ls) (h : stepI X lim Q K (.i2b) ts pc ls st M) : Go G p l e R s m args below meth c nL sz0 sl0 Qs pc ls st M := by
  obtain ⟨a, st, rfl, h⟩ := pI_x h
  intro H lsA locs g
  exact lv_i2b C0.1 C0.2.1 hd (i2bZ_e a).symm (hK _ _ _ _ (okS_c (v := vI (i2bZ a)) (inR_toInt _) (okS_t hS)) hL h H lsA locs g)
theorem s_i2l (C0 : Cok G p s m args meth c cc nL own) (hK : ∀ pc ls st M, okS st → okL ls → K pc ls st M → Go G p l e R s m args below meth c nL sz0 sl0 Qs pc ls st M) (hd : decode cc pc = .ok (.i2l, 1)) (hS : okS st) (hL : okL ls) (h : stepI X lim Q K (.i2l) ts pc ls st M) : Go G p l e R s m args below meth c nL sz0 sl0 Qs pc ls st M := by
  obtain ⟨a, st, rfl, h⟩ := pI_x h
  intro H lsA locs g
  exact lv_i2l C0.1 C0.2.1 hd (i2l_e (okS_h hS)) (hK _ _ _ _ (okS_c (v := vL (Int64.ofInt a)) trivial (okS_t hS)) hL h H lsA locs g)
theorem s_l2i (C0 : Cok G p s m args meth c cc nL own) (hK : ∀ pc ls st M, okS st → okL ls → K pc ls st M → Go G p l e R s m args below meth c nL sz0 sl0 Qs pc ls st M) (hd : decode cc pc = .ok (.l2i, 1)) (hS : okS st) (hL : okL ls) (h : stepI X lim Q K (.l2i) ts pc ls st M) : Go G p l e R s m args below meth c nL sz0 sl0 Qs pc ls st M := by
  obtain ⟨a, st, rfl, h⟩ := pL_x h
  intro H lsA locs g
  exact lv_l2i C0.1 C0.2.1 hd (l2iZ_e a).symm (hK _ _ _ _ (okS_c (v := vI (l2iZ a)) (inR_toInt _) (okS_t hS)) hL h H lsA locs g)
theorem s_icmp_eq {off : Int} {t : Nat} (ht : (pc : Int) + off = (t : Int)) (C0 : Cok G p s m args meth c cc nL own) (hK : ∀ pc ls st M, okS st → okL ls → K pc ls st M → Go G p l e R s m args below meth c nL sz0 sl0 Qs pc ls st M) (hd : decode cc pc = .ok (.if_icmp .eq off, 3)) (hS : okS st) (hL : okL ls) (h : stepI X lim Q K (.if_icmp .eq off) [t] pc ls st M) : Go G p l e R s m args below meth c nL sz0 sl0 Qs pc ls st M := by
  obtain ⟨b, st, rfl, h⟩ := pI_x h
  obtain ⟨a, st, rfl, h⟩ := pI_x h
  have hb : inR b := okS_h hS
  have ha : inR a := okS_h (okS_t hS)
  have hS' : okS st := okS_t (okS_t hS)
  intro H lsA locs g
  exact lv_icmp_eq C0.1 C0.2.1 hd ht (fun q => hK _ _ _ _ hS' hL (h.1 ((eqI ha hb).mp q)) H lsA locs g) (fun q => hK _ _ _ _ hS' hL (h.2 (fun z => q ((eqI ha hb).mpr z))) H lsA locs g)
theorem s_if_eq {off : Int} {t : Nat} (ht : (pc : Int) + off = (t : Int)) (C0 : Cok G p s m args meth c cc nL own) (hK : ∀ pc ls st M, okS st → okL ls → K pc ls st M → Go G p l e R s m args below meth c nL sz0 sl0 Qs pc ls st M) (hd : decode cc pc = .ok (.ifCond .eq off, 3)) (hS : okS st) (hL : okL ls) (h : stepI X lim Q K (.ifCond .eq off) [t] pc ls st M) : Go G p l e R s m args below meth c nL sz0 sl0 Qs pc ls st M := by
  obtain ⟨a, st, rfl, h⟩ := pI_x h
  have ha : inR a := okS_h hS
  intro H lsA locs g
  exact lv_if_eq C0.1 C0.2.1 hd ht (fun q => hK _ _ _ _ (okS_t hS) hL (h.1 ((eqI ha inR_0).mp q)) H lsA locs g) (fun q => hK _ _ _ _ (okS_t hS) hL (h.2 (fun z => q ((eqI ha inR_0).mpr z))) H lsA locs g)
theorem s_icmp_ne {off : Int} {t : Nat} (ht : (pc : Int) + off = (t : Int)) (C0 : Cok G p s m args meth c cc nL own) (hK : ∀ pc ls st M, okS st → okL ls → K pc ls st M → Go G p l e R s m args below meth c nL sz0 sl0 Qs pc ls st M) (hd : decode cc pc = .ok (.if_icmp .ne off, 3)) (hS : okS st) (hL : okL ls) (h : stepI X lim Q K (.if_icmp .ne off) [t] pc ls st M) : Go G p l e R s m args below meth c nL sz0 sl0 Qs pc ls st M := by
  obtain ⟨b, st, rfl, h⟩ := pI_x h
  obtain ⟨a, st, rfl, h⟩ := pI_x h
  have hb : inR b := okS_h hS
  have ha : inR a := okS_h (okS_t hS)
  have hS' : okS st := okS_t (okS_t hS)
  intro H lsA locs g
  exact lv_icmp_ne C0.1 C0.2.1 hd ht (fun q => hK _ _ _ _ hS' hL (h.1 (fun z => q ((eqI ha hb).mpr z))) H lsA locs g) (fun q => hK _ _ _ _ hS' hL (h.2 (fun z => z ((eqI ha hb).mp q))) H lsA locs g)
theorem s_if_ne {off : Int} {t : Nat} (ht : (pc : Int) + off = (t : Int)) (C0 : Cok G p s m args meth c cc nL own) (hK : ∀ pc ls st M, okS st → okL ls → K pc ls st M → Go G p l e R s m args below meth c nL sz0 sl0 Qs pc ls st M) (hd : decode cc pc = .ok (.ifCond .ne off, 3)) (hS : okS st) (hL : okL ls) (h : stepI X lim Q K (.ifCond .ne off) [t] pc ls st M) : Go G p l e R s m args below meth c nL sz0 sl0 Qs pc ls st M := by
  obtain ⟨a, st, rfl, h⟩ := pI_x h
  have ha : inR a := okS_h hS
  intro H lsA locs g
  exact lv_if_ne C0.1 C0.2.1 hd ht (fun q => hK _ _ _ _ (okS_t hS) hL (h.1 (fun z => q ((eqI ha inR_0).mpr z))) H lsA locs g) (fun q => hK _ _ _ _ (okS_t hS) hL (h.2 (fun z => z ((eqI ha inR_0).mp q))) H lsA locs g)
theorem s_icmp_lt {off : Int} {t : Nat} (ht : (pc : Int) + off = (t : Int)) (C0 : Cok G p s m args meth c cc nL own) (hK : ∀ pc ls st M, okS st → okL ls → K pc ls st M → Go G p l e R s m args below meth c nL sz0 sl0 Qs pc ls st M) (hd : decode cc pc = .ok (.if_icmp .lt off, 3)) (hS : okS st) (hL : okL ls) (h : stepI X lim Q K (.if_icmp .lt off) [t] pc ls st M) : Go G p l e R s m args below meth c nL sz0 sl0 Qs pc ls st M := by
  obtain ⟨b, st, rfl, h⟩ := pI_x h
  obtain ⟨a, st, rfl, h⟩ := pI_x h
  have hb : inR b := okS_h hS
  have ha : inR a := okS_h (okS_t hS)
  have hS' : okS st := okS_t (okS_t hS)
  intro H lsA locs g
  exact lv_icmp_lt C0.1 C0.2.1 hd ht (fun q => hK _ _ _ _ hS' hL (h.1 ((ltI ha hb).mp q)) H lsA locs g) (fun q => hK _ _ _ _ hS' hL (h.2 (fun z => q ((ltI ha hb).mpr z))) H lsA locs g)
theorem s_if_lt {off : Int} {t : Nat} (ht : (pc : Int) + off = (t : Int)) (C0 : Cok G p s m args meth c cc nL own) (hK : ∀ pc ls st M, okS st → okL ls → K pc ls st M → Go G p l e R s m args below meth c nL sz0 sl0 Qs pc ls st M) (hd : decode cc pc = .ok (.ifCond .lt off, 3)) (hS : okS st) (hL : okL ls) (h : stepI X lim Q K (.ifCond .lt off) [t] pc ls st M) : Go G p l e R s m args below meth c nL sz0 sl0 Qs pc ls st M := by
  obtain ⟨a, st, rfl, h⟩ := pI_x h
  have ha : inR a := okS_h hS
  intro H lsA locs g
  exact lv_if_lt C0.1 C0.2.1 hd ht (fun q => hK _ _ _ _ (okS_t hS) hL (h.1 ((ltI ha inR_0).mp q)) H lsA locs g) (fun q => hK _ _ _ _ (okS_t hS) hL (h.2 (fun z => q ((ltI ha inR_0).mpr z))) H lsA locs g)
theorem s_icmp_ge {off : Int} {t : Nat} (ht : (pc : Int) + off = (t : Int)) (C0 : Cok G p s m args meth c cc nL own) (hK : ∀ pc ls st M, okS st → okL ls → K pc ls st M → Go G p l e R s m args below meth c nL sz0 sl0 Qs pc ls st M) (hd : decode cc pc = .ok (.if_icmp .ge off, 3)) (hS : okS st) (hL : okL ls) (h : stepI X lim Q K (.if_icmp .ge off) [t] pc ls st M) : Go G p l e R s m args below meth c nL sz0 sl0 Qs pc ls st M := by
  obtain ⟨b, st, rfl, h⟩ := pI_x h
  obtain ⟨a, st, rfl, h⟩ := pI_x h
  have hb : inR b := okS_h hS
  have ha : inR a := okS_h (okS_t hS)
  have hS' : okS st := okS_t (okS_t hS)
  intro H lsA locs g
  exact lv_icmp_ge C0.1 C0.2.1 hd ht (fun q => hK _ _ _ _ hS' hL (h.1 ((leI hb ha).mp q)) H lsA locs g) (fun q => hK _ _ _ _ hS' hL (h.2 (fun z => q ((leI hb ha).mpr z))) H lsA locs g)
theorem s_if_ge {off : Int} {t : Nat} (ht : (pc : Int) + off = (t : Int)) (C0 : Cok G p s m args meth c cc nL own) (hK : ∀ pc ls st M, okS st → okL ls → K pc ls st M → Go G p l e R s m args below meth c nL sz0 sl0 Qs pc ls st M) (hd : decode cc pc = .ok (.ifCond .ge off, 3)) (hS : okS st) (hL : okL ls) (h : stepI X lim Q K (.ifCond .ge off) [t] pc ls st M) : Go G p l e R s m args below meth c nL sz0 sl0 Qs pc ls st M := by
  obtain ⟨a, st, rfl, h⟩ := pI_x h
  have ha : inR a := okS_h hS
  intro H lsA locs g
  exact lv_if_ge C0.1 C0.2.1 hd ht (fun q => hK _ _ _ _ (okS_t hS) hL (h.1 ((leI inR_0 ha).mp q)) H lsA locs g) (fun q => hK _ _ _ _ (okS_t hS) hL (h.2 (fun z => q ((leI inR_0 ha).mpr z))) H lsA locs g)
theorem s_icmp_gt {off : Int} {t : Nat} (ht : (pc : Int) + off = (t : Int)) (C0 : Cok G p s m args meth c cc nL own) (hK : ∀ pc ls st M, okS st → okL ls → K pc ls st M → Go G p l e R s m args below meth c nL sz0 sl0 Qs pc ls st M) (hd : decode cc pc = .ok (.if_icmp .gt off, 3)) (hS : okS st) (hL : okL ls) (h : stepI X lim Q K (.if_icmp .gt off) [t] pc ls st M) : Go G p l e R s m args below meth c nL sz0 sl0 Qs pc ls st M := by
  obtain ⟨b, st, rfl, h⟩ := pI_x h
  obtain ⟨a, st, rfl, h⟩ := pI_x h
  have hb : inR b := okS_h hS
  have ha : inR a := okS_h (okS_t hS)
  have hS' : okS st := okS_t (okS_t hS)
  intro H lsA locs g
  exact lv_icmp_gt C0.1 C0.2.1 hd ht (fun q => hK _ _ _ _ hS' hL (h.1 ((ltI hb ha).mp q)) H lsA locs g) (fun q => hK _ _ _ _ hS' hL (h.2 (fun z => q ((ltI hb ha).mpr z))) H lsA locs g)
theorem s_if_gt {off : Int} {t : Nat} (ht : (pc : Int) + off = (t : Int)) (C0 : Cok G p s m args meth c cc nL own) (hK : ∀ pc ls st M, okS st → okL ls → K pc ls st M → Go G p l e R s m args below meth c nL sz0 sl0 Qs pc ls st M) (hd : decode cc pc = .ok (.ifCond .gt off, 3)) (hS : okS st) (hL : okL ls) (h : stepI X lim Q K (.ifCond .gt off) [t] pc ls st M) : Go G p l e R s m args below meth c nL sz0 sl0 Qs pc ls st M := by
  obtain ⟨a, st, rfl, h⟩ := pI_x h
  have ha : inR a := okS_h hS
  intro H lsA locs g
  exact lv_if_gt C0.1 C0.2.1 hd ht (fun q => hK _ _ _ _ (okS_t hS) hL (h.1 ((ltI inR_0 ha).mp q)) H lsA locs g) (fun q => hK _ _ _ _ (okS_t hS) hL (h.2 (fun z => q ((ltI inR_0 ha).mpr z))) H lsA locs g)
theorem s_icmp_le {off : Int} {t : Nat} (ht : (pc : Int) + off = (t : Int)) (C0 : Cok G p s m args meth c cc nL own) (hK : ∀ pc ls st M, okS st → okL ls → K pc ls st M → Go G p l e R s m args below meth c nL sz0 sl0 Qs pc ls st M) (hd : decode cc pc = .ok (.if_icmp .le off, 3)) (hS : okS st) (hL : okL ls) (h : stepI X lim Q K (.if_icmp .le off) [t] pc ls st M) : Go G p l e R s m args below meth c nL sz0 sl0 Qs pc ls st M := by
  obtain ⟨b, st, rfl, h⟩ := pI_x h
  obtain ⟨a, st, rfl, h⟩ := pI_x h
  have hb : inR b := okS_h hS
  have ha : inR a := okS_h (okS_t hS)
  have hS' : okS st := okS_t (okS_t hS)
  intro H lsA locs g
  exact lv_icmp_le C0.1 C0.2.1 hd ht (fun q => hK _ _ _ _ hS' hL (h.1 ((leI ha hb).mp q)) H lsA locs g) (fun q => hK _ _ _ _ hS' hL (h.2 (fun z => q ((leI ha hb).mpr z))) H lsA locs g)
theorem s_if_le {off : Int} {t : Nat} (ht : (pc : Int) + off = (t : Int)) (C0 : Cok G p s m args meth c cc nL own) (hK : ∀ pc ls st M, okS st → okL ls → K pc ls st M → Go G p l e R s m args below meth c nL sz0 sl0 Qs pc ls st M) (hd : decode cc pc = .ok (.ifCond .le off, 3)) (hS : okS st) (hL : okL ls) (h : stepI X lim Q K (.ifCond .le off) [t] pc ls st M) : Go G p l e R s m args below meth c nL sz0 sl0 Qs pc ls st M := by
  obtain ⟨a, st, rfl, h⟩ := pI_x h
  have ha : inR a := okS_h hS
  intro H lsA locs g
  exact lv_if_le C0.1 C0.2.1 hd ht (fun q => hK _ _ _ _ (okS_t hS) hL (h.1 ((leI ha inR_0).mp q)) H lsA locs g) (fun q => hK _ _ _ _ (okS_t hS) hL (h.2 (fun z => q ((leI ha inR_0).mpr z))) H lsA locs g)
theorem s_ifnull {off : Int} {t : Nat} (ht : (pc : Int) + off = (t : Int)) (C0 : Cok G p s m args meth c cc nL own) (hK : ∀ pc ls st M, okS st → okL ls → K pc ls st M → Go G p l e R s m args below meth c nL sz0 sl0 Qs pc ls st M) (hd : decode cc pc = .ok (.ifnull off, 3)) (hS : okS st) (hL : okL ls) (h : stepI X lim Q K (.ifnull off) [t] pc ls st M) : Go G p l e R s m args below meth c nL sz0 sl0 Qs pc ls st M := by
  rcases pN_x h with ⟨st, rfl, h⟩ | ⟨a, st, rfl, h⟩
  · intro H lsA locs g
    exact lv_ifnullN C0.1 C0.2.1 hd ht (hK _ _ _ _ (okS_t hS) hL h H lsA locs g)
  · intro H lsA locs g
    exact lv_ifnull C0.1 C0.2.1 hd (hK _ _ _ _ (okS_t hS) hL h H lsA locs g)
theorem s_ifnonnull {off : Int} {t : Nat} (ht : (pc : Int) + off = (t : Int)) (C0 : Cok G p s m args meth c cc nL own) (hK : ∀ pc ls st M, okS st → okL ls → K pc ls st M → Go G p l e R s m args below meth c nL sz0 sl0 Qs pc ls st M) (hd : decode cc pc = .ok (.ifnonnull off, 3)) (hS : okS st) (hL : okL ls) (h : stepI X lim Q K (.ifnonnull off) [t] pc ls st M) : Go G p l e R s m args below meth c nL sz0 sl0 Qs pc ls st M := by
  rcases pN_x h with ⟨st, rfl, h⟩ | ⟨a, st, rfl, h⟩
  · intro H lsA locs g
    exact lv_ifnonnullN C0.1 C0.2.1 hd (hK _ _ _ _ (okS_t hS) hL h H lsA locs g)
  · intro H lsA locs g
    exact lv_ifnonnull C0.1 C0.2.1 hd ht (hK _ _ _ _ (okS_t hS) hL h H lsA locs g)
theorem s_goto {off : Int} {t : Nat} (ht : (pc : Int) + off = (t : Int)) (C0 : Cok G p s m args meth c cc nL own) (hK : ∀ pc ls st M, okS st → okL ls → K pc ls st M → Go G p l e R s m args below meth c nL sz0 sl0 Qs pc ls st M) (hd : decode cc pc = .ok (.goto off, 3)) (hS : okS st) (hL : okL ls) (h : stepI X lim Q K (.goto off) [t] pc ls st M) : Go G p l e R s m args below meth c nL sz0 sl0 Qs pc ls st M := by
  intro H lsA locs g
  exact lv_goto C0.1 C0.2.1 hd ht (hK _ _ _ _ hS hL h H lsA locs g)
theorem tsw_x {x : Int} {f : Nat → Prop} : ∀ {v : Int} {ts : List Nat} {k t : Nat}, tsw x v ts f → ts[k]? = some t → x = v + k → f t
  | _, [], k, _, _, h, _ => by simp at h
  | v, t0 :: ts, 0, t, h, hk, e => by
    simp only [List.getElem?_cons_zero, Option.some.injEq] at hk
    subst hk
    exact h.1 (by simpa using e)
  | v, t0 :: ts, k + 1, t, h, hk, e => by
    rw [List.getElem?_cons_succ] at hk
    exact tsw_x h.2 hk (by omega)
theorem s_tableswitch {df lo hi : Int} {offs : Array Int} {ln t : Nat} (ht : (pc : Int) + df = (t : Int)) (hlen : (hi - lo + 1).toNat ≤ ts.length) (hts : ∀ (k t : Nat), ts[k]? = some t → ∃ off, offs[k]? = some off ∧ (pc : Int) + off = (t : Int)) (C0 : Cok G p s m args meth c cc nL own) (hK : ∀ pc ls st M, okS st → okL ls → K pc ls st M → Go G p l e R s m args below meth c nL sz0 sl0 Qs pc ls st M) (hd : decode cc pc = .ok (.tableswitch df lo hi offs, ln)) (hS : okS st) (hL : okL ls) (h : stepI X lim Q K (.tableswitch df lo hi offs) (t :: ts) pc ls st M) : Go G p l e R s m args below meth c nL sz0 sl0 Qs pc ls st M := by
  obtain ⟨a, st, rfl, h⟩ := pI_x h
  have ha : inR a := okS_h hS
  intro H lsA locs g
  by_cases hin : a < lo ∨ hi < a
  · exact lv_tableOut C0.1 C0.2.1 hd (by rw [toI ha]; exact hin) ht (hK _ _ _ _ (okS_t hS) hL (h.2 hin) H lsA locs g)
  · obtain ⟨t', ht'⟩ : ∃ t', ts[(a - lo).toNat]? = some t' := ⟨_, List.getElem?_eq_getElem (by omega)⟩
    obtain ⟨off, h1, h2⟩ := hts _ _ ht'
    exact lv_tableIn C0.1 C0.2.1 hd (by rw [toI ha]; omega) (by rw [toI ha]; omega) (by rw [toI ha]; exact h1) h2 (hK _ _ _ _ (okS_t hS) hL (tsw_x h.1 ht' (by omega)) H lsA locs g)
theorem lsw_x {x d : Int} {f : Nat → Prop} {pc t0 : Nat} (h0 : (pc : Int) + d = (t0 : Int)) : ∀ {ps : List (Int × Int)} {ts : List Nat}, ps.length ≤ ts.length → (∀ (k : Nat) (q : Int × Int) (t : Nat), ps[k]? = some q → ts[k]? = some t → (pc : Int) + q.2 = (t : Int)) → lsw x ps ts f → ((∀ q ∈ ps, ¬ x = q.1) → f t0) → ∃ t : Nat, f t ∧ (pc : Int) + Op.lookupswitch.offset ps d x = (t : Int)
  | [], _, _, _, _, hd => ⟨t0, hd (fun q h => by cases h), by simpa [Op.lookupswitch.offset] using h0⟩
  | q :: ps, [], hl, _, _, _ => by simp at hl
  | q :: ps, t :: ts, hl, ht, h, hd => by
    rw [Op.lookupswitch.offset_cons]
    by_cases e : x = q.1
    · exact ⟨t, h.1 e, by rw [if_pos (by first | exact e | exact e.symm)]; exact ht 0 q t rfl rfl⟩
    · rw [if_neg (by first | exact e | exact fun z => e z.symm)]
      exact lsw_x h0 (by simpa using hl) (fun k q' t' h1 h2 => ht (k + 1) q' t' (by simpa using h1) (by simpa using h2)) h.2 (fun hn => hd (fun q' hq => by
        rcases List.mem_cons.mp hq with e' | hq
        · rw [e']; exact e
        · exact hn q' hq))
theorem s_lookupswitch {df : Int} {ps : Array (Int × Int)} {ln t : Nat} (hp : (ps.toList.zip (ps.toList.drop 1)).all (fun (a, next) => a.1 < next.1) = true) (ht : (pc : Int) + df = (t : Int)) (hlen : ps.toList.length ≤ ts.length) (hts : ∀ (k : Nat) (q : Int × Int) (t : Nat), ps.toList[k]? = some q → ts[k]? = some t → (pc : Int) + q.2 = (t : Int)) (C0 : Cok G p s m args meth c cc nL own) (hK : ∀ pc ls st M, okS st → okL ls → K pc ls st M → Go G p l e R s m args below meth c nL sz0 sl0 Qs pc ls st M) (hd : decode cc pc = .ok (.lookupswitch df ps, ln)) (hS : okS st) (hL : okL ls) (h : stepI X lim Q K (.lookupswitch df ps) (t :: ts) pc ls st M) : Go G p l e R s m args below meth c nL sz0 sl0 Qs pc ls st M := by
  obtain ⟨a, st, rfl, h⟩ := pI_x h
  have ha : inR a := okS_h hS
  intro H lsA locs g
  obtain ⟨t', h1, h2⟩ := lsw_x ht hlen hts h.1 h.2
  exact lv_lookup C0.1 C0.2.1 hd hp rfl (by rw [toI ha]; exact h2) (hK _ _ _ _ (okS_t hS) hL h1 H lsA locs g)
end SND

theorem nwT_in : ∀ w ∈ nwT, w ∈ lw_tbl := by decide +kernel
theorem nwT_on : ∀ w ∈ nwT, w.onTables = true := by decide +kernel
def wvL (j : Nat) : Int := match j with
  | 0 => 1
  | 1 => 2
  | 2 => 4
  | 3 => 8
  | 4 => 1
  | _ => 2
def layL (wa b : Nat) (L : Int) : Nat → Nat × Int := fun a => if a = wa then (6, 6) else if a = b then (6, L) else (0, 0)
def rhoL (wa : Nat) : Nat → Int → Nat := fun a k => if a = 0 ∧ k = 0 then wa else 0
def sigL (wa b : Nat) (xs : Nat → Int32) : Nat → Int → Int := fun a i => if a = wa then wvL i.toNat else if a = b then (xs i.toNat).toInt else 0
theorem wvL_R (j : Nat) : inR (wvL j) := by
  unfold wvL
  split <;> (unfold inR; omega)
theorem sigL_R {wa b : Nat} {xs : Nat → Int32} (a : Nat) (i : Int) : inR (sigL wa b xs a i) := by
  unfold sigL
  split
  · exact wvL_R _
  · split
    · exact inR_toInt _
    · exact inR_0
section LAW
variable {G : Gp} {p : Program} {l : Launch} {e : Env} {s : State} {m : MethodId} {args : Array Value} {below : List Frame} {meth : Method} {c : Code}
/-- the law's walk, over the machine -/
theorem law_key {b : Nat} {L : Int} {M0 : Mm} (hL : 0 ≤ L ∧ L ≤ 3072) (C0 : Cok G p s m args meth c code 4 RL) (hret : retOK 1 meth.sig.returnType) : ∀ (w c' : Nat) (vs : List AV) (M' : Mm), muLaw c' vs M' < w → okS vs → vs.length = ((P_law c').1.getD []).length → JLaw M0.1 M0.2.1 b L c' vs M' → Go G p l e room_1 s m args below meth c 4 M0.1 M0.2.1 (MQ below (QcG G (fun r _ => r = some (vI 1)) M0 165 406171) args s 165 406171 (Bs G)) c' (((P_law c').1.getD []).zip vs) [] M' := by
  intro w
  induction w with
  | zero => intro c' vs M' h; exact absurd h (Nat.not_lt_zero _)
  | succ w ih =>
    intro c' vs M' hw hvs hlv hJ
    intro H lsA locs g
    have hz : okL (((P_law c').1.getD []).zip vs) := fun q hq => hvs q.2 (List.of_mem_zip hq).2
    exact wps_ok (k := fun r _ => r = some (vI 1)) (M0 := M0) (mc := 165) (ms := 406171) (R := room_1) (tb := tb_law) C0 xok_law ⟨Nat.le_of_ble_eq_true rfl, Nat.le_of_ble_eq_true rfl⟩ hret (fun h => by cases h) rfl tb_law_ok (J := fun c2 vs2 M2 => JLaw M0.1 M0.2.1 b L c2 vs2 M2 ∧ muLaw c2 vs2 M2 < muLaw c' vs M') (fun c2 vs2 M2 h1 h2 h3 => ih c2 vs2 M2 (by omega) h1 h2 h3.1) (fun v hv => by cases hv) hz (law_go hL c' vs M' g.ok hJ) H lsA locs g
theorem law_walk {b : Nat} {L : Int} {sz : Nat} {lay : Nat → Nat × Int} {ρ : Nat → Int → Nat} {σ : Nat → Int → Int} {τ : Nat → Int → Int64} (hL : 0 ≤ L ∧ L ≤ 3072) (C0 : Cok G p s m #[Value.ref b] meth c code 4 RL) (hret : retOK 1 meth.sig.returnType) (hRel : Rel G s (sz, 0, lay, ρ, σ, τ) s.heap) (hb : lay b = (6, L)) (hbs : b < sz) (hW : Wd lay ρ σ) (hr : ρ 0 0 < sz) : W p l e room_1 s m #[Value.ref b] below meth c s.heap [] 0 0 (MQ below (QcG G (fun r _ => r = some (vI 1)) (sz, 0, lay, ρ, σ, τ) 165 406171) #[Value.ref b] s 165 406171 (Bs G)) (entryFrame m ([Value.ref b] : List Value).toArray 4) := by
  have hl := lv_entry ([vR b].map conc) (n := 4) (Nat.le_of_ble_eq_true rfl)
  rw [aargs_e] at hl
  have has : okS [vR b] := fun v hv => by rw [List.mem_singleton.mp hv]; exact trivial
  rw [show ([Value.ref b] : List Value) = [vR b].map conc from rfl, lg_entry_eq]
  generalize (lg_sl ([vR b].map conc) ++ List.replicate (4 - (lg_sl ([vR b].map conc)).length) Slot.unset).toArray = ls at hl ⊢
  have hgo := wps_ok (k := fun r _ => r = some (vI 1)) (M0 := (sz, 0, lay, ρ, σ, τ)) (mc := 165) (ms := 406171) (R := room_1) (tb := tb_law) (l := l) (e := e) (below := below) C0 xok_law ⟨Nat.le_of_ble_eq_true rfl, Nat.le_of_ble_eq_true rfl⟩ hret (fun h => by cases h) rfl tb_law_ok (J := JLaw sz 0 b L) (fun c2 vs2 M2 h1 h2 h3 => law_key (M0 := (sz, 0, lay, ρ, σ, τ)) hL C0 hret (muLaw c2 vs2 M2 + 1) c2 vs2 M2 (Nat.lt_succ_self _) h1 h2 h3) (fun v hv => by cases hv) (aargs_ok 0 [vR b] has) (law_0 (sl := 0) (τ := τ) hL hb hbs hW hr)
  have h1 := hgo s.heap ls [] ⟨hl, hRel, va_S.rf, Nat.le_refl _, Nat.le_add_right _ _, Nat.le_refl _, Nat.le_add_right _ _⟩
  rw [Nat.sub_self, Nat.sub_self] at h1
  exact h1
end LAW

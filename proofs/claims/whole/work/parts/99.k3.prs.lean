section
variable {t : Nat} {w : Int} {σ : Nat → Int → Int}
theorem putS_o {x : Nat} (h : ¬ x = t) (h2 : ¬ x = t + 1) : ∀ n : Nat, putS t w n σ x = σ x
  | 0 => rfl
  | n + 1 => by
    simp only [putS]
    rw [fu_n h, fu_n h2]
    exact putS_o h h2 n
theorem putS_f {j : Int} (h : ¬ j = 1) : ∀ n : Nat, putS t w n σ t j = σ t j
  | 0 => rfl
  | n + 1 => by
    simp only [putS]
    rw [fu_s, iu_n h]
    exact putS_f h n
theorem putS_b (i : Int) : ∀ n : Nat, putS t w n σ (t + 1) i = if σ t 1 ≤ i ∧ i < σ t 1 + n then i2bZ (shrZ w (24 - 8 * (i - σ t 1))) else σ (t + 1) i
  | 0 => by
    rw [if_neg (by omega)]
    rfl
  | n + 1 => by
    simp only [putS]
    rw [fu_n (show ¬ t + 1 = t by omega), fu_s, putS_len]
    by_cases e : i = σ t 1 + n
    · rw [e, iu_s, if_pos (by omega)]
      congr 2
      omega
    · rw [iu_n e, putS_b i n]
      by_cases g : σ t 1 ≤ i ∧ i < σ t 1 + n
      · rw [if_pos g, if_pos (by omega)]
      · rw [if_neg g, if_neg (by omega)]
end
/-- five words fed to the class's tape -/
def feS (t : Nat) (a b c d e : Int) (σ : Nat → Int → Int) : Nat → Int → Int := putS t e 4 (putS t d 4 (putS t c 4 (putS t b 4 (putS t a 4 σ))))
section
variable {t : Nat} {a b c d e : Int} {σ : Nat → Int → Int}
theorem feS_o {x : Nat} (h : ¬ x = t) (h2 : ¬ x = t + 1) : feS t a b c d e σ x = σ x := by
  unfold feS
  rw [putS_o h h2, putS_o h h2, putS_o h h2, putS_o h h2, putS_o h h2]
theorem feS_l : feS t a b c d e σ t 1 = σ t 1 + 20 := by
  unfold feS
  rw [putS_len, putS_len, putS_len, putS_len, putS_len]
  omega
theorem feS_b {j : Int} (hj : 0 ≤ j ∧ j < σ t 1 + 20) : feS t a b c d e σ (t + 1) j = if σ t 1 ≤ j then wby a b c d e (j - σ t 1) else σ (t + 1) j := by
  unfold feS
  rw [putS_b, putS_len, putS_len, putS_len, putS_len, putS_b, putS_len, putS_len, putS_len, putS_b, putS_len, putS_len, putS_b, putS_len, putS_b]
  unfold wby wsl
  by_cases h0 : σ t 1 ≤ j
  · rw [if_pos h0]
    by_cases k16 : j - σ t 1 < 16
    · rw [if_neg (by omega)]
      by_cases k12 : j - σ t 1 < 12
      · rw [if_neg (by omega)]
        by_cases k8 : j - σ t 1 < 8
        · rw [if_neg (by omega)]
          by_cases k4 : j - σ t 1 < 4
          · rw [if_neg (by omega), if_pos (by omega), if_pos k4]
            congr 2
            omega
          · rw [if_pos (by omega), if_neg k4, if_pos k8]
            congr 2
            omega
        · rw [if_pos (by omega), if_neg (by omega), if_neg k8, if_pos k12]
          congr 2
          omega
      · rw [if_pos (by omega), if_neg (by omega), if_neg (by omega), if_neg k12, if_pos k16]
        congr 2
        omega
    · rw [if_pos (by omega), if_neg (by omega), if_neg (by omega), if_neg (by omega), if_neg k16]
      congr 2
      omega
  · rw [if_neg h0, if_neg (by omega), if_neg (by omega), if_neg (by omega), if_neg (by omega), if_neg (by omega)]
end
theorem pr_feed {X Mo sz sl : Nat} {lay : Nat → Nat × Int} {ρ : Nat → Int → Nat} {σ : Nat → Int → Int} {τ : Nat → Int → Int64} {a b c d e : Int} (h : LI X Mo lay ρ σ τ) (k : Option AV → Mm → Prop) (H : ∀ (v : Int) (σ1 : Nat → Int → Int) (τ1 : Nat → Int → Int64), (∀ x, x < X → σ1 x = σ x) → (∀ k2 : Option AV → Mm → Prop, (∀ σ2 : Nat → Int → Int, (∀ x, x < X → σ2 x = σ x) → LI X Mo lay ρ σ2 τ1 → k2 (some (vI v)) (sz, sl, lay, ρ, σ2, τ1)) → TF_Model_feed Mo a b c d e sz sl lay ρ σ1 τ1 k2) → k (some (vI v)) (sz, sl, lay, ρ, σ1, τ1)) : TF_PR_feed X a b c d e sz sl lay ρ σ τ k := by
  obtain ⟨h1, h2, h3, ⟨h4, h5, h6, h7⟩, h8⟩ := (show LI X Mo lay ρ σ τ from h)
  have hMo := h1.2.2
  by_cases hn : 20 ≤ 8000 - σ (X + 1) 1
  · refine ⟨h1.1, h4, fun _ => H _ (feS (X + 1) a b c d e σ) τ (fun x hx => feS_o (by omega) (by omega)) (fun k2 hk2 => ?_), fun z => absurd hn z⟩
    have s : ∀ x, ¬ x = X + 1 → ¬ x = X + 1 + 1 → feS (X + 1) a b c d e σ x = σ x := fun x a b => feS_o a b
    unfold TF_Model_feed
    rw [s Mo (by omega) (by omega), s (Mo + 1) (by omega) (by omega), h5]
    refine ⟨h1.2.1, h4, h7, fun _ f f1 f2 f3 => hk2 _ (fun x hx => by rw [fu_n (by omega), fu_n (by omega)]; exact s x (by omega) (by omega)) ?_, fun z => absurd ?_ z⟩
    · have o : ∀ x, ¬ x = Mo → ¬ x = Mo + 1 → ¬ x = X + 1 → ¬ x = X + 1 + 1 → fu (fu (feS (X + 1) a b c d e σ) (Mo + 1) f) Mo (iu (σ Mo) 1 (σ (X + 1) 1 + 20)) x = σ x := fun x a b c d => by rw [fu_n a, fu_n b]; exact s x c d
      refine ⟨h1, ⟨h2.1.lw h2.2 (fun x hx => o x (by omega) (by omega) (by omega) (by omega)), h2.2⟩, h3.cg hMo (fun x hx => ⟨o x (by omega) (by omega) (by omega) (by omega), rfl⟩) (fun j _ _ => o _ (by omega) (by omega) (by omega) (by omega)) (o _ (by omega) (by omega) (by omega) (by omega)), ?_, ?_⟩
      · unfold LTp
        rw [fu_s, iu_s, fu_n (show ¬ X + 1 = Mo by omega), fu_n (show ¬ X + 1 = Mo + 1 by omega), fu_n (show ¬ X + 2 = Mo by omega), fu_n (show ¬ X + 2 = Mo + 1 by omega), fu_n (show ¬ Mo + 1 = Mo by omega), fu_s, feS_l]
        refine ⟨by omega, rfl, fun j hj => ?_, f3⟩
        rw [show X + 2 = X + 1 + 1 from rfl, feS_b (by omega)]
        by_cases g : σ (X + 1) 1 ≤ j
        · rw [if_pos g]
          have := f1 (j - σ (X + 1) 1) (by omega)
          rw [show σ (X + 1) 1 + (j - σ (X + 1) 1) = j by omega] at this
          exact this.symm
        · rw [if_neg g, f2 j (by omega)]
          exact h6 j (by omega)
      · unfold LWy
        rw [o (X + 3) (by omega) (by omega) (by omega) (by omega), o (X + 4) (by omega) (by omega) (by omega) (by omega), o (Mo + 22) (by omega) (by omega) (by omega) (by omega), fu_s, iu_n (by omega)]
        exact h8
    · omega
  · refine ⟨h1.1, h4, fun z => absurd z hn, fun _ => H (-1) σ τ (fun _ _ => rfl) (fun k2 hk2 => ⟨h1.2.1, by rw [h5]; exact h4, h7, fun z => ?_, fun _ => hk2 σ (fun _ _ => rfl) h⟩)⟩
    rw [h5] at z
    omega
theorem OB.mr {σ σ2 : Nat → Int → Int} {m : Nat} {p q : Int} {U V : Int → Int} {len lem : Int} {st su : Nat → Int → Int} (h : OB σ σ2 m p) (hp : 0 ≤ p ∧ p < 3) (hq : ¬ q = p) (g : MR σ m q U len st) (gp : MR σ2 m p V lem su) (hh : 0 ≤ st 0 4 ∧ st 0 4 ≤ 8000) (ht : st 0 7 ≤ 600) (hr : st 0 9 ≤ 100) : MR σ2 m q U len st := by
  obtain ⟨o0, o1, o2, o3, k2, k3, k4, k5, k6, k7, k8, k9, k10, k11, k12, k13, k14, k15, k16, k17, k26⟩ := h
  obtain ⟨⟨b1, b2, b3, b4, b5, b6, b7⟩, hl3, ⟨m4, m5, m6⟩, ⟨m7, m8, m9⟩, m12, ⟨m14, m13⟩, m15, ⟨m17, m16⟩, m26⟩ := g
  refine ⟨⟨b1, b2, fun i hi => ?_, fun k hk => ?_, b5, b6, gp.1.2.2.2.2.2.2⟩, ?_, ⟨?_, ?_, ?_⟩, ⟨?_, ?_, fun i hi => ⟨?_, ?_⟩⟩, ?_, ⟨?_, fun i hi => ?_⟩, ?_, ⟨?_, fun i hi => ?_⟩, fun x hx => ?_⟩
  · rw [k2 _ (by omega)]; exact b3 i hi
  · rw [k11 _ (by omega)]; exact b4 k hk
  · rw [k3 _ (by omega)]; exact hl3
  · rw [k4 _ (by omega)]; exact m4
  · rw [k5 _ (by omega)]; exact m5
  · rw [k6 _ (by omega)]; exact m6
  · rw [k7 _ (by omega)]; exact m7
  · rw [k8 _ (by omega)]; exact m8
  · rw [k9 _ (by omega)]; exact (m9 i hi).1
  · rw [k10 _ (by omega)]; exact (m9 i hi).2
  · rw [k12 _ (by omega)]; exact m12
  · rw [k14 _ (by omega)]; exact m14
  · rw [k13 _ (by omega)]; exact m13 i hi
  · rw [k15 _ (by omega)]; exact m15
  · rw [k17 _ (by omega)]; exact m17
  · rw [k16 _ (by omega)]; exact m16 i hi
  · rw [k26 _ (by omega)]; exact m26 x hx
theorem pr_read {X Mo sz sl : Nat} {lay : Nat → Nat × Int} {ρ : Nat → Int → Nat} {σ : Nat → Int → Int} {τ : Nat → Int → Int64} {p : Int} (h : LI X Mo lay ρ σ τ) (k : Option AV → Mm → Prop) (H : ∀ (v : Int) (σ1 : Nat → Int → Int) (τ1 : Nat → Int → Int64), (∀ x, x < X → σ1 x = σ x) → (∀ k2 : Option AV → Mm → Prop, (∀ σ2 : Nat → Int → Int, (∀ x, x < X → σ2 x = σ x) → LI X Mo lay ρ σ2 τ1 → k2 (some (vI v)) (sz, sl, lay, ρ, σ2, τ1)) → TF_Model_read Mo p sz sl lay ρ σ1 τ1 k2) → k (some (vI v)) (sz, sl, lay, ρ, σ1, τ1)) : TF_PR_read X p sz sl lay ρ σ τ k := by
  obtain ⟨h1, h2, h3, ⟨h4, h5, h6, h7⟩, h8⟩ := (show LI X Mo lay ρ σ τ from h)
  have hMo := h1.2.2
  have kb : ∀ q : Int, 0 ≤ q ∧ q < 3 → ∀ y, 0 ≤ σ (X + 6 + 44 * q.toNat + 1 + 3) y ∧ σ (X + 6 + 44 * q.toNat + 1 + 3) y ≤ 1000 := fun q hq y => by
    obtain ⟨U, len, st, g1, g2, g3⟩ := h3 q hq
    exact g2.1.2.1.1.2 y
  by_cases hp : 0 ≤ p ∧ p < 3
  · refine ⟨h1.1, h4, h2.1, h2.2, kb, fun _ σ1 τ1 m f1 f2 f3 f4 => ?_, fun z => absurd hp z⟩
    refine H _ _ τ1 (fun x hx => by rw [fu_n (by omega)]; exact f1 x (by omega)) (fun k2 hk2 => ?_)
    have s : ∀ x, ¬ x = X + 1 → (x < X + 6 + 44 * p.toNat ∨ X + 6 + 44 * p.toNat + 43 < x) → fu σ1 (X + 1) (iu (σ1 (X + 1)) 1 0) x = σ x := fun x a b => by rw [fu_n a]; exact f1 x b
    have eU : tU (fu σ1 (X + 1) (iu (σ1 (X + 1)) 1 0)) Mo = tU σ (X + 1) := by
      funext i
      unfold tU
      rw [s Mo (by omega) (by omega), s (Mo + 1) (by omega) (by omega), h5]
      by_cases g : 0 ≤ i ∧ i < σ (X + 1) 1
      · rw [if_pos g, if_pos g, ← h6 i g]
      · rw [if_neg g, if_neg g]
    have eL : fu σ1 (X + 1) (iu (σ1 (X + 1)) 1 0) Mo 1 = σ (X + 1) 1 := by rw [s Mo (by omega) (by omega)]; exact h5
    obtain ⟨U0, len0, st0', g1, g2, g3⟩ := h3 p hp
    unfold TF_Model_read
    rw [eU, eL, s (Mo + 1) (by omega) (by omega)]
    refine ⟨h1.2.1, fun _ => ⟨U0, len0, st0', g1, g3.cg (fun j _ _ => s _ (by omega) (by omega)) (s _ (by omega) (by omega)), h4, h7, fun σ2 n ob z0 zn mr => ?_⟩, fun z => absurd hp z⟩
    have ei := itS_u f3 zn
    rw [← ei] at mr ⊢
    have lo : ∀ x, x < Mo → σ2 x = fu σ1 (X + 1) (iu (σ1 (X + 1)) 1 0) x := fun x hx => ob.1 x (Or.inl hx)
    refine hk2 σ2 (fun x hx => by rw [lo x (by omega), s x (by omega) (by omega)]) ⟨h1, ⟨h2.1.lw h2.2 (fun x hx => by rw [lo x (by omega), s x (by omega) (by omega)]), h2.2⟩, fun q hq => ?_, ?_, ?_⟩
    · by_cases e : q = p
      · rw [e]
        exact ⟨_, _, _, SW.itSW (tU_R σ (X + 1)) h4 m, f4.cg (fun j hj => by rw [lo _ (by omega), fu_n (by omega)]) rfl, mr⟩
      · obtain ⟨U, len, st, y1, y2, y3⟩ := h3 q hq
        refine ⟨U, len, st, y1, y2.cg (fun j hj => by rw [lo _ (by omega), s _ (by omega) (by omega)]) (f2 _ (by omega)), ?_⟩
        obtain ⟨w0, w1, w2, w3, w4, w5, w6, w7, w8, w9, w10, w11, w12, w13, w14⟩ := (show SW U len st from y1)
        exact ob.mr hp e (y3.cg (fun j _ _ => s _ (by omega) (by omega)) (s _ (by omega) (by omega))) mr (by omega) w9.2 w11.2
    · unfold LTp
      rw [lo (X + 1) (by omega), lo (X + 2) (by omega), fu_s, iu_s, z0, ob.2.2.1, s (Mo + 1) (by omega) (by omega)]
      exact ⟨by omega, rfl, fun j hj => by omega, h7⟩
    · unfold LWy
      rw [lo (X + 3) (by omega), lo (X + 4) (by omega), s (X + 3) (by omega) (by omega), s (X + 4) (by omega) (by omega), ob.2.1 23 (by omega), ob.2.2.2.1, s Mo (by omega) (by omega), s (Mo + 22) (by omega) (by omega)]
      exact h8
  · exact ⟨h1.1, h4, h2.1, h2.2, kb, fun z => absurd z hp, fun _ => H (-1) σ τ (fun _ _ => rfl) (fun k2 hk2 => ⟨h1.2.1, fun z => absurd z hp, fun _ => hk2 σ (fun _ _ => rfl) h⟩)⟩
theorem pr_way {X Mo sz sl : Nat} {lay : Nat → Nat × Int} {ρ : Nat → Int → Nat} {σ : Nat → Int → Int} {τ : Nat → Int → Int64} {p x s : Int} (h : LI X Mo lay ρ σ τ) (k : Option AV → Mm → Prop) (H : ∀ (v : Int) (σ1 : Nat → Int → Int) (τ1 : Nat → Int → Int64), (∀ x, x < X → σ1 x = σ x) → (∀ k2 : Option AV → Mm → Prop, (∀ σ2 : Nat → Int → Int, (∀ x, x < X → σ2 x = σ x) → LI X Mo lay ρ σ2 τ1 → k2 (some (vI v)) (sz, sl, lay, ρ, σ2, τ1)) → TF_Model_way Mo p x s sz sl lay ρ σ1 τ1 k2) → k (some (vI v)) (sz, sl, lay, ρ, σ1, τ1)) : TF_PR_way X p x s sz sl lay ρ σ τ k := by
  obtain ⟨h1, h2, h3, h4, h8⟩ := (show LI X Mo lay ρ σ τ from h)
  have hMo := h1.2.2
  obtain ⟨U, len, st, hRP, hMP⟩ := h.pic p
  by_cases hp : 0 ≤ p ∧ p < 3
  rotate_left
  · exact ⟨U, len, st, hRP, fun z => absurd z hp, fun _ => H (-1) σ τ (fun _ _ => rfl) (fun k2 hk2 => ⟨h1.2.1, U, len, st, hMP, fun z => absurd z hp, fun _ => hk2 σ (fun _ _ => rfl) h⟩)⟩
  have hS := (hMP hp).1
  have inj : ∀ a b z, edg U st s z a → edg U st s z b → numA U (st 2) a = numA U (st 2) b → a = b := fun a b z ea eb e => by
    have fa := hS.fnN (edg_R hS ea)
    rw [e, hS.fnN (edg_R hS eb)] at fa
    exact fa.symm
  refine ⟨U, len, st, hRP, fun _ => ⟨fun z => ?_, fun hs hf no => ?_, fun hs hf D q wy hD σ1 f1 f2 f3 => ?_⟩, fun z => absurd hp z⟩
  · exact H (-1) σ τ (fun _ _ => rfl) (fun k2 hk2 => ⟨h1.2.1, U, len, st, hMP, fun _ => ⟨fun _ => hk2 σ (fun _ _ => rfl) h, fun hs hf => absurd ⟨hs, hf⟩ z, fun hs hf => absurd ⟨hs, hf⟩ z⟩, fun y => absurd hp y⟩)
  · refine H 0 σ τ (fun _ _ => rfl) (fun k2 hk2 => ⟨h1.2.1, U, len, st, hMP, fun _ => ⟨fun z => absurd ⟨hs, hf⟩ z, fun _ _ _ σ2 hq => hk2 σ2 (fun x hx => hq x (by omega) (by omega)) (h.qf hq), fun _ _ D q wy => absurd (wy.2.1 0 (by have := wy.1.2; omega)).1 (no _ _ wy.1.1)⟩, fun y => absurd hp y⟩)
  · have s1 : ∀ x, ¬ (X + 3 ≤ x ∧ x ≤ X + 4) → σ1 x = σ x := fun x hx => f1 x (by omega)
    have hMP1 : MdP σ1 Mo p U len st := fun hp => ⟨hS, (hMP hp).2.cg (fun j _ _ => s1 _ (by omega)) (s1 _ (by omega))⟩
    refine H D σ1 τ (fun x hx => s1 x (by omega)) (fun k2 hk2 => ⟨h1.2.1, U, len, st, hMP1, fun _ => ⟨fun z => absurd ⟨hs, hf⟩ z, fun _ _ no => absurd (wy.2.1 0 (by have := wy.1.2; omega)).1 (no _ _ wy.1.1), fun _ _ D2 q2 wy2 hD2 σ2 g1 g2 g3 => ?_⟩, fun y => absurd hp y⟩)
    obtain ⟨eD, eq⟩ := wy.u inj wy2
    subst eD
    have s2 : ∀ x, ¬ x = Mo → ¬ (Mo + 18 ≤ x ∧ x ≤ Mo + 25) → σ2 x = σ1 x := fun x a b => g1.1 x a b
    have s12 : ∀ x, ¬ x = Mo → ¬ (Mo + 18 ≤ x ∧ x ≤ Mo + 25) → ¬ (X + 3 ≤ x ∧ x ≤ X + 4) → σ2 x = σ x := fun x a b c => (s2 x a b).trans (s1 x c)
    refine hk2 σ2 (fun x hx => s12 x (by omega) (by omega) (by omega)) ⟨h1, ⟨h2.1.lw h2.2 (fun x hx => s12 x (by omega) (by omega) (by omega)), h2.2⟩, h3.cg hMo (fun x hx => ⟨s12 x (by omega) (by omega) (by omega), rfl⟩) (fun j _ _ => s12 _ (by omega) (by omega) (by omega)) (s12 _ (by omega) (by omega) (by omega)), ?_, ?_⟩
    · unfold LTp
      rw [s12 (X + 1) (by omega) (by omega) (by omega), s12 (X + 2) (by omega) (by omega) (by omega), s12 (Mo + 1) (by omega) (by omega) (by omega), g1.2 1 (by omega), s1 Mo (by omega)]
      exact h4
    · unfold LWy
      rw [s2 (X + 3) (by omega) (by omega), s2 (X + 4) (by omega) (by omega), f2, g2]
      refine ⟨by omega, rfl, fun j hj => ?_⟩
      have a := f3 j.toNat (by omega)
      have b := g3 j.toNat (by omega)
      rw [show ((j.toNat : Nat) : Int) = j by omega] at a b
      have c := eq j.toNat (by omega)
      rw [show ((j.toNat : Nat) : Int) = j by omega] at c
      rw [show X + 4 = X + 3 + 1 from rfl, a, b, c]

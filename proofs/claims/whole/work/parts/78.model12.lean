/-- an array is the same but for a picture's own stretch -/
def Bq (σ σ2 : Nat → Int → Int) (a : Nat) (w p : Int) : Prop := ∀ i, i < w * p ∨ w * p + w ≤ i → σ2 a i = σ a i
/-- nothing has changed but one picture of the reference, the tape's length and what is scratch -/
def OB (σ σ2 : Nat → Int → Int) (m : Nat) (p : Int) : Prop := (∀ a, a < m ∨ m + 26 < a → σ2 a = σ a) ∧ (∀ j, ¬ j = 1 → σ2 m j = σ m j) ∧ σ2 (m + 1) = σ (m + 1) ∧ σ2 (m + 22) = σ (m + 22) ∧ Bq σ σ2 (m + 2) 8000 p ∧ Bq σ σ2 (m + 3) 1 p ∧ Bq σ σ2 (m + 4) 1 p ∧ Bq σ σ2 (m + 5) 1 p ∧ Bq σ σ2 (m + 6) 1 p ∧ Bq σ σ2 (m + 7) 1 p ∧ Bq σ σ2 (m + 8) 1 p ∧ Bq σ σ2 (m + 9) 8000 p ∧ Bq σ σ2 (m + 10) 8000 p ∧ Bq σ σ2 (m + 11) 40 p ∧ Bq σ σ2 (m + 12) 1 p ∧ Bq σ σ2 (m + 13) 600 p ∧ Bq σ σ2 (m + 14) 1 p ∧ Bq σ σ2 (m + 15) 1 p ∧ Bq σ σ2 (m + 16) 100 p ∧ Bq σ σ2 (m + 17) 1 p ∧ Bq σ σ2 (m + 26) 65536 p
section
variable {σ σ1 : Nat → Int → Int} {m : Nat} {p : Int} {f : Int → Int}
theorem OB.rf : OB σ σ m p := ⟨fun _ _ => rfl, fun _ _ => rfl, rfl, rfl, fun _ _ => rfl, fun _ _ => rfl, fun _ _ => rfl, fun _ _ => rfl, fun _ _ => rfl, fun _ _ => rfl, fun _ _ => rfl, fun _ _ => rfl, fun _ _ => rfl, fun _ _ => rfl, fun _ _ => rfl, fun _ _ => rfl, fun _ _ => rfl, fun _ _ => rfl, fun _ _ => rfl, fun _ _ => rfl, fun _ _ => rfl⟩
theorem OB.w2 (h : OB σ σ1 m p) (hf : ∀ j, j < 8000 * p ∨ 8000 * p + 8000 ≤ j → f j = σ1 (m + 2) j) : OB σ (fu σ1 (m + 2) f) m p := by
  obtain ⟨h0, h1, h2, h3, k2, k3, k4, k5, k6, k7, k8, k9, k10, k11, k12, k13, k14, k15, k16, k17, k26⟩ := h
  refine ⟨fun a ha => by rw [fu_n (by omega)]; exact h0 a ha, fun j hj => by rw [fu_n (by omega)]; exact h1 j hj, by rw [fu_n (by omega)]; exact h2, by rw [fu_n (by omega)]; exact h3, fun j hj => by rw [fu_s, hf j hj]; exact k2 j hj, fun j hj => by rw [fu_n (by omega)]; exact k3 j hj, fun j hj => by rw [fu_n (by omega)]; exact k4 j hj, fun j hj => by rw [fu_n (by omega)]; exact k5 j hj, fun j hj => by rw [fu_n (by omega)]; exact k6 j hj, fun j hj => by rw [fu_n (by omega)]; exact k7 j hj, fun j hj => by rw [fu_n (by omega)]; exact k8 j hj, fun j hj => by rw [fu_n (by omega)]; exact k9 j hj, fun j hj => by rw [fu_n (by omega)]; exact k10 j hj, fun j hj => by rw [fu_n (by omega)]; exact k11 j hj, fun j hj => by rw [fu_n (by omega)]; exact k12 j hj, fun j hj => by rw [fu_n (by omega)]; exact k13 j hj, fun j hj => by rw [fu_n (by omega)]; exact k14 j hj, fun j hj => by rw [fu_n (by omega)]; exact k15 j hj, fun j hj => by rw [fu_n (by omega)]; exact k16 j hj, fun j hj => by rw [fu_n (by omega)]; exact k17 j hj, fun j hj => by rw [fu_n (by omega)]; exact k26 j hj⟩
theorem OB.w3 (h : OB σ σ1 m p) (hf : ∀ j, j < 1 * p ∨ 1 * p + 1 ≤ j → f j = σ1 (m + 3) j) : OB σ (fu σ1 (m + 3) f) m p := by
  obtain ⟨h0, h1, h2, h3, k2, k3, k4, k5, k6, k7, k8, k9, k10, k11, k12, k13, k14, k15, k16, k17, k26⟩ := h
  refine ⟨fun a ha => by rw [fu_n (by omega)]; exact h0 a ha, fun j hj => by rw [fu_n (by omega)]; exact h1 j hj, by rw [fu_n (by omega)]; exact h2, by rw [fu_n (by omega)]; exact h3, fun j hj => by rw [fu_n (by omega)]; exact k2 j hj, fun j hj => by rw [fu_s, hf j hj]; exact k3 j hj, fun j hj => by rw [fu_n (by omega)]; exact k4 j hj, fun j hj => by rw [fu_n (by omega)]; exact k5 j hj, fun j hj => by rw [fu_n (by omega)]; exact k6 j hj, fun j hj => by rw [fu_n (by omega)]; exact k7 j hj, fun j hj => by rw [fu_n (by omega)]; exact k8 j hj, fun j hj => by rw [fu_n (by omega)]; exact k9 j hj, fun j hj => by rw [fu_n (by omega)]; exact k10 j hj, fun j hj => by rw [fu_n (by omega)]; exact k11 j hj, fun j hj => by rw [fu_n (by omega)]; exact k12 j hj, fun j hj => by rw [fu_n (by omega)]; exact k13 j hj, fun j hj => by rw [fu_n (by omega)]; exact k14 j hj, fun j hj => by rw [fu_n (by omega)]; exact k15 j hj, fun j hj => by rw [fu_n (by omega)]; exact k16 j hj, fun j hj => by rw [fu_n (by omega)]; exact k17 j hj, fun j hj => by rw [fu_n (by omega)]; exact k26 j hj⟩
theorem OB.w4 (h : OB σ σ1 m p) (hf : ∀ j, j < 1 * p ∨ 1 * p + 1 ≤ j → f j = σ1 (m + 4) j) : OB σ (fu σ1 (m + 4) f) m p := by
  obtain ⟨h0, h1, h2, h3, k2, k3, k4, k5, k6, k7, k8, k9, k10, k11, k12, k13, k14, k15, k16, k17, k26⟩ := h
  refine ⟨fun a ha => by rw [fu_n (by omega)]; exact h0 a ha, fun j hj => by rw [fu_n (by omega)]; exact h1 j hj, by rw [fu_n (by omega)]; exact h2, by rw [fu_n (by omega)]; exact h3, fun j hj => by rw [fu_n (by omega)]; exact k2 j hj, fun j hj => by rw [fu_n (by omega)]; exact k3 j hj, fun j hj => by rw [fu_s, hf j hj]; exact k4 j hj, fun j hj => by rw [fu_n (by omega)]; exact k5 j hj, fun j hj => by rw [fu_n (by omega)]; exact k6 j hj, fun j hj => by rw [fu_n (by omega)]; exact k7 j hj, fun j hj => by rw [fu_n (by omega)]; exact k8 j hj, fun j hj => by rw [fu_n (by omega)]; exact k9 j hj, fun j hj => by rw [fu_n (by omega)]; exact k10 j hj, fun j hj => by rw [fu_n (by omega)]; exact k11 j hj, fun j hj => by rw [fu_n (by omega)]; exact k12 j hj, fun j hj => by rw [fu_n (by omega)]; exact k13 j hj, fun j hj => by rw [fu_n (by omega)]; exact k14 j hj, fun j hj => by rw [fu_n (by omega)]; exact k15 j hj, fun j hj => by rw [fu_n (by omega)]; exact k16 j hj, fun j hj => by rw [fu_n (by omega)]; exact k17 j hj, fun j hj => by rw [fu_n (by omega)]; exact k26 j hj⟩
theorem OB.w5 (h : OB σ σ1 m p) (hf : ∀ j, j < 1 * p ∨ 1 * p + 1 ≤ j → f j = σ1 (m + 5) j) : OB σ (fu σ1 (m + 5) f) m p := by
  obtain ⟨h0, h1, h2, h3, k2, k3, k4, k5, k6, k7, k8, k9, k10, k11, k12, k13, k14, k15, k16, k17, k26⟩ := h
  refine ⟨fun a ha => by rw [fu_n (by omega)]; exact h0 a ha, fun j hj => by rw [fu_n (by omega)]; exact h1 j hj, by rw [fu_n (by omega)]; exact h2, by rw [fu_n (by omega)]; exact h3, fun j hj => by rw [fu_n (by omega)]; exact k2 j hj, fun j hj => by rw [fu_n (by omega)]; exact k3 j hj, fun j hj => by rw [fu_n (by omega)]; exact k4 j hj, fun j hj => by rw [fu_s, hf j hj]; exact k5 j hj, fun j hj => by rw [fu_n (by omega)]; exact k6 j hj, fun j hj => by rw [fu_n (by omega)]; exact k7 j hj, fun j hj => by rw [fu_n (by omega)]; exact k8 j hj, fun j hj => by rw [fu_n (by omega)]; exact k9 j hj, fun j hj => by rw [fu_n (by omega)]; exact k10 j hj, fun j hj => by rw [fu_n (by omega)]; exact k11 j hj, fun j hj => by rw [fu_n (by omega)]; exact k12 j hj, fun j hj => by rw [fu_n (by omega)]; exact k13 j hj, fun j hj => by rw [fu_n (by omega)]; exact k14 j hj, fun j hj => by rw [fu_n (by omega)]; exact k15 j hj, fun j hj => by rw [fu_n (by omega)]; exact k16 j hj, fun j hj => by rw [fu_n (by omega)]; exact k17 j hj, fun j hj => by rw [fu_n (by omega)]; exact k26 j hj⟩
theorem OB.w6 (h : OB σ σ1 m p) (hf : ∀ j, j < 1 * p ∨ 1 * p + 1 ≤ j → f j = σ1 (m + 6) j) : OB σ (fu σ1 (m + 6) f) m p := by
  obtain ⟨h0, h1, h2, h3, k2, k3, k4, k5, k6, k7, k8, k9, k10, k11, k12, k13, k14, k15, k16, k17, k26⟩ := h
  refine ⟨fun a ha => by rw [fu_n (by omega)]; exact h0 a ha, fun j hj => by rw [fu_n (by omega)]; exact h1 j hj, by rw [fu_n (by omega)]; exact h2, by rw [fu_n (by omega)]; exact h3, fun j hj => by rw [fu_n (by omega)]; exact k2 j hj, fun j hj => by rw [fu_n (by omega)]; exact k3 j hj, fun j hj => by rw [fu_n (by omega)]; exact k4 j hj, fun j hj => by rw [fu_n (by omega)]; exact k5 j hj, fun j hj => by rw [fu_s, hf j hj]; exact k6 j hj, fun j hj => by rw [fu_n (by omega)]; exact k7 j hj, fun j hj => by rw [fu_n (by omega)]; exact k8 j hj, fun j hj => by rw [fu_n (by omega)]; exact k9 j hj, fun j hj => by rw [fu_n (by omega)]; exact k10 j hj, fun j hj => by rw [fu_n (by omega)]; exact k11 j hj, fun j hj => by rw [fu_n (by omega)]; exact k12 j hj, fun j hj => by rw [fu_n (by omega)]; exact k13 j hj, fun j hj => by rw [fu_n (by omega)]; exact k14 j hj, fun j hj => by rw [fu_n (by omega)]; exact k15 j hj, fun j hj => by rw [fu_n (by omega)]; exact k16 j hj, fun j hj => by rw [fu_n (by omega)]; exact k17 j hj, fun j hj => by rw [fu_n (by omega)]; exact k26 j hj⟩
theorem OB.w7 (h : OB σ σ1 m p) (hf : ∀ j, j < 1 * p ∨ 1 * p + 1 ≤ j → f j = σ1 (m + 7) j) : OB σ (fu σ1 (m + 7) f) m p := by
  obtain ⟨h0, h1, h2, h3, k2, k3, k4, k5, k6, k7, k8, k9, k10, k11, k12, k13, k14, k15, k16, k17, k26⟩ := h
  refine ⟨fun a ha => by rw [fu_n (by omega)]; exact h0 a ha, fun j hj => by rw [fu_n (by omega)]; exact h1 j hj, by rw [fu_n (by omega)]; exact h2, by rw [fu_n (by omega)]; exact h3, fun j hj => by rw [fu_n (by omega)]; exact k2 j hj, fun j hj => by rw [fu_n (by omega)]; exact k3 j hj, fun j hj => by rw [fu_n (by omega)]; exact k4 j hj, fun j hj => by rw [fu_n (by omega)]; exact k5 j hj, fun j hj => by rw [fu_n (by omega)]; exact k6 j hj, fun j hj => by rw [fu_s, hf j hj]; exact k7 j hj, fun j hj => by rw [fu_n (by omega)]; exact k8 j hj, fun j hj => by rw [fu_n (by omega)]; exact k9 j hj, fun j hj => by rw [fu_n (by omega)]; exact k10 j hj, fun j hj => by rw [fu_n (by omega)]; exact k11 j hj, fun j hj => by rw [fu_n (by omega)]; exact k12 j hj, fun j hj => by rw [fu_n (by omega)]; exact k13 j hj, fun j hj => by rw [fu_n (by omega)]; exact k14 j hj, fun j hj => by rw [fu_n (by omega)]; exact k15 j hj, fun j hj => by rw [fu_n (by omega)]; exact k16 j hj, fun j hj => by rw [fu_n (by omega)]; exact k17 j hj, fun j hj => by rw [fu_n (by omega)]; exact k26 j hj⟩
theorem OB.w8 (h : OB σ σ1 m p) (hf : ∀ j, j < 1 * p ∨ 1 * p + 1 ≤ j → f j = σ1 (m + 8) j) : OB σ (fu σ1 (m + 8) f) m p := by
  obtain ⟨h0, h1, h2, h3, k2, k3, k4, k5, k6, k7, k8, k9, k10, k11, k12, k13, k14, k15, k16, k17, k26⟩ := h
  refine ⟨fun a ha => by rw [fu_n (by omega)]; exact h0 a ha, fun j hj => by rw [fu_n (by omega)]; exact h1 j hj, by rw [fu_n (by omega)]; exact h2, by rw [fu_n (by omega)]; exact h3, fun j hj => by rw [fu_n (by omega)]; exact k2 j hj, fun j hj => by rw [fu_n (by omega)]; exact k3 j hj, fun j hj => by rw [fu_n (by omega)]; exact k4 j hj, fun j hj => by rw [fu_n (by omega)]; exact k5 j hj, fun j hj => by rw [fu_n (by omega)]; exact k6 j hj, fun j hj => by rw [fu_n (by omega)]; exact k7 j hj, fun j hj => by rw [fu_s, hf j hj]; exact k8 j hj, fun j hj => by rw [fu_n (by omega)]; exact k9 j hj, fun j hj => by rw [fu_n (by omega)]; exact k10 j hj, fun j hj => by rw [fu_n (by omega)]; exact k11 j hj, fun j hj => by rw [fu_n (by omega)]; exact k12 j hj, fun j hj => by rw [fu_n (by omega)]; exact k13 j hj, fun j hj => by rw [fu_n (by omega)]; exact k14 j hj, fun j hj => by rw [fu_n (by omega)]; exact k15 j hj, fun j hj => by rw [fu_n (by omega)]; exact k16 j hj, fun j hj => by rw [fu_n (by omega)]; exact k17 j hj, fun j hj => by rw [fu_n (by omega)]; exact k26 j hj⟩
theorem OB.w9 (h : OB σ σ1 m p) (hf : ∀ j, j < 8000 * p ∨ 8000 * p + 8000 ≤ j → f j = σ1 (m + 9) j) : OB σ (fu σ1 (m + 9) f) m p := by
  obtain ⟨h0, h1, h2, h3, k2, k3, k4, k5, k6, k7, k8, k9, k10, k11, k12, k13, k14, k15, k16, k17, k26⟩ := h
  refine ⟨fun a ha => by rw [fu_n (by omega)]; exact h0 a ha, fun j hj => by rw [fu_n (by omega)]; exact h1 j hj, by rw [fu_n (by omega)]; exact h2, by rw [fu_n (by omega)]; exact h3, fun j hj => by rw [fu_n (by omega)]; exact k2 j hj, fun j hj => by rw [fu_n (by omega)]; exact k3 j hj, fun j hj => by rw [fu_n (by omega)]; exact k4 j hj, fun j hj => by rw [fu_n (by omega)]; exact k5 j hj, fun j hj => by rw [fu_n (by omega)]; exact k6 j hj, fun j hj => by rw [fu_n (by omega)]; exact k7 j hj, fun j hj => by rw [fu_n (by omega)]; exact k8 j hj, fun j hj => by rw [fu_s, hf j hj]; exact k9 j hj, fun j hj => by rw [fu_n (by omega)]; exact k10 j hj, fun j hj => by rw [fu_n (by omega)]; exact k11 j hj, fun j hj => by rw [fu_n (by omega)]; exact k12 j hj, fun j hj => by rw [fu_n (by omega)]; exact k13 j hj, fun j hj => by rw [fu_n (by omega)]; exact k14 j hj, fun j hj => by rw [fu_n (by omega)]; exact k15 j hj, fun j hj => by rw [fu_n (by omega)]; exact k16 j hj, fun j hj => by rw [fu_n (by omega)]; exact k17 j hj, fun j hj => by rw [fu_n (by omega)]; exact k26 j hj⟩
theorem OB.w10 (h : OB σ σ1 m p) (hf : ∀ j, j < 8000 * p ∨ 8000 * p + 8000 ≤ j → f j = σ1 (m + 10) j) : OB σ (fu σ1 (m + 10) f) m p := by
  obtain ⟨h0, h1, h2, h3, k2, k3, k4, k5, k6, k7, k8, k9, k10, k11, k12, k13, k14, k15, k16, k17, k26⟩ := h
  refine ⟨fun a ha => by rw [fu_n (by omega)]; exact h0 a ha, fun j hj => by rw [fu_n (by omega)]; exact h1 j hj, by rw [fu_n (by omega)]; exact h2, by rw [fu_n (by omega)]; exact h3, fun j hj => by rw [fu_n (by omega)]; exact k2 j hj, fun j hj => by rw [fu_n (by omega)]; exact k3 j hj, fun j hj => by rw [fu_n (by omega)]; exact k4 j hj, fun j hj => by rw [fu_n (by omega)]; exact k5 j hj, fun j hj => by rw [fu_n (by omega)]; exact k6 j hj, fun j hj => by rw [fu_n (by omega)]; exact k7 j hj, fun j hj => by rw [fu_n (by omega)]; exact k8 j hj, fun j hj => by rw [fu_n (by omega)]; exact k9 j hj, fun j hj => by rw [fu_s, hf j hj]; exact k10 j hj, fun j hj => by rw [fu_n (by omega)]; exact k11 j hj, fun j hj => by rw [fu_n (by omega)]; exact k12 j hj, fun j hj => by rw [fu_n (by omega)]; exact k13 j hj, fun j hj => by rw [fu_n (by omega)]; exact k14 j hj, fun j hj => by rw [fu_n (by omega)]; exact k15 j hj, fun j hj => by rw [fu_n (by omega)]; exact k16 j hj, fun j hj => by rw [fu_n (by omega)]; exact k17 j hj, fun j hj => by rw [fu_n (by omega)]; exact k26 j hj⟩
theorem OB.w11 (h : OB σ σ1 m p) (hf : ∀ j, j < 40 * p ∨ 40 * p + 40 ≤ j → f j = σ1 (m + 11) j) : OB σ (fu σ1 (m + 11) f) m p := by
  obtain ⟨h0, h1, h2, h3, k2, k3, k4, k5, k6, k7, k8, k9, k10, k11, k12, k13, k14, k15, k16, k17, k26⟩ := h
  refine ⟨fun a ha => by rw [fu_n (by omega)]; exact h0 a ha, fun j hj => by rw [fu_n (by omega)]; exact h1 j hj, by rw [fu_n (by omega)]; exact h2, by rw [fu_n (by omega)]; exact h3, fun j hj => by rw [fu_n (by omega)]; exact k2 j hj, fun j hj => by rw [fu_n (by omega)]; exact k3 j hj, fun j hj => by rw [fu_n (by omega)]; exact k4 j hj, fun j hj => by rw [fu_n (by omega)]; exact k5 j hj, fun j hj => by rw [fu_n (by omega)]; exact k6 j hj, fun j hj => by rw [fu_n (by omega)]; exact k7 j hj, fun j hj => by rw [fu_n (by omega)]; exact k8 j hj, fun j hj => by rw [fu_n (by omega)]; exact k9 j hj, fun j hj => by rw [fu_n (by omega)]; exact k10 j hj, fun j hj => by rw [fu_s, hf j hj]; exact k11 j hj, fun j hj => by rw [fu_n (by omega)]; exact k12 j hj, fun j hj => by rw [fu_n (by omega)]; exact k13 j hj, fun j hj => by rw [fu_n (by omega)]; exact k14 j hj, fun j hj => by rw [fu_n (by omega)]; exact k15 j hj, fun j hj => by rw [fu_n (by omega)]; exact k16 j hj, fun j hj => by rw [fu_n (by omega)]; exact k17 j hj, fun j hj => by rw [fu_n (by omega)]; exact k26 j hj⟩
theorem OB.w12 (h : OB σ σ1 m p) (hf : ∀ j, j < 1 * p ∨ 1 * p + 1 ≤ j → f j = σ1 (m + 12) j) : OB σ (fu σ1 (m + 12) f) m p := by
  obtain ⟨h0, h1, h2, h3, k2, k3, k4, k5, k6, k7, k8, k9, k10, k11, k12, k13, k14, k15, k16, k17, k26⟩ := h
  refine ⟨fun a ha => by rw [fu_n (by omega)]; exact h0 a ha, fun j hj => by rw [fu_n (by omega)]; exact h1 j hj, by rw [fu_n (by omega)]; exact h2, by rw [fu_n (by omega)]; exact h3, fun j hj => by rw [fu_n (by omega)]; exact k2 j hj, fun j hj => by rw [fu_n (by omega)]; exact k3 j hj, fun j hj => by rw [fu_n (by omega)]; exact k4 j hj, fun j hj => by rw [fu_n (by omega)]; exact k5 j hj, fun j hj => by rw [fu_n (by omega)]; exact k6 j hj, fun j hj => by rw [fu_n (by omega)]; exact k7 j hj, fun j hj => by rw [fu_n (by omega)]; exact k8 j hj, fun j hj => by rw [fu_n (by omega)]; exact k9 j hj, fun j hj => by rw [fu_n (by omega)]; exact k10 j hj, fun j hj => by rw [fu_n (by omega)]; exact k11 j hj, fun j hj => by rw [fu_s, hf j hj]; exact k12 j hj, fun j hj => by rw [fu_n (by omega)]; exact k13 j hj, fun j hj => by rw [fu_n (by omega)]; exact k14 j hj, fun j hj => by rw [fu_n (by omega)]; exact k15 j hj, fun j hj => by rw [fu_n (by omega)]; exact k16 j hj, fun j hj => by rw [fu_n (by omega)]; exact k17 j hj, fun j hj => by rw [fu_n (by omega)]; exact k26 j hj⟩
theorem OB.w13 (h : OB σ σ1 m p) (hf : ∀ j, j < 600 * p ∨ 600 * p + 600 ≤ j → f j = σ1 (m + 13) j) : OB σ (fu σ1 (m + 13) f) m p := by
  obtain ⟨h0, h1, h2, h3, k2, k3, k4, k5, k6, k7, k8, k9, k10, k11, k12, k13, k14, k15, k16, k17, k26⟩ := h
  refine ⟨fun a ha => by rw [fu_n (by omega)]; exact h0 a ha, fun j hj => by rw [fu_n (by omega)]; exact h1 j hj, by rw [fu_n (by omega)]; exact h2, by rw [fu_n (by omega)]; exact h3, fun j hj => by rw [fu_n (by omega)]; exact k2 j hj, fun j hj => by rw [fu_n (by omega)]; exact k3 j hj, fun j hj => by rw [fu_n (by omega)]; exact k4 j hj, fun j hj => by rw [fu_n (by omega)]; exact k5 j hj, fun j hj => by rw [fu_n (by omega)]; exact k6 j hj, fun j hj => by rw [fu_n (by omega)]; exact k7 j hj, fun j hj => by rw [fu_n (by omega)]; exact k8 j hj, fun j hj => by rw [fu_n (by omega)]; exact k9 j hj, fun j hj => by rw [fu_n (by omega)]; exact k10 j hj, fun j hj => by rw [fu_n (by omega)]; exact k11 j hj, fun j hj => by rw [fu_n (by omega)]; exact k12 j hj, fun j hj => by rw [fu_s, hf j hj]; exact k13 j hj, fun j hj => by rw [fu_n (by omega)]; exact k14 j hj, fun j hj => by rw [fu_n (by omega)]; exact k15 j hj, fun j hj => by rw [fu_n (by omega)]; exact k16 j hj, fun j hj => by rw [fu_n (by omega)]; exact k17 j hj, fun j hj => by rw [fu_n (by omega)]; exact k26 j hj⟩
theorem OB.w14 (h : OB σ σ1 m p) (hf : ∀ j, j < 1 * p ∨ 1 * p + 1 ≤ j → f j = σ1 (m + 14) j) : OB σ (fu σ1 (m + 14) f) m p := by
  obtain ⟨h0, h1, h2, h3, k2, k3, k4, k5, k6, k7, k8, k9, k10, k11, k12, k13, k14, k15, k16, k17, k26⟩ := h
  refine ⟨fun a ha => by rw [fu_n (by omega)]; exact h0 a ha, fun j hj => by rw [fu_n (by omega)]; exact h1 j hj, by rw [fu_n (by omega)]; exact h2, by rw [fu_n (by omega)]; exact h3, fun j hj => by rw [fu_n (by omega)]; exact k2 j hj, fun j hj => by rw [fu_n (by omega)]; exact k3 j hj, fun j hj => by rw [fu_n (by omega)]; exact k4 j hj, fun j hj => by rw [fu_n (by omega)]; exact k5 j hj, fun j hj => by rw [fu_n (by omega)]; exact k6 j hj, fun j hj => by rw [fu_n (by omega)]; exact k7 j hj, fun j hj => by rw [fu_n (by omega)]; exact k8 j hj, fun j hj => by rw [fu_n (by omega)]; exact k9 j hj, fun j hj => by rw [fu_n (by omega)]; exact k10 j hj, fun j hj => by rw [fu_n (by omega)]; exact k11 j hj, fun j hj => by rw [fu_n (by omega)]; exact k12 j hj, fun j hj => by rw [fu_n (by omega)]; exact k13 j hj, fun j hj => by rw [fu_s, hf j hj]; exact k14 j hj, fun j hj => by rw [fu_n (by omega)]; exact k15 j hj, fun j hj => by rw [fu_n (by omega)]; exact k16 j hj, fun j hj => by rw [fu_n (by omega)]; exact k17 j hj, fun j hj => by rw [fu_n (by omega)]; exact k26 j hj⟩
theorem OB.w15 (h : OB σ σ1 m p) (hf : ∀ j, j < 1 * p ∨ 1 * p + 1 ≤ j → f j = σ1 (m + 15) j) : OB σ (fu σ1 (m + 15) f) m p := by
  obtain ⟨h0, h1, h2, h3, k2, k3, k4, k5, k6, k7, k8, k9, k10, k11, k12, k13, k14, k15, k16, k17, k26⟩ := h
  refine ⟨fun a ha => by rw [fu_n (by omega)]; exact h0 a ha, fun j hj => by rw [fu_n (by omega)]; exact h1 j hj, by rw [fu_n (by omega)]; exact h2, by rw [fu_n (by omega)]; exact h3, fun j hj => by rw [fu_n (by omega)]; exact k2 j hj, fun j hj => by rw [fu_n (by omega)]; exact k3 j hj, fun j hj => by rw [fu_n (by omega)]; exact k4 j hj, fun j hj => by rw [fu_n (by omega)]; exact k5 j hj, fun j hj => by rw [fu_n (by omega)]; exact k6 j hj, fun j hj => by rw [fu_n (by omega)]; exact k7 j hj, fun j hj => by rw [fu_n (by omega)]; exact k8 j hj, fun j hj => by rw [fu_n (by omega)]; exact k9 j hj, fun j hj => by rw [fu_n (by omega)]; exact k10 j hj, fun j hj => by rw [fu_n (by omega)]; exact k11 j hj, fun j hj => by rw [fu_n (by omega)]; exact k12 j hj, fun j hj => by rw [fu_n (by omega)]; exact k13 j hj, fun j hj => by rw [fu_n (by omega)]; exact k14 j hj, fun j hj => by rw [fu_s, hf j hj]; exact k15 j hj, fun j hj => by rw [fu_n (by omega)]; exact k16 j hj, fun j hj => by rw [fu_n (by omega)]; exact k17 j hj, fun j hj => by rw [fu_n (by omega)]; exact k26 j hj⟩
theorem OB.w16 (h : OB σ σ1 m p) (hf : ∀ j, j < 100 * p ∨ 100 * p + 100 ≤ j → f j = σ1 (m + 16) j) : OB σ (fu σ1 (m + 16) f) m p := by
  obtain ⟨h0, h1, h2, h3, k2, k3, k4, k5, k6, k7, k8, k9, k10, k11, k12, k13, k14, k15, k16, k17, k26⟩ := h
  refine ⟨fun a ha => by rw [fu_n (by omega)]; exact h0 a ha, fun j hj => by rw [fu_n (by omega)]; exact h1 j hj, by rw [fu_n (by omega)]; exact h2, by rw [fu_n (by omega)]; exact h3, fun j hj => by rw [fu_n (by omega)]; exact k2 j hj, fun j hj => by rw [fu_n (by omega)]; exact k3 j hj, fun j hj => by rw [fu_n (by omega)]; exact k4 j hj, fun j hj => by rw [fu_n (by omega)]; exact k5 j hj, fun j hj => by rw [fu_n (by omega)]; exact k6 j hj, fun j hj => by rw [fu_n (by omega)]; exact k7 j hj, fun j hj => by rw [fu_n (by omega)]; exact k8 j hj, fun j hj => by rw [fu_n (by omega)]; exact k9 j hj, fun j hj => by rw [fu_n (by omega)]; exact k10 j hj, fun j hj => by rw [fu_n (by omega)]; exact k11 j hj, fun j hj => by rw [fu_n (by omega)]; exact k12 j hj, fun j hj => by rw [fu_n (by omega)]; exact k13 j hj, fun j hj => by rw [fu_n (by omega)]; exact k14 j hj, fun j hj => by rw [fu_n (by omega)]; exact k15 j hj, fun j hj => by rw [fu_s, hf j hj]; exact k16 j hj, fun j hj => by rw [fu_n (by omega)]; exact k17 j hj, fun j hj => by rw [fu_n (by omega)]; exact k26 j hj⟩
theorem OB.w17 (h : OB σ σ1 m p) (hf : ∀ j, j < 1 * p ∨ 1 * p + 1 ≤ j → f j = σ1 (m + 17) j) : OB σ (fu σ1 (m + 17) f) m p := by
  obtain ⟨h0, h1, h2, h3, k2, k3, k4, k5, k6, k7, k8, k9, k10, k11, k12, k13, k14, k15, k16, k17, k26⟩ := h
  refine ⟨fun a ha => by rw [fu_n (by omega)]; exact h0 a ha, fun j hj => by rw [fu_n (by omega)]; exact h1 j hj, by rw [fu_n (by omega)]; exact h2, by rw [fu_n (by omega)]; exact h3, fun j hj => by rw [fu_n (by omega)]; exact k2 j hj, fun j hj => by rw [fu_n (by omega)]; exact k3 j hj, fun j hj => by rw [fu_n (by omega)]; exact k4 j hj, fun j hj => by rw [fu_n (by omega)]; exact k5 j hj, fun j hj => by rw [fu_n (by omega)]; exact k6 j hj, fun j hj => by rw [fu_n (by omega)]; exact k7 j hj, fun j hj => by rw [fu_n (by omega)]; exact k8 j hj, fun j hj => by rw [fu_n (by omega)]; exact k9 j hj, fun j hj => by rw [fu_n (by omega)]; exact k10 j hj, fun j hj => by rw [fu_n (by omega)]; exact k11 j hj, fun j hj => by rw [fu_n (by omega)]; exact k12 j hj, fun j hj => by rw [fu_n (by omega)]; exact k13 j hj, fun j hj => by rw [fu_n (by omega)]; exact k14 j hj, fun j hj => by rw [fu_n (by omega)]; exact k15 j hj, fun j hj => by rw [fu_n (by omega)]; exact k16 j hj, fun j hj => by rw [fu_s, hf j hj]; exact k17 j hj, fun j hj => by rw [fu_n (by omega)]; exact k26 j hj⟩
theorem OB.w26 (h : OB σ σ1 m p) (hf : ∀ j, j < 65536 * p ∨ 65536 * p + 65536 ≤ j → f j = σ1 (m + 26) j) : OB σ (fu σ1 (m + 26) f) m p := by
  obtain ⟨h0, h1, h2, h3, k2, k3, k4, k5, k6, k7, k8, k9, k10, k11, k12, k13, k14, k15, k16, k17, k26⟩ := h
  refine ⟨fun a ha => by rw [fu_n (by omega)]; exact h0 a ha, fun j hj => by rw [fu_n (by omega)]; exact h1 j hj, by rw [fu_n (by omega)]; exact h2, by rw [fu_n (by omega)]; exact h3, fun j hj => by rw [fu_n (by omega)]; exact k2 j hj, fun j hj => by rw [fu_n (by omega)]; exact k3 j hj, fun j hj => by rw [fu_n (by omega)]; exact k4 j hj, fun j hj => by rw [fu_n (by omega)]; exact k5 j hj, fun j hj => by rw [fu_n (by omega)]; exact k6 j hj, fun j hj => by rw [fu_n (by omega)]; exact k7 j hj, fun j hj => by rw [fu_n (by omega)]; exact k8 j hj, fun j hj => by rw [fu_n (by omega)]; exact k9 j hj, fun j hj => by rw [fu_n (by omega)]; exact k10 j hj, fun j hj => by rw [fu_n (by omega)]; exact k11 j hj, fun j hj => by rw [fu_n (by omega)]; exact k12 j hj, fun j hj => by rw [fu_n (by omega)]; exact k13 j hj, fun j hj => by rw [fu_n (by omega)]; exact k14 j hj, fun j hj => by rw [fu_n (by omega)]; exact k15 j hj, fun j hj => by rw [fu_n (by omega)]; exact k16 j hj, fun j hj => by rw [fu_n (by omega)]; exact k17 j hj, fun j hj => by rw [fu_s, hf j hj]; exact k26 j hj⟩
theorem OB.fd (h : OB σ σ1 m p) (hf : ∀ j, ¬ j = 1 → f j = σ1 m j) : OB σ (fu σ1 m f) m p := by
  obtain ⟨h0, h1, h2, h3, k2, k3, k4, k5, k6, k7, k8, k9, k10, k11, k12, k13, k14, k15, k16, k17, k26⟩ := h
  refine ⟨fun a ha => by rw [fu_n (by omega)]; exact h0 a ha, fun j hj => by rw [fu_s, hf j hj]; exact h1 j hj, by rw [fu_n (by omega)]; exact h2, by rw [fu_n (by omega)]; exact h3, fun j hj => by rw [fu_n (by omega)]; exact k2 j hj, fun j hj => by rw [fu_n (by omega)]; exact k3 j hj, fun j hj => by rw [fu_n (by omega)]; exact k4 j hj, fun j hj => by rw [fu_n (by omega)]; exact k5 j hj, fun j hj => by rw [fu_n (by omega)]; exact k6 j hj, fun j hj => by rw [fu_n (by omega)]; exact k7 j hj, fun j hj => by rw [fu_n (by omega)]; exact k8 j hj, fun j hj => by rw [fu_n (by omega)]; exact k9 j hj, fun j hj => by rw [fu_n (by omega)]; exact k10 j hj, fun j hj => by rw [fu_n (by omega)]; exact k11 j hj, fun j hj => by rw [fu_n (by omega)]; exact k12 j hj, fun j hj => by rw [fu_n (by omega)]; exact k13 j hj, fun j hj => by rw [fu_n (by omega)]; exact k14 j hj, fun j hj => by rw [fu_n (by omega)]; exact k15 j hj, fun j hj => by rw [fu_n (by omega)]; exact k16 j hj, fun j hj => by rw [fu_n (by omega)]; exact k17 j hj, fun j hj => by rw [fu_n (by omega)]; exact k26 j hj⟩
theorem OB.sc (h : OB σ σ1 m p) {n : Nat} (hn : (18 ≤ n ∧ n ≤ 21) ∨ (23 ≤ n ∧ n ≤ 25)) : OB σ (fu σ1 (m + n) f) m p := by
  obtain ⟨h0, h1, h2, h3, k2, k3, k4, k5, k6, k7, k8, k9, k10, k11, k12, k13, k14, k15, k16, k17, k26⟩ := h
  refine ⟨fun a ha => by rw [fu_n (by omega)]; exact h0 a ha, fun j hj => by rw [fu_n (by omega)]; exact h1 j hj, by rw [fu_n (by omega)]; exact h2, by rw [fu_n (by omega)]; exact h3, fun j hj => by rw [fu_n (by omega)]; exact k2 j hj, fun j hj => by rw [fu_n (by omega)]; exact k3 j hj, fun j hj => by rw [fu_n (by omega)]; exact k4 j hj, fun j hj => by rw [fu_n (by omega)]; exact k5 j hj, fun j hj => by rw [fu_n (by omega)]; exact k6 j hj, fun j hj => by rw [fu_n (by omega)]; exact k7 j hj, fun j hj => by rw [fu_n (by omega)]; exact k8 j hj, fun j hj => by rw [fu_n (by omega)]; exact k9 j hj, fun j hj => by rw [fu_n (by omega)]; exact k10 j hj, fun j hj => by rw [fu_n (by omega)]; exact k11 j hj, fun j hj => by rw [fu_n (by omega)]; exact k12 j hj, fun j hj => by rw [fu_n (by omega)]; exact k13 j hj, fun j hj => by rw [fu_n (by omega)]; exact k14 j hj, fun j hj => by rw [fu_n (by omega)]; exact k15 j hj, fun j hj => by rw [fu_n (by omega)]; exact k16 j hj, fun j hj => by rw [fu_n (by omega)]; exact k17 j hj, fun j hj => by rw [fu_n (by omega)]; exact k26 j hj⟩
end
section
variable {σ : Nat → Int → Int} {o : Nat} {p q e : Int} {U : Int → Int} {len : Int} {st : Nat → Int → Int}
theorem fidx_s {f : Int → Int} {x : Int} {n : Nat} (h : ∀ i j : Int, 0 ≤ i ∧ i < j ∧ j < n + 1 → ¬ f i = f j) : fidx f x (n + 1) = if x = f n then (n : Int) else fidx f x n := by
  by_cases g : x = f n
  · rw [if_pos g]
    rcases fidx_R f x (n + 1) with z | ⟨z1, z2, z3⟩
    · exact absurd g.symm (fidx_no f x (n + 1) z n (by omega))
    · by_cases e : fidx f x (n + 1) = n
      · exact e
      · exact absurd (z3.trans g) (h _ n (by omega))
  · rw [if_neg g]
    rcases fidx_R f x (n + 1) with z | ⟨z1, z2, z3⟩
    · rcases fidx_R f x n with y | ⟨y1, y2, y3⟩
      · rw [z, y]
      · exact absurd y3 (fidx_no f x (n + 1) z _ (by omega))
    · have e : ¬ fidx f x (n + 1) = n := fun w => by rw [w] at z3; exact g z3.symm
      rcases fidx_R f x n with y | ⟨y1, y2, y3⟩
      · exact absurd z3 (fidx_no f x n y _ (by omega))
      · by_cases w : fidx f x (n + 1) < fidx f x n
        · exact absurd (z3.trans y3.symm) (h _ _ (by omega))
        · by_cases w2 : fidx f x n < fidx f x (n + 1)
          · exact absurd (y3.trans z3.symm) (h _ _ (by omega))
          · omega
theorem MR.mk (h : MR σ o p U len st) : MR (fu σ (o + 6) (iu (σ (o + 6)) p (σ (o + 6) p + 1))) o p U len (mkS st) := by
  obtain ⟨⟨b1, b2, b3, b4, b5, b6, b7⟩, hl3, ⟨m4, m5, m6⟩, ⟨m7, m8, m9⟩, m12, ⟨m14, m13⟩, m15, ⟨m17, m16⟩, m26⟩ := h
  unfold fn at m26
  unfold mkS MR MB fn
  simp only [fu_s, fu_l2, fu_am, iu_s, iu_l, Int.reduceBEq, Nat.reduceBEq]
  exact ⟨⟨b1, b2, b3, b4, b5, b6, b7⟩, hl3, ⟨m4, m5, by rw [m6]⟩, ⟨m7, m8, m9⟩, m12, ⟨m14, m13⟩, m15, ⟨m17, m16⟩, m26⟩
theorem MR.hl (h : MR σ o p U len st) (hq : st 0 0 = q) (he : nxm U len (q + 1) = e) (h4 : 0 ≤ st 0 4) : MR (fu (fu (fu (fu σ (o + 9) (iu (σ (o + 9)) (8000 * p + σ (o + 7) p) q)) (o + 10) (iu (σ (o + 10)) (8000 * p + σ (o + 7) p) (e - q))) (o + 7) (iu (σ (o + 7)) p (σ (o + 7) p + 1))) (o + 8) (iu (σ (o + 8)) p (σ (o + 8) p + (e - q)))) o p U len (hlS U len st) := by
  obtain ⟨⟨b1, b2, b3, b4, b5, b6, b7⟩, hl3, ⟨m4, m5, m6⟩, ⟨m7, m8, m9⟩, m12, ⟨m14, m13⟩, m15, ⟨m17, m16⟩, m26⟩ := h
  unfold fn at m26
  unfold hlS MR MB fn
  rw [hq, he]
  simp only [fu_s, fu_l2, fu_am, iu_s, iu_l, Int.reduceBEq, Nat.reduceBEq]
  refine ⟨⟨b1, b2, b3, b4, b5, b6, b7⟩, hl3, ⟨m4, m5, m6⟩, ⟨by rw [m7], by rw [m8], fun i hi => ?_⟩, m12, ⟨m14, m13⟩, m15, ⟨m17, m16⟩, m26⟩
  rw [m7]
  by_cases g : i = st 0 4
  · rw [g, iu_s, iu_s, iu_s, iu_s]
    exact ⟨rfl, rfl⟩
  · rw [iu_n (by omega), iu_n (by omega), iu_n (by omega), iu_n (by omega)]
    exact m9 i (by omega)
theorem MR.tK (h : MR σ o p U len st) (hS : SW U len st) (hq : st 0 0 = q) (h10 : ¬ U q = 10) (a : Acc U len st q) (e75 : U q = 75) : MR (fu (fu (fu (fu σ (o + 11) (iu (σ (o + 11)) (40 * p + U (q + 1)) q)) (o + 12) (iu (σ (o + 12)) p (σ (o + 12) p + 1))) (o + 4) (iu (σ (o + 4)) p (σ (o + 4) p + 1))) (o + 5) (iu (σ (o + 5)) p (σ (o + 5) p + (enE U st q - q)))) o p U len (tk U st q) := by
  have hW := hS.tkW (by rw [hq]; exact h10) (by rw [hq]; exact a)
  rw [hq] at hW
  obtain ⟨w0, w1, w2, w3, w4, w5, w6, w7, w8, w9, w10, w11, w12, w13, w14⟩ := hW
  obtain ⟨⟨b1, b2, b3, b4, b5, b6, b7⟩, hl3, ⟨m4, m5, m6⟩, ⟨m7, m8, m9⟩, m12, ⟨m14, m13⟩, m15, ⟨m17, m16⟩, m26⟩ := h
  have aK : AccK U len (st 1) q := by
    rcases a with ⟨e, a⟩ | ⟨e, a⟩ | ⟨e, a⟩
    · exact a
    · omega
    · omega
  have r1 := b5.1 (q + 1)
  have a2 := aK.2.1
  have w02 := w2.2
  unfold fn at m26
  unfold tk at w0 w12 w02 ⊢
  rw [if_pos e75] at w0 w12 w02 ⊢
  unfold tkK scR at w0 w12 w02 ⊢
  simp only [fu_s, fu_l2, iu_s, iu_l, Int.reduceBEq, Nat.reduceBEq] at w0 w12 w02
  unfold MR MB fn
  simp only [fu_s, fu_l2, fu_am, iu_s, iu_l, Int.reduceBEq, Nat.reduceBEq]
  refine ⟨⟨b1, b2, b3, fun k hk => ?_, w0, fun k hk hk2 => ?_, b7⟩, hl3, ⟨by rw [m4], by rw [m5, hq], m6⟩, ⟨m7, m8, m9⟩, by rw [m12], ⟨m14, m13⟩, m15, ⟨m17, m16⟩, m26⟩
  · by_cases g : k = U (q + 1)
    · rw [g, iu_s, iu_s]
    · rw [iu_n (by omega), iu_n g]
      exact b4 k hk
  · have := w12 k hk
    omega
theorem MR.tR (h : MR σ o p U len st) (hS : SW U len st) (hq : st 0 0 = q) (e65 : U q = 65) : MR (fu (fu (fu (fu σ (o + 16) (iu (σ (o + 16)) (100 * p + σ (o + 17) p) (two2 U (q + 2)))) (o + 17) (iu (σ (o + 17)) p (σ (o + 17) p + 1))) (o + 4) (iu (σ (o + 4)) p (σ (o + 4) p + 1))) (o + 5) (iu (σ (o + 5)) p (σ (o + 5) p + (enE U st q - q)))) o p U len (tk U st q) := by
  obtain ⟨⟨b1, b2, b3, b4, b5, b6, b7⟩, hl3, ⟨m4, m5, m6⟩, ⟨m7, m8, m9⟩, m12, ⟨m14, m13⟩, m15, ⟨m17, m16⟩, m26⟩ := h
  have w11 := hS.2.2.2.2.2.2.2.2.2.2.2.1
  unfold fn at m26
  unfold tk
  rw [if_neg (by omega), if_pos e65]
  unfold tkR scR MR MB fn
  simp only [fu_s, fu_l2, fu_am, iu_s, iu_l, Int.reduceBEq, Nat.reduceBEq]
  refine ⟨⟨b1, b2, b3, b4, b5, b6, b7⟩, hl3, ⟨by rw [m4], by rw [m5, hq], m6⟩, ⟨m7, m8, m9⟩, m12, ⟨m14, m13⟩, m15, ⟨by rw [m17], fun i hi => ?_⟩, m26⟩
  rw [m17]
  by_cases g : i = st 0 9
  · rw [g, iu_s, iu_s]
  · rw [iu_n (by omega), iu_n g]
    exact m16 i (by omega)
theorem MR.tT (h : MR σ o p U len st) (hS : SW U len st) (hq : st 0 0 = q) (h10 : ¬ U q = 10) (a : Acc U len st q) (e75 : ¬ U q = 75) (e65 : ¬ U q = 65) {c : Int → Int} : MR (fu (fu (fu (fu (fu (fu (fu σ (o + 23) c) (o + 15) (iu (σ (o + 15)) p (σ (o + 15) p + rz U (st 1) q))) (o + 13) (iu (σ (o + 13)) (600 * p + σ (o + 14) p) q)) (o + 14) (iu (σ (o + 14)) p (σ (o + 14) p + 1))) (o + 26) (iu (σ (o + 26)) (65536 * p + two2 U (q + 1)) (σ (o + 14) p + 1))) (o + 4) (iu (σ (o + 4)) p (σ (o + 4) p + 1))) (o + 5) (iu (σ (o + 5)) p (σ (o + 5) p + (enE U st q - q)))) o p U len (tk U st q) := by
  have hW := hS.tkW (by rw [hq]; exact h10) (by rw [hq]; exact a)
  rw [hq] at hW
  have w14 := hW.2.2.2.2.2.2.2.2.2.2.2.2.2.2
  have w9 := hS.2.2.2.2.2.2.2.2.2.1
  obtain ⟨⟨b1, b2, b3, b4, b5, b6, b7⟩, hl3, ⟨m4, m5, m6⟩, ⟨m7, m8, m9⟩, m12, ⟨m14, m13⟩, m15, ⟨m17, m16⟩, m26⟩ := h
  unfold fn at m26
  unfold tk at w14 ⊢
  rw [if_neg e75, if_neg e65] at w14 ⊢
  unfold tkT scR at w14 ⊢
  simp only [fu_s, fu_l2, iu_s, iu_l, Int.reduceBEq, Nat.reduceBEq] at w14
  unfold MR MB fn
  simp only [fu_s, fu_l2, fu_am, iu_s, iu_l, Int.reduceBEq, Nat.reduceBEq]
  refine ⟨⟨b1, b2, b3, b4, b5, b6, b7⟩, hl3, ⟨by rw [m4], by rw [m5, hq], m6⟩, ⟨m7, m8, m9⟩, m12, ⟨by rw [m14], fun i hi => ?_⟩, by rw [m15], ⟨m17, m16⟩, fun x hx => ?_⟩
  · rw [m14]
    by_cases g : i = st 0 7
    · rw [g, iu_s, iu_s]
    · rw [iu_n (by omega), iu_n g]
      exact m13 i (by omega)
  · have nn : numA U (iu (st 2) (st 0 7) q) (((st 0 7).toNat : Nat) : Int) = two2 U (q + 1) := by
      unfold numA
      rw [show (((st 0 7).toNat : Nat) : Int) = st 0 7 by omega, iu_s]
    have fs : fnd U (iu (st 2) (st 0 7) q) (st 0 7 + 1) x = if x = two2 U (q + 1) then st 0 7 else fnd U (st 2) (st 0 7) x := by
      unfold fnd
      rw [show (st 0 7 + 1).toNat = (st 0 7).toNat + 1 by omega, fidx_s (fun i j hij => w14 i j (by omega)), nn, show (((st 0 7).toNat : Nat) : Int) = st 0 7 by omega]
      congr 1
      refine fidx_c _ (fun i hi => ?_)
      unfold numA
      rw [iu_n (by omega)]
    rw [fs, m14]
    by_cases g : x = two2 U (q + 1)
    · rw [if_pos g, g, iu_s]
    · rw [if_neg g, iu_n (by omega)]
      exact m26 x hx
end

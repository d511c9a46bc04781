def dfP (U : Int → Int) (st : Nat → Int → Int) (V : Int → Int) (su : Nat → Int → Int) (w x : Int) : Prop := (0 ≤ fn U st x ∨ 0 ≤ fn V su x) ∧ relP U st V su x = w
theorem inc_cnt {g : Int → Int} {q : Int → Bool} {N : Nat} : ∀ m : Nat, (∀ r : Int, 0 ≤ r ∧ r < m → 0 ≤ g r ∧ g r < N) → (∀ r s : Int, 0 ≤ r ∧ r < s ∧ s < m → g r < g s) → cntZ (fun r => q (g r)) m = cntP (fun x => (∃ r, (0 ≤ r ∧ r < (m : Int)) ∧ g r = x) ∧ q x = true) N
  | 0, _, _ => (cntP_0 _ (fun x _ z => by obtain ⟨⟨r, hr, -⟩, -⟩ := z; omega)).symm
  | m + 1, h, i => by
    have ih := inc_cnt (q := q) m (fun r hr => h r (by omega)) (fun r s hr => i r s (by omega))
    have hm := h m (by omega)
    have ex : ∀ x, ((∃ r, (0 ≤ r ∧ r < ((m + 1 : Nat) : Int)) ∧ g r = x) ↔ ((∃ r, (0 ≤ r ∧ r < (m : Int)) ∧ g r = x) ∨ x = g m)) := by
      intro x
      constructor
      · intro ⟨r, hr, e⟩
        by_cases z : r = m
        · rw [z] at e; exact Or.inr e.symm
        · exact Or.inl ⟨r, by omega, e⟩
      · intro z
        rcases z with ⟨r, hr, e⟩ | z
        · exact ⟨r, by omega, e⟩
        · exact ⟨m, by omega, z.symm⟩
    by_cases hq : q (g m) = true
    · rw [cntZ_t (q := fun r => q (g r)) hq, ih]
      refine (cntP_in (v := g m) hm (fun x _ => ?_) (fun z => ?_)).symm
      · rw [ex]
        constructor
        · intro ⟨z1, z2⟩
          rcases z1 with z1 | z1
          · exact Or.inl ⟨z1, z2⟩
          · exact Or.inr z1
        · intro z
          rcases z with z | z
          · exact ⟨Or.inl z.1, z.2⟩
          · exact ⟨Or.inr z, by rw [z]; exact hq⟩
      · obtain ⟨⟨r, hr, e⟩, -⟩ := z
        have := i r m (by omega)
        omega
    · rw [cntZ_f (q := fun r => q (g r)) hq, ih]
      refine cntP_c (fun x _ => ?_)
      rw [ex]
      constructor
      · intro z; exact ⟨Or.inl z.1, z.2⟩
      · intro ⟨z1, z2⟩
        rcases z1 with z1 | z1
        · exact ⟨z1, z2⟩
        · rw [z1] at z2; exact absurd z2 hq
/-- up to the number at rank r -/
theorem inc_at {g : Int → Int} {q : Int → Bool} {N : Nat} {m : Nat} (h : ∀ r : Int, 0 ≤ r ∧ r < m → 0 ≤ g r ∧ g r < N) (i : ∀ r s : Int, 0 ≤ r ∧ r < s ∧ s < m → g r < g s) {r : Nat} (hr : r < m) : cntP (fun x => (∃ s, (0 ≤ s ∧ s < (m : Int)) ∧ g s = x) ∧ q x = true) (g r).toNat = cntZ (fun s => q (g s)) r := by
  have hg := h r (by omega)
  rw [inc_cnt (N := (g r).toNat) r (fun s hs => by have := i s r (by omega); have := h s (by omega); omega) (fun a b hab => i a b (by omega))]
  refine cntP_c (fun x hx => ?_)
  constructor
  · intro ⟨⟨s, hs, e⟩, z⟩
    refine ⟨⟨s, ⟨hs.1, ?_⟩, e⟩, z⟩
    by_cases w : s < r
    · omega
    · exfalso
      have : g r ≤ g s := by
        by_cases w2 : s = r
        · rw [w2]; omega
        · have := i r s (by omega); omega
      omega
  · intro ⟨⟨s, hs, e⟩, z⟩
    exact ⟨⟨s, by omega, e⟩, z⟩
/-- the numbers of a picture, in their order -/
theorem PT.inc {σ : Nat → Int → Int} {τ : Nat → Int → Int64} {t : Nat} {U : Int → Int} {len : Int} {st : Nat → Int → Int} (h : PTs σ τ t U st) (hS : SW U len st) : (∀ r, 0 ≤ r ∧ r < st 0 7 → (0 ≤ σ (t + 7) r ∧ σ (t + 7) r < st 0 7) ∧ 0 ≤ σ (t + 1) (σ (t + 7) r) ∧ σ (t + 1) (σ (t + 7) r) < 65536) ∧ (∀ r s, 0 ≤ r ∧ r < s ∧ s < st 0 7 → σ (t + 1) (σ (t + 7) r) < σ (t + 1) (σ (t + 7) s)) ∧ ∀ x, (∃ r, (0 ≤ r ∧ r < st 0 7) ∧ σ (t + 1) (σ (t + 7) r) = x) ↔ 0 ≤ fn U st x := by
  have hn := hS.2.2.2.2.2.2.2.2.2.1
  have b := h.2.1
  unfold ThB at b
  rw [h.1] at b
  have key : ∀ i, 0 ≤ i ∧ i < st 0 7 → σ (t + 1) i = numA U (st 2) i := fun i hi => (h.2.2.2.2.2.1 i hi).1.1
  refine ⟨fun r hr => ⟨b.1 r hr, ?_⟩, b.2.1, fun x => ?_⟩
  · rw [key _ (b.1 r hr)]
    exact two2_R hS.1.1 _
  · constructor
    · intro ⟨r, hr, e⟩
      have := h.fn1 hn.1 (i := σ (t + 7) r) (x := x) ⟨by rw [h.1]; exact b.1 r hr, e⟩
      rw [this]
      exact (b.1 r hr).1
    · intro z
      rcases fn_R (U := U) hn.1 x with e | e
      · omega
      · obtain ⟨r, hr, er⟩ := b.2.2 _ e.1
        exact ⟨r, hr, by rw [er, key _ e.1]; exact e.2⟩
theorem co_X10_620 : CallOK RX10 (.invokevirtual 155) (2, 0, 0, 0, T_Things_countOfKind) := call_V S_Things_countOfKind (by decide) (ci := 7) rfl (by decide +kernel) (by decide +kernel) (by decide +kernel) (by decide +kernel) (by decide +kernel) (by decide +kernel) T_Things_countOfKind_r
def TF_PR_grown (o : Nat) (p : Int) (q : Int) (x : Int) (sz sl : Nat) (lay : Nat → Nat × Int) (ρ : Nat → Int → Nat) (σ : Nat → Int → Int) (τ : Nat → Int → Int64) (k : Option AV → Mm → Prop) : Prop := ∃ (U : Int → Int) (len : Int) (st : Nat → Int → Int) (V : Int → Int) (lem : Int) (su : Nat → Int → Int), RdP lay ρ σ τ o p U len st ∧ RdP lay ρ σ τ o q V lem su ∧ (((0 ≤ p ∧ p < 3) ∧ (0 ≤ q ∧ q < 3) ∧ (0 ≤ x ∧ x < 40)) → k (some (vI (cntZ (fun i => decide (srt V (su 2 i) = 0 ∧ kdv V (su 2 i) = x)) (su 0 7).toNat - cntZ (fun i => decide (srt U (st 2 i) = 0 ∧ kdv U (st 2 i) = x)) (st 0 7).toNat))) (sz, sl, lay, ρ, σ, τ)) ∧ (¬ ((0 ≤ p ∧ p < 3) ∧ (0 ≤ q ∧ q < 3) ∧ (0 ≤ x ∧ x < 40)) → k (some (vI (-100000))) (sz, sl, lay, ρ, σ, τ))
def T_PR_grown : Tr := mkT 10 fun o as M k => pI as fun p as => pI as fun q as => pI as fun x as => as = [] ∧ TF_PR_grown o p q x M.1 M.2.1 M.2.2.1 M.2.2.2.1 M.2.2.2.2.1 M.2.2.2.2.2 k
theorem T_PR_grown_e {o : Nat} {p : Int} {q : Int} {x : Int} {sz sl : Nat} {lay : Nat → Nat × Int} {ρ : Nat → Int → Nat} {σ : Nat → Int → Int} {τ : Nat → Int → Int64} {k : Option AV → Mm → Prop} : T_PR_grown [vR o, vI p, vI q, vI x] (sz, sl, lay, ρ, σ, τ) k = (lay o = (20, 0) ∧ TF_PR_grown o p q x sz sl lay ρ σ τ k) := by simp [T_PR_grown, mkT_e, pI_e, pR_e, pL_e]
theorem T_PR_grown_r (as : List AV) (M : Mm) (k : Option AV → Mm → Prop) (h : T_PR_grown as M k) : ∃ b As, as = vR b :: As ∧ M.2.2.1 b = (10 + 10, 0) := by
  obtain ⟨b, As, h1, h2, -⟩ := mkT_r h
  exact ⟨b, As, h1, h2⟩
def tb_PR_grown : List (Nat × Option (List Nat) × Instr × List Nat) := [(0, none, .aload_n 0, []), (1, none, .iload_n 1, []), (2, none, .invokevirtual 45, []), (5, none, .astore 4, []), (7, none, .aload_n 0, []), (8, none, .iload_n 2, []), (9, none, .invokevirtual 45, []), (12, none, .astore 5, []), (14, none, .aload 4, []), (16, none, .ifnull 18, [34]), (19, none, .aload 5, []), (21, none, .ifnull 13, [34]), (24, none, .iload_n 3, []), (25, none, .ifCond .lt 9, [34]), (28, none, .iload_n 3, []), (29, none, .bipush 40, []), (31, none, .if_icmp .lt 6, [37]), (34, none, .ldc 154, []), (36, none, .ireturn, []), (37, none, .aload 5, []), (39, none, .getfield 71, []), (42, none, .iload_n 3, []), (43, none, .invokevirtual 155, []), (46, none, .aload 4, []), (48, none, .getfield 71, []), (51, none, .iload_n 3, []), (52, none, .invokevirtual 155, []), (55, none, .isub, []), (56, none, .ireturn, [])]
def P_PR_grown : Nat → Option (List Nat) × Instr × List Nat := plk tb_PR_grown
theorem r_PR_grown_0 : P_PR_grown 0 = (none, .aload_n 0, []) := by decide +kernel
theorem r_PR_grown_1 : P_PR_grown 1 = (none, .iload_n 1, []) := by decide +kernel
theorem r_PR_grown_2 : P_PR_grown 2 = (none, .invokevirtual 45, []) := by decide +kernel
theorem r_PR_grown_5 : P_PR_grown 5 = (none, .astore 4, []) := by decide +kernel
theorem r_PR_grown_7 : P_PR_grown 7 = (none, .aload_n 0, []) := by decide +kernel
theorem r_PR_grown_8 : P_PR_grown 8 = (none, .iload_n 2, []) := by decide +kernel
theorem r_PR_grown_9 : P_PR_grown 9 = (none, .invokevirtual 45, []) := by decide +kernel
theorem r_PR_grown_12 : P_PR_grown 12 = (none, .astore 5, []) := by decide +kernel
theorem r_PR_grown_14 : P_PR_grown 14 = (none, .aload 4, []) := by decide +kernel
theorem r_PR_grown_16 : P_PR_grown 16 = (none, .ifnull 18, [34]) := by decide +kernel
theorem r_PR_grown_19 : P_PR_grown 19 = (none, .aload 5, []) := by decide +kernel
theorem r_PR_grown_21 : P_PR_grown 21 = (none, .ifnull 13, [34]) := by decide +kernel
theorem r_PR_grown_24 : P_PR_grown 24 = (none, .iload_n 3, []) := by decide +kernel
theorem r_PR_grown_25 : P_PR_grown 25 = (none, .ifCond .lt 9, [34]) := by decide +kernel
theorem r_PR_grown_28 : P_PR_grown 28 = (none, .iload_n 3, []) := by decide +kernel
theorem r_PR_grown_29 : P_PR_grown 29 = (none, .bipush 40, []) := by decide +kernel
theorem r_PR_grown_31 : P_PR_grown 31 = (none, .if_icmp .lt 6, [37]) := by decide +kernel
theorem r_PR_grown_34 : P_PR_grown 34 = (none, .ldc 154, []) := by decide +kernel
theorem r_PR_grown_36 : P_PR_grown 36 = (none, .ireturn, []) := by decide +kernel
theorem r_PR_grown_37 : P_PR_grown 37 = (none, .aload 5, []) := by decide +kernel
theorem r_PR_grown_39 : P_PR_grown 39 = (none, .getfield 71, []) := by decide +kernel
theorem r_PR_grown_42 : P_PR_grown 42 = (none, .iload_n 3, []) := by decide +kernel
theorem r_PR_grown_43 : P_PR_grown 43 = (none, .invokevirtual 155, []) := by decide +kernel
theorem r_PR_grown_46 : P_PR_grown 46 = (none, .aload 4, []) := by decide +kernel
theorem r_PR_grown_48 : P_PR_grown 48 = (none, .getfield 71, []) := by decide +kernel
theorem r_PR_grown_51 : P_PR_grown 51 = (none, .iload_n 3, []) := by decide +kernel
theorem r_PR_grown_52 : P_PR_grown 52 = (none, .invokevirtual 155, []) := by decide +kernel
theorem r_PR_grown_55 : P_PR_grown 55 = (none, .isub, []) := by decide +kernel
theorem r_PR_grown_56 : P_PR_grown 56 = (none, .ireturn, []) := by decide +kernel
def E_PR_grown : List (Nat × Ent) := [(620, (2, 0, 0, 0, T_Things_countOfKind)), (180, (2, 0, 0, 0, T_PR_pictureAt))]
def X_PR_grown : Cx := (llk (0, 0, 9) ftX10, llk 99 ntX10, llk none kcX10, llk none klX10, llk dEnt E_PR_grown, 1, 0, false)
theorem xok_PR_grown : Xok RX10 X_PR_grown := xok_of ftX10_ok ntX10_ok kcX10_ok klX10_ok (E := E_PR_grown) (List.forall_mem_cons.mpr ⟨co_X10_620, List.forall_mem_cons.mpr ⟨co_X10_180, fun _ h => absurd h List.not_mem_nil⟩⟩)
theorem xf_PR_grown_71 : xfl X_PR_grown 71 = (3, 1, 3) := by decide +kernel
theorem xk_PR_grown_154 : xkc X_PR_grown 154 = some (-100000) := by decide +kernel
theorem xe_PR_grown_620 : xE X_PR_grown (4 * 155 + 0) = (2, 0, 0, 0, T_Things_countOfKind) := rfl
theorem xe_PR_grown_180 : xE X_PR_grown (4 * 45 + 0) = (2, 0, 0, 0, T_PR_pictureAt) := rfl
theorem xd_PR_grown : xd X_PR_grown = 1 := rfl
theorem xrb_PR_grown : xrb X_PR_grown = 0 := rfl
theorem xin_PR_grown : xin X_PR_grown = false := rfl
set_option maxHeartbeats 4000000 in
set_option maxRecDepth 100000 in
theorem S_PR_grown : Snd yX10_grown cX10_grown 6 (some .int) T_PR_grown 1 0 0 := by
  refine snd_of (X := X_PR_grown) (P := P_PR_grown) (tb := tb_PR_grown) (own := RX10) (by decide) rfl rfl (by decide +kernel) xok_PR_grown rfl rk0 (fun h => by first | rfl | cases h) ?_
  intro as M k has hM hT0
  obtain ⟨sz, sl, lay, ρ, σ, τ⟩ := M
  obtain ⟨o, as1, e, hlo, hT1⟩ := mkT_r hT0
  clear hT0
  subst e
  obtain ⟨p, as2, e, hT2⟩ := pI_x hT1
  clear hT1
  subst e
  obtain ⟨q, as3, e, hT3⟩ := pI_x hT2
  clear hT2
  subst e
  obtain ⟨x, as4, e, hT4⟩ := pI_x hT3
  clear hT3
  subst e
  obtain ⟨e, hT⟩ := hT4
  subst e
  replace hlo : lay o = (20, 0) := hlo
  have r_p : -2147483648 ≤ p ∧ p ≤ 2147483647 := has (vI p) (by simp)
  have r_q : -2147483648 ≤ q ∧ q ≤ 2147483647 := has (vI q) (by simp)
  have r_x : -2147483648 ≤ x ∧ x ≤ 2147483647 := has (vI x) (by simp)
  clear has
  replace hM : ∀ a i, -2147483648 ≤ σ a i ∧ σ a i ≤ 2147483647 := hM
  replace hT : TF_PR_grown o p q x sz sl lay ρ σ τ k := hT
  unfold TF_PR_grown at hT
  obtain ⟨U, len, st, V, lem, su, hRP, hRP2, h1, h0⟩ := hT
  obtain ⟨hR, hPR⟩ := (show RdP lay ρ σ τ o p U len st from hRP)
  obtain ⟨-, hPR2⟩ := (show RdP lay ρ σ τ o q V lem su from hRP2)
  have r0 : lay o = (20, 0) := hR.1
  refine ⟨Nat.le_of_ble_eq_true rfl, fun _ _ _ => False, fun _ _ _ => 0, 37, ?_, fun _ _ _ _ _ _ h => h.elim⟩
  by_cases hpq : (0 ≤ p ∧ p < 3) ∧ (0 ≤ q ∧ q < 3)
  · obtain ⟨hp, hq⟩ := hpq
    have hpE : (0 ≤ p ∧ p < 3) = True := eq_true hp
    have hqE : (0 ≤ q ∧ q < 3) = True := eq_true hq
    obtain ⟨P, eP, -, hPc, hP0⟩ := hR.pic hp
    have hPe : o + 6 + 44 * p.toNat = P := eP.symm
    obtain ⟨Q, eQ, -, hQc, hQ0⟩ := hR.pic hq
    have hQe : o + 6 + 44 * q.toNat = Q := eQ.symm
    obtain ⟨hS, hV⟩ := hPR hp
    obtain ⟨hS2, hV2⟩ := hPR2 hq
    rw [hPe] at hV
    rw [hQe] at hV2
    have hP := hPc.1
    have hQ := hQc.1
    have hTh := hPc.2.2.1
    have hTq := hQc.2.2.1
    have w9 := hS.2.2.2.2.2.2.2.2.2.1
    have y9 := hS2.2.2.2.2.2.2.2.2.2.1
    have v3 := hV.1.2.2.1
    have u3 := hV2.1.2.2.1
    have n12 := v3.1
    have m12 := u3.1
    obtain ⟨a1, a2, a3⟩ := v3.inc hS
    obtain ⟨b1, b2, b3⟩ := u3.inc hS2
    (obtain ⟨ph, pp0, pp1, pp2, pp3, pp4, pp5, pp6, pp7, pq0, pq1, pq2, pq3, pq4, pq5, pq6, pq7⟩ := (show LPicture lay ρ _ from hP); obtain ⟨gh, gp0, gp1, gp2, gp3, gp4, gp5, gp6, gp7, gq0, gq1, gq2, gq3, gq4, gq5, gq6, gq7⟩ := (show LPicture lay ρ _ from hQ); unfold wps; simp only [hpE, hPe, hqE, hQe, si_iload_n0, si_iload_n1, si_iload_n2, si_iload_n3, si_iload, si_lload_n0, si_lload_n1, si_lload_n2, si_lload_n3, si_lload, si_aload_n0, si_aload_n1, si_aload_n2, si_aload_n3, si_aload, si_istore_n0, si_istore_n1, si_istore_n2, si_istore_n3, si_istore, si_astore_n0, si_astore_n1, si_astore_n2, si_astore_n3, si_astore, si_lstore_n0, si_lstore_n1, si_lstore_n2, si_lstore_n3, si_lstore, si_iconst, si_bipush, si_sipush, si_ldc, si_ldc2_w, si_lconst0, si_lconst1, si_aconst_null, si_iinc, si_dup, si_dup2, si_iadd, si_isub, si_imul, si_idiv, si_irem, si_iand, si_ior, si_ishl, si_ishr, si_ladd, si_lmul, si_lor, si_lxor, si_lshl, si_lushr, si_lcmp, si_i2b, si_i2l, si_l2i, si_icmp_eq, si_icmp_ne, si_icmp_lt, si_icmp_ge, si_icmp_gt, si_icmp_le, si_if_eq, si_if_ne, si_if_lt, si_if_ge, si_if_gt, si_if_le, si_ifnull, si_ifnonnull, si_goto, si_tableswitch, si_lookupswitch, si_getfield, si_putfield, si_getstatic, si_iaload, si_baload, si_laload, si_aaload, si_iastore, si_bastore, si_lastore, si_aastore, si_arraylength, si_new, si_newarray, si_anewarray, si_invokevirtual, si_invokespecial, si_invokestatic, si_ireturn, si_lreturn, si_areturn, si_return_, pI_e, pL_e, pR_e, pA_r, pA_n, pN_n, pN_r, oI_e, oL_e, oA_r, oA_n, lget_e, lrm1_0, lrm2_0, lrm1_i, lrm1_r, lrm1_n, lrm1_l, lrm2_i, lrm2_r, lrm2_n, lrm2_l, popN_0, popN_s, acat_i, acat_l, acat_r, acat_n, stw_0, stw_s, psh_s, psh_n, wgf_r, wgf_i, wgf_b, wgf_n, wgf_m, wpf_i, wpf_r, wpf_b, wnew_e, callE_e, rbk_0, rbk_1, tsw_0, tsw_s, lsw_0, lsw_s, wp_s, wq_t, wq_f, oV_e, pick_0, pick_s, oZ_e, oY_e, r_PR_grown_0, r_PR_grown_1, r_PR_grown_2, r_PR_grown_5, r_PR_grown_7, r_PR_grown_8, r_PR_grown_9, r_PR_grown_12, r_PR_grown_14, r_PR_grown_16, r_PR_grown_19, r_PR_grown_21, r_PR_grown_24, r_PR_grown_25, r_PR_grown_28, r_PR_grown_29, r_PR_grown_31, r_PR_grown_34, r_PR_grown_36, r_PR_grown_37, r_PR_grown_39, r_PR_grown_42, r_PR_grown_43, r_PR_grown_46, r_PR_grown_48, r_PR_grown_51, r_PR_grown_52, r_PR_grown_55, r_PR_grown_56, xf_PR_grown_71, xk_PR_grown_154, xe_PR_grown_620, xe_PR_grown_180, xd_PR_grown, xrb_PR_grown, xin_PR_grown, T_Things_countOfKind_e, TF_Things_countOfKind, T_PR_pictureAt_e, TF_PR_pictureAt, r0, ph, pp0, pp1, pp2, pp3, pp4, pp5, pp6, pp7, pq0, pq1, pq2, pq3, pq4, pq5, pq6, pq7, gh, gp0, gp1, gp2, gp3, gp4, gp5, gp6, gp7, gq0, gq1, gq2, gq3, gq4, gq5, gq6, gq7, Nat.reduceAdd, Nat.reduceMul, Nat.reduceEqDiff, reduceIte, Int.reduceNeg, Int.reduceLE, Int.reduceLT, Int.reduceAdd, Int.reduceSub, Int.reduceToNat, true_and, and_true, inR_e, Nat.reduceLT, Nat.reduceLeDiff, reduceCtorEq, Nat.add_zero, Nat.zero_add, or_false, false_or, or_true, true_or, not_true_eq_false, not_false_eq_true, Classical.not_not, Nat.add_eq_zero_iff, and_false, false_and, Int.reduceEq, List.mem_cons, List.not_mem_nil, forall_eq_or_imp, forall_eq, false_implies, implies_true, forall_const, aargs_0, aargs_i, aargs_r, aargs_l, aargs_n, nfT_e, eq_self, and_self, Nat.le_refl, fu_s, fu_fu, iu_iu, iu_s, fu_am, fu_a0, fu_0a, iu_l, Nat.reduceBEq, Int.reduceBEq, T_objInit_e]; clear pp0 pp1 pp2 pp3 pp4 pp5 pp6 pp7 gp0 gp1 gp2 gp3 gp4 gp5 gp6 gp7)
    rw [n12, m12]
    have c1 := cntZ_R (fun i => decide (srt U (st 2 i) = 0 ∧ kdv U (st 2 i) = x)) (st 0 7).toNat
    have c2 := cntZ_R (fun i => decide (srt V (su 2 i) = 0 ∧ kdv V (su 2 i) = x)) (su 0 7).toNat
    rw [cntZ_c (q := fun i => decide (σ (Q + 8 + 2) i = 0 ∧ σ (Q + 8 + 3) i = x)) (r := fun i => decide (srt V (su 2 i) = 0 ∧ kdv V (su 2 i) = x)) (su 0 7).toNat (fun i hi => by obtain ⟨⟨-, e2, e3, -⟩, -⟩ := u3.2.2.2.2.2.1 i (by omega); rw [e2, e3]), cntZ_c (q := fun i => decide (σ (P + 8 + 2) i = 0 ∧ σ (P + 8 + 3) i = x)) (r := fun i => decide (srt U (st 2 i) = 0 ∧ kdv U (st 2 i) = x)) (st 0 7).toNat (fun i hi => by obtain ⟨⟨-, e2, e3, -⟩, -⟩ := v3.2.2.2.2.2.1 i (by omega); rw [e2, e3])]
    exact ⟨hR, hR, fun a => h0 (fun z => by omega), fun a => ⟨fun b => ⟨hTq, y9, hTh, w9, by omega, h1 ⟨hp, hq, by omega⟩⟩, fun b => h0 (fun z => by omega)⟩⟩
  · (unfold wps; simp only [si_iload_n0, si_iload_n1, si_iload_n2, si_iload_n3, si_iload, si_lload_n0, si_lload_n1, si_lload_n2, si_lload_n3, si_lload, si_aload_n0, si_aload_n1, si_aload_n2, si_aload_n3, si_aload, si_istore_n0, si_istore_n1, si_istore_n2, si_istore_n3, si_istore, si_astore_n0, si_astore_n1, si_astore_n2, si_astore_n3, si_astore, si_lstore_n0, si_lstore_n1, si_lstore_n2, si_lstore_n3, si_lstore, si_iconst, si_bipush, si_sipush, si_ldc, si_ldc2_w, si_lconst0, si_lconst1, si_aconst_null, si_iinc, si_dup, si_dup2, si_iadd, si_isub, si_imul, si_idiv, si_irem, si_iand, si_ior, si_ishl, si_ishr, si_ladd, si_lmul, si_lor, si_lxor, si_lshl, si_lushr, si_lcmp, si_i2b, si_i2l, si_l2i, si_icmp_eq, si_icmp_ne, si_icmp_lt, si_icmp_ge, si_icmp_gt, si_icmp_le, si_if_eq, si_if_ne, si_if_lt, si_if_ge, si_if_gt, si_if_le, si_ifnull, si_ifnonnull, si_goto, si_tableswitch, si_lookupswitch, si_getfield, si_putfield, si_getstatic, si_iaload, si_baload, si_laload, si_aaload, si_iastore, si_bastore, si_lastore, si_aastore, si_arraylength, si_new, si_newarray, si_anewarray, si_invokevirtual, si_invokespecial, si_invokestatic, si_ireturn, si_lreturn, si_areturn, si_return_, pI_e, pL_e, pR_e, pA_r, pA_n, pN_n, pN_r, oI_e, oL_e, oA_r, oA_n, lget_e, lrm1_0, lrm2_0, lrm1_i, lrm1_r, lrm1_n, lrm1_l, lrm2_i, lrm2_r, lrm2_n, lrm2_l, popN_0, popN_s, acat_i, acat_l, acat_r, acat_n, stw_0, stw_s, psh_s, psh_n, wgf_r, wgf_i, wgf_b, wgf_n, wgf_m, wpf_i, wpf_r, wpf_b, wnew_e, callE_e, rbk_0, rbk_1, tsw_0, tsw_s, lsw_0, lsw_s, wp_s, wq_t, wq_f, oV_e, pick_0, pick_s, oZ_e, oY_e, r_PR_grown_0, r_PR_grown_1, r_PR_grown_2, r_PR_grown_5, r_PR_grown_7, r_PR_grown_8, r_PR_grown_9, r_PR_grown_12, r_PR_grown_14, r_PR_grown_16, r_PR_grown_19, r_PR_grown_21, r_PR_grown_24, r_PR_grown_25, r_PR_grown_28, r_PR_grown_29, r_PR_grown_31, r_PR_grown_34, r_PR_grown_36, r_PR_grown_37, r_PR_grown_39, r_PR_grown_42, r_PR_grown_43, r_PR_grown_46, r_PR_grown_48, r_PR_grown_51, r_PR_grown_52, r_PR_grown_55, r_PR_grown_56, xf_PR_grown_71, xk_PR_grown_154, xe_PR_grown_620, xe_PR_grown_180, xd_PR_grown, xrb_PR_grown, xin_PR_grown, T_Things_countOfKind_e, TF_Things_countOfKind, T_PR_pictureAt_e, TF_PR_pictureAt, r0, Nat.reduceAdd, Nat.reduceMul, Nat.reduceEqDiff, reduceIte, Int.reduceNeg, Int.reduceLE, Int.reduceLT, Int.reduceAdd, Int.reduceSub, Int.reduceToNat, true_and, and_true, inR_e, Nat.reduceLT, Nat.reduceLeDiff, reduceCtorEq, Nat.add_zero, Nat.zero_add, or_false, false_or, or_true, true_or, not_true_eq_false, not_false_eq_true, Classical.not_not, Nat.add_eq_zero_iff, and_false, false_and, Int.reduceEq, List.mem_cons, List.not_mem_nil, forall_eq_or_imp, forall_eq, false_implies, implies_true, forall_const, aargs_0, aargs_i, aargs_r, aargs_l, aargs_n, nfT_e, eq_self, and_self, Nat.le_refl, fu_s, fu_fu, iu_iu, iu_s, fu_am, fu_a0, fu_0a, iu_l, Nat.reduceBEq, Int.reduceBEq, T_objInit_e])
    exact ⟨hR, fun a => ⟨hR, fun b => absurd ⟨a, b⟩ hpq, fun b => h0 (fun z => b z.2.1)⟩, fun a => ⟨hR, fun b => h0 (fun z => a z.1), fun b => h0 (fun z => a z.1)⟩⟩
theorem co_X10_646 : CallOK RX10 (.invokestatic 161) (3, 4, 0, 0, T_PR_relation) := call_S S_PR_relation (by decide) (by decide +kernel) (Or.inl (by decide +kernel)) (by decide +kernel) (by decide +kernel) (by decide +kernel)
theorem co_X10_632 : CallOK RX10 (.invokevirtual 158) (2, 2, 0, 0, T_Things_numberByRank) := call_V S_Things_numberByRank (by decide) (ci := 7) rfl (by decide +kernel) (by decide +kernel) (by decide +kernel) (by decide +kernel) (by decide +kernel) (by decide +kernel) T_Things_numberByRank_r
def TF_PR_relatedAt (a : Nat) (b : Nat) (w : Int) (r : Int) (sz sl : Nat) (lay : Nat → Nat × Int) (ρ : Nat → Int → Nat) (σ : Nat → Int → Int) (τ : Nat → Int → Int64) (k : Option AV → Mm → Prop) : Prop := ∃ (U : Int → Int) (len : Int) (st : Nat → Int → Int) (V : Int → Int) (lem : Int) (su : Nat → Int → Int) (t : Nat) (n : Int), LThings lay ρ a ∧ LThings lay ρ b ∧ PTs σ τ a U st ∧ PTs σ τ b V su ∧ SW U len st ∧ SW V lem su ∧ (w = 0 → t = b ∧ n = su 0 7) ∧ (¬ w = 0 → t = a ∧ n = st 0 7) ∧ ((0 ≤ r ∧ r < n ∧ relP U st V su (σ (t + 1) (σ (t + 7) r)) = w) → k (some (vI (σ (t + 1) (σ (t + 7) r)))) (sz, sl, lay, ρ, σ, τ)) ∧ (¬ (0 ≤ r ∧ r < n ∧ relP U st V su (σ (t + 1) (σ (t + 7) r)) = w) → k (some (vI (-1))) (sz, sl, lay, ρ, σ, τ))
def T_PR_relatedAt : Tr := fun as M k => pR as fun a as => pR as fun b as => pI as fun w as => pI as fun r as => as = [] ∧ TF_PR_relatedAt a b w r M.1 M.2.1 M.2.2.1 M.2.2.2.1 M.2.2.2.2.1 M.2.2.2.2.2 k
theorem T_PR_relatedAt_e {a : Nat} {b : Nat} {w : Int} {r : Int} {sz sl : Nat} {lay : Nat → Nat × Int} {ρ : Nat → Int → Nat} {σ : Nat → Int → Int} {τ : Nat → Int → Int64} {k : Option AV → Mm → Prop} : T_PR_relatedAt [vR a, vR b, vI w, vI r] (sz, sl, lay, ρ, σ, τ) k = TF_PR_relatedAt a b w r sz sl lay ρ σ τ k := by simp [T_PR_relatedAt, pI_e, pR_e, pL_e]
def tb_PR_relatedAt : List (Nat × Option (List Nat) × Instr × List Nat) := [(0, none, .iload_n 2, []), (1, none, .ifCond .ne 7, [8]), (4, none, .aload_n 1, []), (5, none, .goto 4, [9]), (8, none, .aload_n 0, []), (9, none, .astore 4, []), (11, none, .aload 4, []), (13, none, .iload_n 3, []), (14, none, .invokevirtual 158, []), (17, none, .istore 5, []), (19, none, .iload 5, []), (21, none, .iconst (-1), []), (22, none, .if_icmp .eq 19, [41]), (25, none, .aload_n 0, []), (26, none, .aload_n 1, []), (27, none, .iload 5, []), (29, none, .invokestatic 161, []), (32, none, .iload_n 2, []), (33, none, .if_icmp .ne 8, [41]), (36, none, .iload 5, []), (38, none, .goto 4, [42]), (41, none, .iconst (-1), []), (42, none, .ireturn, [])]
def P_PR_relatedAt : Nat → Option (List Nat) × Instr × List Nat := plk tb_PR_relatedAt
theorem r_PR_relatedAt_0 : P_PR_relatedAt 0 = (none, .iload_n 2, []) := by decide +kernel
theorem r_PR_relatedAt_1 : P_PR_relatedAt 1 = (none, .ifCond .ne 7, [8]) := by decide +kernel
theorem r_PR_relatedAt_4 : P_PR_relatedAt 4 = (none, .aload_n 1, []) := by decide +kernel
theorem r_PR_relatedAt_5 : P_PR_relatedAt 5 = (none, .goto 4, [9]) := by decide +kernel
theorem r_PR_relatedAt_8 : P_PR_relatedAt 8 = (none, .aload_n 0, []) := by decide +kernel
theorem r_PR_relatedAt_9 : P_PR_relatedAt 9 = (none, .astore 4, []) := by decide +kernel
theorem r_PR_relatedAt_11 : P_PR_relatedAt 11 = (none, .aload 4, []) := by decide +kernel
theorem r_PR_relatedAt_13 : P_PR_relatedAt 13 = (none, .iload_n 3, []) := by decide +kernel
theorem r_PR_relatedAt_14 : P_PR_relatedAt 14 = (none, .invokevirtual 158, []) := by decide +kernel
theorem r_PR_relatedAt_17 : P_PR_relatedAt 17 = (none, .istore 5, []) := by decide +kernel
theorem r_PR_relatedAt_19 : P_PR_relatedAt 19 = (none, .iload 5, []) := by decide +kernel
theorem r_PR_relatedAt_21 : P_PR_relatedAt 21 = (none, .iconst (-1), []) := by decide +kernel
theorem r_PR_relatedAt_22 : P_PR_relatedAt 22 = (none, .if_icmp .eq 19, [41]) := by decide +kernel
theorem r_PR_relatedAt_25 : P_PR_relatedAt 25 = (none, .aload_n 0, []) := by decide +kernel
theorem r_PR_relatedAt_26 : P_PR_relatedAt 26 = (none, .aload_n 1, []) := by decide +kernel
theorem r_PR_relatedAt_27 : P_PR_relatedAt 27 = (none, .iload 5, []) := by decide +kernel
theorem r_PR_relatedAt_29 : P_PR_relatedAt 29 = (none, .invokestatic 161, []) := by decide +kernel
theorem r_PR_relatedAt_32 : P_PR_relatedAt 32 = (none, .iload_n 2, []) := by decide +kernel
theorem r_PR_relatedAt_33 : P_PR_relatedAt 33 = (none, .if_icmp .ne 8, [41]) := by decide +kernel
theorem r_PR_relatedAt_36 : P_PR_relatedAt 36 = (none, .iload 5, []) := by decide +kernel
theorem r_PR_relatedAt_38 : P_PR_relatedAt 38 = (none, .goto 4, [42]) := by decide +kernel
theorem r_PR_relatedAt_41 : P_PR_relatedAt 41 = (none, .iconst (-1), []) := by decide +kernel
theorem r_PR_relatedAt_42 : P_PR_relatedAt 42 = (none, .ireturn, []) := by decide +kernel
def E_PR_relatedAt : List (Nat × Ent) := [(646, (3, 4, 0, 0, T_PR_relation)), (632, (2, 2, 0, 0, T_Things_numberByRank))]
def X_PR_relatedAt : Cx := (llk (0, 0, 9) ftX10, llk 99 ntX10, llk none kcX10, llk none klX10, llk dEnt E_PR_relatedAt, 5, 0, false)
theorem xok_PR_relatedAt : Xok RX10 X_PR_relatedAt := xok_of ftX10_ok ntX10_ok kcX10_ok klX10_ok (E := E_PR_relatedAt) (List.forall_mem_cons.mpr ⟨co_X10_646, List.forall_mem_cons.mpr ⟨co_X10_632, fun _ h => absurd h List.not_mem_nil⟩⟩)
theorem xe_PR_relatedAt_646 : xE X_PR_relatedAt (4 * 161 + 2) = (3, 4, 0, 0, T_PR_relation) := rfl
theorem xe_PR_relatedAt_632 : xE X_PR_relatedAt (4 * 158 + 0) = (2, 2, 0, 0, T_Things_numberByRank) := rfl
theorem xd_PR_relatedAt : xd X_PR_relatedAt = 5 := rfl
theorem xrb_PR_relatedAt : xrb X_PR_relatedAt = 0 := rfl
theorem xin_PR_relatedAt : xin X_PR_relatedAt = false := rfl
set_option maxHeartbeats 4000000 in
set_option maxRecDepth 100000 in
theorem S_PR_relatedAt : Snd yX10_relatedAt cX10_relatedAt 6 (some .int) T_PR_relatedAt 5 0 0 := by
  refine snd_of (X := X_PR_relatedAt) (P := P_PR_relatedAt) (tb := tb_PR_relatedAt) (own := RX10) (by decide) rfl rfl (by decide +kernel) xok_PR_relatedAt rfl rk0 (fun h => by first | rfl | cases h) ?_
  intro as M k has hM hT0
  obtain ⟨sz, sl, lay, ρ, σ, τ⟩ := M
  obtain ⟨a, as1, e, hT1⟩ := pR_x hT0
  clear hT0
  subst e
  obtain ⟨b, as2, e, hT2⟩ := pR_x hT1
  clear hT1
  subst e
  obtain ⟨w, as3, e, hT3⟩ := pI_x hT2
  clear hT2
  subst e
  obtain ⟨r, as4, e, hT4⟩ := pI_x hT3
  clear hT3
  subst e
  obtain ⟨e, hT⟩ := hT4
  subst e
  have r_w : -2147483648 ≤ w ∧ w ≤ 2147483647 := has (vI w) (by simp)
  have r_r : -2147483648 ≤ r ∧ r ≤ 2147483647 := has (vI r) (by simp)
  clear has
  replace hM : ∀ a i, -2147483648 ≤ σ a i ∧ σ a i ≤ 2147483647 := hM
  replace hT : TF_PR_relatedAt a b w r sz sl lay ρ σ τ k := hT
  unfold TF_PR_relatedAt at hT
  obtain ⟨U, len, st, V, lem, su, t, n, hA, hB, v3, u3, hS, hS2, hn1, hn0, h1, h0⟩ := hT
  have w9 := hS.2.2.2.2.2.2.2.2.2.1
  have y9 := hS2.2.2.2.2.2.2.2.2.2.1
  have n12 := v3.1
  have m12 := u3.1
  obtain ⟨a1, a2, a3⟩ := v3.inc hS
  obtain ⟨b1, b2, b3⟩ := u3.inc hS2
  refine ⟨Nat.le_of_ble_eq_true rfl, fun _ _ _ => False, fun _ _ _ => 0, 31, ?_, fun _ _ _ _ _ _ h => h.elim⟩
  obtain ⟨lh, lp0, lp1, lp2, lp3, lp4, lp5, lp6, lp7, lp8, lp9, lp10, lp11, lq0, lq1, lq2, lq3, lq4, lq5, lq6, lq7, lq8, lq9, lq10, lq11⟩ := (show LThings lay ρ _ from hA)
  obtain ⟨mh, mp0, mp1, mp2, mp3, mp4, mp5, mp6, mp7, mp8, mp9, mp10, mp11, mq0, mq1, mq2, mq3, mq4, mq5, mq6, mq7, mq8, mq9, mq10, mq11⟩ := (show LThings lay ρ _ from hB)
  unfold wps
  simp only [si_iload_n0, si_iload_n1, si_iload_n2, si_iload_n3, si_iload, si_lload_n0, si_lload_n1, si_lload_n2, si_lload_n3, si_lload, si_aload_n0, si_aload_n1, si_aload_n2, si_aload_n3, si_aload, si_istore_n0, si_istore_n1, si_istore_n2, si_istore_n3, si_istore, si_astore_n0, si_astore_n1, si_astore_n2, si_astore_n3, si_astore, si_lstore_n0, si_lstore_n1, si_lstore_n2, si_lstore_n3, si_lstore, si_iconst, si_bipush, si_sipush, si_ldc, si_ldc2_w, si_lconst0, si_lconst1, si_aconst_null, si_iinc, si_dup, si_dup2, si_iadd, si_isub, si_imul, si_idiv, si_irem, si_iand, si_ior, si_ishl, si_ishr, si_ladd, si_lmul, si_lor, si_lxor, si_lshl, si_lushr, si_lcmp, si_i2b, si_i2l, si_l2i, si_icmp_eq, si_icmp_ne, si_icmp_lt, si_icmp_ge, si_icmp_gt, si_icmp_le, si_if_eq, si_if_ne, si_if_lt, si_if_ge, si_if_gt, si_if_le, si_ifnull, si_ifnonnull, si_goto, si_tableswitch, si_lookupswitch, si_getfield, si_putfield, si_getstatic, si_iaload, si_baload, si_laload, si_aaload, si_iastore, si_bastore, si_lastore, si_aastore, si_arraylength, si_new, si_newarray, si_anewarray, si_invokevirtual, si_invokespecial, si_invokestatic, si_ireturn, si_lreturn, si_areturn, si_return_, pI_e, pL_e, pR_e, pA_r, pA_n, pN_n, pN_r, oI_e, oL_e, oA_r, oA_n, lget_e, lrm1_0, lrm2_0, lrm1_i, lrm1_r, lrm1_n, lrm1_l, lrm2_i, lrm2_r, lrm2_n, lrm2_l, popN_0, popN_s, acat_i, acat_l, acat_r, acat_n, stw_0, stw_s, psh_s, psh_n, wgf_r, wgf_i, wgf_b, wgf_n, wgf_m, wpf_i, wpf_r, wpf_b, wnew_e, callE_e, rbk_0, rbk_1, tsw_0, tsw_s, lsw_0, lsw_s, wp_s, wq_t, wq_f, oV_e, pick_0, pick_s, oZ_e, oY_e, r_PR_relatedAt_0, r_PR_relatedAt_1, r_PR_relatedAt_4, r_PR_relatedAt_5, r_PR_relatedAt_8, r_PR_relatedAt_9, r_PR_relatedAt_11, r_PR_relatedAt_13, r_PR_relatedAt_14, r_PR_relatedAt_17, r_PR_relatedAt_19, r_PR_relatedAt_21, r_PR_relatedAt_22, r_PR_relatedAt_25, r_PR_relatedAt_26, r_PR_relatedAt_27, r_PR_relatedAt_29, r_PR_relatedAt_32, r_PR_relatedAt_33, r_PR_relatedAt_36, r_PR_relatedAt_38, r_PR_relatedAt_41, r_PR_relatedAt_42, xe_PR_relatedAt_646, xe_PR_relatedAt_632, xd_PR_relatedAt, xrb_PR_relatedAt, xin_PR_relatedAt, T_PR_relation_e, TF_PR_relation, T_Things_numberByRank_e, TF_Things_numberByRank, lh, lp0, lp1, lp2, lp3, lp4, lp5, lp6, lp7, lp8, lp9, lp10, lp11, lq0, lq1, lq2, lq3, lq4, lq5, lq6, lq7, lq8, lq9, lq10, lq11, mh, mp0, mp1, mp2, mp3, mp4, mp5, mp6, mp7, mp8, mp9, mp10, mp11, mq0, mq1, mq2, mq3, mq4, mq5, mq6, mq7, mq8, mq9, mq10, mq11, Nat.reduceAdd, Nat.reduceMul, Nat.reduceEqDiff, reduceIte, Int.reduceNeg, Int.reduceLE, Int.reduceLT, Int.reduceAdd, Int.reduceSub, Int.reduceToNat, true_and, and_true, inR_e, Nat.reduceLT, Nat.reduceLeDiff, reduceCtorEq, Nat.add_zero, Nat.zero_add, or_false, false_or, or_true, true_or, not_true_eq_false, not_false_eq_true, Classical.not_not, Nat.add_eq_zero_iff, and_false, false_and, Int.reduceEq, List.mem_cons, List.not_mem_nil, forall_eq_or_imp, forall_eq, false_implies, implies_true, forall_const, aargs_0, aargs_i, aargs_r, aargs_l, aargs_n, nfT_e, eq_self, and_self, Nat.le_refl, fu_s, fu_fu, iu_iu, iu_s, fu_am, fu_a0, fu_0a, iu_l, Nat.reduceBEq, Int.reduceBEq, T_objInit_e]
  clear lp0 lp1 lp2 lp3 lp4 lp5 lp6 lp7 lp8 lp9 lp10 lp11 mp0 mp1 mp2 mp3 mp4 mp5 mp6 mp7 mp8 mp9 mp10 mp11
  refine ⟨fun hw => ?_, fun hw => ?_⟩
  · obtain ⟨et, en⟩ := hn0 hw
    subst et
    subst en
    refine ⟨hA, by omega, fun i hi => by have := (a1 i (by omega)).1; omega, fun hr => ⟨fun z => absurd z (by have := (a1 r (by omega)).2; omega), fun _ => ⟨U, len, st, V, lem, su, hA, hB, v3, u3, hS, hS2, fun c => h0 (fun z => c z.2.2), fun c => h1 ⟨hr.1, by omega, c⟩⟩⟩, fun hr => h0 (fun z => hr (by omega))⟩
  · obtain ⟨et, en⟩ := hn1 hw
    subst et
    subst en
    refine ⟨hB, by omega, fun i hi => by have := (b1 i (by omega)).1; omega, fun hr => ⟨fun z => absurd z (by have := (b1 r (by omega)).2; omega), fun _ => ⟨U, len, st, V, lem, su, hA, hB, v3, u3, hS, hS2, fun c => h0 (fun z => c z.2.2), fun c => h1 ⟨hr.1, by omega, c⟩⟩⟩, fun hr => h0 (fun z => hr (by omega))⟩
theorem co_X10_602 : CallOK RX10 (.invokestatic 150) (4, 5, 0, 0, T_PR_relatedAt) := call_S S_PR_relatedAt (by decide) (by decide +kernel) (Or.inl (by decide +kernel)) (by decide +kernel) (by decide +kernel) (by decide +kernel)
def TF_PR_differ (o : Nat) (p : Int) (q : Int) (w : Int) (sz sl : Nat) (lay : Nat → Nat × Int) (ρ : Nat → Int → Nat) (σ : Nat → Int → Int) (τ : Nat → Int → Int64) (k : Option AV → Mm → Prop) : Prop := ∃ (U : Int → Int) (len : Int) (st : Nat → Int → Int) (V : Int → Int) (lem : Int) (su : Nat → Int → Int), RdP lay ρ σ τ o p U len st ∧ RdP lay ρ σ τ o q V lem su ∧ (((0 ≤ p ∧ p < 3) ∧ (0 ≤ q ∧ q < 3) ∧ (0 ≤ w ∧ w < 5)) → k (some (vI (cntP (dfP U st V su w) 65536))) (sz, sl, lay, ρ, σ, τ)) ∧ (¬ ((0 ≤ p ∧ p < 3) ∧ (0 ≤ q ∧ q < 3) ∧ (0 ≤ w ∧ w < 5)) → k (some (vI (-1))) (sz, sl, lay, ρ, σ, τ))
def T_PR_differ : Tr := mkT 10 fun o as M k => pI as fun p as => pI as fun q as => pI as fun w as => as = [] ∧ TF_PR_differ o p q w M.1 M.2.1 M.2.2.1 M.2.2.2.1 M.2.2.2.2.1 M.2.2.2.2.2 k
theorem T_PR_differ_e {o : Nat} {p : Int} {q : Int} {w : Int} {sz sl : Nat} {lay : Nat → Nat × Int} {ρ : Nat → Int → Nat} {σ : Nat → Int → Int} {τ : Nat → Int → Int64} {k : Option AV → Mm → Prop} : T_PR_differ [vR o, vI p, vI q, vI w] (sz, sl, lay, ρ, σ, τ) k = (lay o = (20, 0) ∧ TF_PR_differ o p q w sz sl lay ρ σ τ k) := by simp [T_PR_differ, mkT_e, pI_e, pR_e, pL_e]
theorem T_PR_differ_r (as : List AV) (M : Mm) (k : Option AV → Mm → Prop) (h : T_PR_differ as M k) : ∃ b As, as = vR b :: As ∧ M.2.2.1 b = (10 + 10, 0) := by
  obtain ⟨b, As, h1, h2, -⟩ := mkT_r h
  exact ⟨b, As, h1, h2⟩
def tb_PR_differ : List (Nat × Option (List Nat) × Instr × List Nat) := [(0, none, .aload_n 0, []), (1, none, .iload_n 1, []), (2, none, .invokevirtual 45, []), (5, none, .astore 4, []), (7, none, .aload_n 0, []), (8, none, .iload_n 2, []), (9, none, .invokevirtual 45, []), (12, none, .astore 5, []), (14, none, .aload 4, []), (16, none, .ifnull 17, [33]), (19, none, .aload 5, []), (21, none, .ifnull 12, [33]), (24, none, .iload_n 3, []), (25, none, .ifCond .lt 8, [33]), (28, none, .iload_n 3, []), (29, none, .iconst 5, []), (30, none, .if_icmp .lt 5, [35]), (33, none, .iconst (-1), []), (34, none, .ireturn, []), (35, none, .iconst 0, []), (36, none, .istore 6, []), (38, none, .iconst 0, []), (39, none, .istore 7, []), (41, some [3, 4, 5, 6, 7], .iload 7, []), (43, none, .sipush 600, []), (46, none, .if_icmp .ge 32, [78]), (49, none, .aload 4, []), (51, none, .getfield 71, []), (54, none, .aload 5, []), (56, none, .getfield 71, []), (59, none, .iload_n 3, []), (60, none, .iload 7, []), (62, none, .invokestatic 150, []), (65, none, .iconst (-1), []), (66, none, .if_icmp .eq 6, [72]), (69, none, .iinc 6 1, []), (72, none, .iinc 7 1, []), (75, none, .goto (-34), [41]), (78, none, .iload 6, []), (80, none, .ireturn, [])]
def P_PR_differ : Nat → Option (List Nat) × Instr × List Nat := plk tb_PR_differ
theorem r_PR_differ_0 : P_PR_differ 0 = (none, .aload_n 0, []) := by decide +kernel
theorem r_PR_differ_1 : P_PR_differ 1 = (none, .iload_n 1, []) := by decide +kernel
theorem r_PR_differ_2 : P_PR_differ 2 = (none, .invokevirtual 45, []) := by decide +kernel
theorem r_PR_differ_5 : P_PR_differ 5 = (none, .astore 4, []) := by decide +kernel
theorem r_PR_differ_7 : P_PR_differ 7 = (none, .aload_n 0, []) := by decide +kernel
theorem r_PR_differ_8 : P_PR_differ 8 = (none, .iload_n 2, []) := by decide +kernel
theorem r_PR_differ_9 : P_PR_differ 9 = (none, .invokevirtual 45, []) := by decide +kernel
theorem r_PR_differ_12 : P_PR_differ 12 = (none, .astore 5, []) := by decide +kernel
theorem r_PR_differ_14 : P_PR_differ 14 = (none, .aload 4, []) := by decide +kernel
theorem r_PR_differ_16 : P_PR_differ 16 = (none, .ifnull 17, [33]) := by decide +kernel
theorem r_PR_differ_19 : P_PR_differ 19 = (none, .aload 5, []) := by decide +kernel
theorem r_PR_differ_21 : P_PR_differ 21 = (none, .ifnull 12, [33]) := by decide +kernel
theorem r_PR_differ_24 : P_PR_differ 24 = (none, .iload_n 3, []) := by decide +kernel
theorem r_PR_differ_25 : P_PR_differ 25 = (none, .ifCond .lt 8, [33]) := by decide +kernel
theorem r_PR_differ_28 : P_PR_differ 28 = (none, .iload_n 3, []) := by decide +kernel
theorem r_PR_differ_29 : P_PR_differ 29 = (none, .iconst 5, []) := by decide +kernel
theorem r_PR_differ_30 : P_PR_differ 30 = (none, .if_icmp .lt 5, [35]) := by decide +kernel
theorem r_PR_differ_33 : P_PR_differ 33 = (none, .iconst (-1), []) := by decide +kernel
theorem r_PR_differ_34 : P_PR_differ 34 = (none, .ireturn, []) := by decide +kernel
theorem r_PR_differ_35 : P_PR_differ 35 = (none, .iconst 0, []) := by decide +kernel
theorem r_PR_differ_36 : P_PR_differ 36 = (none, .istore 6, []) := by decide +kernel
theorem r_PR_differ_38 : P_PR_differ 38 = (none, .iconst 0, []) := by decide +kernel
theorem r_PR_differ_39 : P_PR_differ 39 = (none, .istore 7, []) := by decide +kernel
theorem r_PR_differ_41 : P_PR_differ 41 = (some [3, 4, 5, 6, 7], .iload 7, []) := by decide +kernel
theorem r_PR_differ_43 : P_PR_differ 43 = (none, .sipush 600, []) := by decide +kernel
theorem r_PR_differ_46 : P_PR_differ 46 = (none, .if_icmp .ge 32, [78]) := by decide +kernel
theorem r_PR_differ_49 : P_PR_differ 49 = (none, .aload 4, []) := by decide +kernel
theorem r_PR_differ_51 : P_PR_differ 51 = (none, .getfield 71, []) := by decide +kernel
theorem r_PR_differ_54 : P_PR_differ 54 = (none, .aload 5, []) := by decide +kernel
theorem r_PR_differ_56 : P_PR_differ 56 = (none, .getfield 71, []) := by decide +kernel
theorem r_PR_differ_59 : P_PR_differ 59 = (none, .iload_n 3, []) := by decide +kernel
theorem r_PR_differ_60 : P_PR_differ 60 = (none, .iload 7, []) := by decide +kernel
theorem r_PR_differ_62 : P_PR_differ 62 = (none, .invokestatic 150, []) := by decide +kernel
theorem r_PR_differ_65 : P_PR_differ 65 = (none, .iconst (-1), []) := by decide +kernel
theorem r_PR_differ_66 : P_PR_differ 66 = (none, .if_icmp .eq 6, [72]) := by decide +kernel
theorem r_PR_differ_69 : P_PR_differ 69 = (none, .iinc 6 1, []) := by decide +kernel
theorem r_PR_differ_72 : P_PR_differ 72 = (none, .iinc 7 1, []) := by decide +kernel
theorem r_PR_differ_75 : P_PR_differ 75 = (none, .goto (-34), [41]) := by decide +kernel
theorem r_PR_differ_78 : P_PR_differ 78 = (none, .iload 6, []) := by decide +kernel
theorem r_PR_differ_80 : P_PR_differ 80 = (none, .ireturn, []) := by decide +kernel
def E_PR_differ : List (Nat × Ent) := [(602, (4, 5, 0, 0, T_PR_relatedAt)), (180, (2, 0, 0, 0, T_PR_pictureAt))]
def X_PR_differ : Cx := (llk (0, 0, 9) ftX10, llk 99 ntX10, llk none kcX10, llk none klX10, llk dEnt E_PR_differ, 6, 0, false)
theorem xok_PR_differ : Xok RX10 X_PR_differ := xok_of ftX10_ok ntX10_ok kcX10_ok klX10_ok (E := E_PR_differ) (List.forall_mem_cons.mpr ⟨co_X10_602, List.forall_mem_cons.mpr ⟨co_X10_180, fun _ h => absurd h List.not_mem_nil⟩⟩)
theorem xf_PR_differ_71 : xfl X_PR_differ 71 = (3, 1, 3) := by decide +kernel
theorem xe_PR_differ_602 : xE X_PR_differ (4 * 150 + 2) = (4, 5, 0, 0, T_PR_relatedAt) := rfl
theorem xe_PR_differ_180 : xE X_PR_differ (4 * 45 + 0) = (2, 0, 0, 0, T_PR_pictureAt) := rfl
theorem xd_PR_differ : xd X_PR_differ = 6 := rfl
theorem xrb_PR_differ : xrb X_PR_differ = 0 := rfl
theorem xin_PR_differ : xin X_PR_differ = false := rfl
set_option maxHeartbeats 4000000 in
set_option maxRecDepth 100000 in
theorem S_PR_differ : Snd yX10_differ cX10_differ 8 (some .int) T_PR_differ 6 0 0 := by
  refine snd_of (X := X_PR_differ) (P := P_PR_differ) (tb := tb_PR_differ) (own := RX10) (by decide) rfl rfl (by decide +kernel) xok_PR_differ rfl rk0 (fun h => by first | rfl | cases h) ?_
  intro as M k has hM hT0
  obtain ⟨sz, sl, lay, ρ, σ, τ⟩ := M
  obtain ⟨o, as1, e, hlo, hT1⟩ := mkT_r hT0
  clear hT0
  subst e
  obtain ⟨p, as2, e, hT2⟩ := pI_x hT1
  clear hT1
  subst e
  obtain ⟨q, as3, e, hT3⟩ := pI_x hT2
  clear hT2
  subst e
  obtain ⟨w, as4, e, hT4⟩ := pI_x hT3
  clear hT3
  subst e
  obtain ⟨e, hT⟩ := hT4
  subst e
  replace hlo : lay o = (20, 0) := hlo
  have r_p : -2147483648 ≤ p ∧ p ≤ 2147483647 := has (vI p) (by simp)
  have r_q : -2147483648 ≤ q ∧ q ≤ 2147483647 := has (vI q) (by simp)
  have r_w : -2147483648 ≤ w ∧ w ≤ 2147483647 := has (vI w) (by simp)
  clear has
  replace hM : ∀ a i, -2147483648 ≤ σ a i ∧ σ a i ≤ 2147483647 := hM
  replace hT : TF_PR_differ o p q w sz sl lay ρ σ τ k := hT
  unfold TF_PR_differ at hT
  obtain ⟨U, len, st, V, lem, su, hRP, hRP2, h1, h0⟩ := hT
  obtain ⟨hR, hPR⟩ := (show RdP lay ρ σ τ o p U len st from hRP)
  obtain ⟨-, hPR2⟩ := (show RdP lay ρ σ τ o q V lem su from hRP2)
  have r0 : lay o = (20, 0) := hR.1
  obtain ⟨J, hJd⟩ : ∃ J : Nat → List AV → Mm → Prop, J = (fun c vs M1 => c = 41 ∧ ∃ r n : Nat, ((0 ≤ p ∧ p < 3) ∧ (0 ≤ q ∧ q < 3) ∧ (0 ≤ w ∧ w < 5)) ∧ r ≤ 600 ∧ (((r : Int) ≤ (if w = 0 then su 0 7 else st 0 7) → n = r) ∧ ((if w = 0 then su 0 7 else st 0 7) ≤ (r : Int) → (n : Int) = (if w = 0 then su 0 7 else st 0 7))) ∧ vs = [vI w, vR (o + 6 + 44 * p.toNat), vR (o + 6 + 44 * q.toNat), vI (cntZ (fun r => decide (relP U st V su (σ ((if w = 0 then o + 6 + 44 * q.toNat + 8 else o + 6 + 44 * p.toNat + 8) + 1) (σ ((if w = 0 then o + 6 + 44 * q.toNat + 8 else o + 6 + 44 * p.toNat + 8) + 7) r)) = w)) n), vI r] ∧ M1 = (sz, sl, lay, ρ, σ, τ)) := ⟨_, rfl⟩
  obtain ⟨μ, hμ⟩ : ∃ μ : Nat → List AV → Mm → Nat, μ = (fun _ vs _ => (1000 - gI (vs.getD 4 vN)).toNat) := ⟨_, rfl⟩
  refine ⟨Nat.le_of_ble_eq_true rfl, J, μ, 48, ?_, ?_⟩
  · skip
    by_cases hpq : (0 ≤ p ∧ p < 3) ∧ (0 ≤ q ∧ q < 3)
    · obtain ⟨hp, hq⟩ := hpq
      have hpE : (0 ≤ p ∧ p < 3) = True := eq_true hp
      have hqE : (0 ≤ q ∧ q < 3) = True := eq_true hq
      obtain ⟨P, eP, -, hPc, hP0⟩ := hR.pic hp
      have hPe : o + 6 + 44 * p.toNat = P := eP.symm
      obtain ⟨Q, eQ, -, hQc, hQ0⟩ := hR.pic hq
      have hQe : o + 6 + 44 * q.toNat = Q := eQ.symm
      have hP := hPc.1
      have hQ := hQc.1
      have w9 := (hPR hp).1.2.2.2.2.2.2.2.2.2.1
      have y9 := (hPR2 hq).1.2.2.2.2.2.2.2.2.2.1
      have nb0 : 0 ≤ (if w = 0 then su 0 7 else st 0 7) := by split <;> omega
      (obtain ⟨ph, pp0, pp1, pp2, pp3, pp4, pp5, pp6, pp7, pq0, pq1, pq2, pq3, pq4, pq5, pq6, pq7⟩ := (show LPicture lay ρ _ from hP); obtain ⟨gh, gp0, gp1, gp2, gp3, gp4, gp5, gp6, gp7, gq0, gq1, gq2, gq3, gq4, gq5, gq6, gq7⟩ := (show LPicture lay ρ _ from hQ); unfold wps; simp only [hpE, hPe, hqE, hQe, si_iload_n0, si_iload_n1, si_iload_n2, si_iload_n3, si_iload, si_lload_n0, si_lload_n1, si_lload_n2, si_lload_n3, si_lload, si_aload_n0, si_aload_n1, si_aload_n2, si_aload_n3, si_aload, si_istore_n0, si_istore_n1, si_istore_n2, si_istore_n3, si_istore, si_astore_n0, si_astore_n1, si_astore_n2, si_astore_n3, si_astore, si_lstore_n0, si_lstore_n1, si_lstore_n2, si_lstore_n3, si_lstore, si_iconst, si_bipush, si_sipush, si_ldc, si_ldc2_w, si_lconst0, si_lconst1, si_aconst_null, si_iinc, si_dup, si_dup2, si_iadd, si_isub, si_imul, si_idiv, si_irem, si_iand, si_ior, si_ishl, si_ishr, si_ladd, si_lmul, si_lor, si_lxor, si_lshl, si_lushr, si_lcmp, si_i2b, si_i2l, si_l2i, si_icmp_eq, si_icmp_ne, si_icmp_lt, si_icmp_ge, si_icmp_gt, si_icmp_le, si_if_eq, si_if_ne, si_if_lt, si_if_ge, si_if_gt, si_if_le, si_ifnull, si_ifnonnull, si_goto, si_tableswitch, si_lookupswitch, si_getfield, si_putfield, si_getstatic, si_iaload, si_baload, si_laload, si_aaload, si_iastore, si_bastore, si_lastore, si_aastore, si_arraylength, si_new, si_newarray, si_anewarray, si_invokevirtual, si_invokespecial, si_invokestatic, si_ireturn, si_lreturn, si_areturn, si_return_, pI_e, pL_e, pR_e, pA_r, pA_n, pN_n, pN_r, oI_e, oL_e, oA_r, oA_n, lget_e, lrm1_0, lrm2_0, lrm1_i, lrm1_r, lrm1_n, lrm1_l, lrm2_i, lrm2_r, lrm2_n, lrm2_l, popN_0, popN_s, acat_i, acat_l, acat_r, acat_n, stw_0, stw_s, psh_s, psh_n, wgf_r, wgf_i, wgf_b, wgf_n, wgf_m, wpf_i, wpf_r, wpf_b, wnew_e, callE_e, rbk_0, rbk_1, tsw_0, tsw_s, lsw_0, lsw_s, wp_s, wq_t, wq_f, oV_e, pick_0, pick_s, oZ_e, oY_e, r_PR_differ_0, r_PR_differ_1, r_PR_differ_2, r_PR_differ_5, r_PR_differ_7, r_PR_differ_8, r_PR_differ_9, r_PR_differ_12, r_PR_differ_14, r_PR_differ_16, r_PR_differ_19, r_PR_differ_21, r_PR_differ_24, r_PR_differ_25, r_PR_differ_28, r_PR_differ_29, r_PR_differ_30, r_PR_differ_33, r_PR_differ_34, r_PR_differ_35, r_PR_differ_36, r_PR_differ_38, r_PR_differ_39, r_PR_differ_41, r_PR_differ_43, r_PR_differ_46, r_PR_differ_49, r_PR_differ_51, r_PR_differ_54, r_PR_differ_56, r_PR_differ_59, r_PR_differ_60, r_PR_differ_62, r_PR_differ_65, r_PR_differ_66, r_PR_differ_69, r_PR_differ_72, r_PR_differ_75, r_PR_differ_78, r_PR_differ_80, xf_PR_differ_71, xe_PR_differ_602, xe_PR_differ_180, xd_PR_differ, xrb_PR_differ, xin_PR_differ, T_PR_relatedAt_e, TF_PR_relatedAt, T_PR_pictureAt_e, TF_PR_pictureAt, r0, ph, pp0, pp1, pp2, pp3, pp4, pp5, pp6, pp7, pq0, pq1, pq2, pq3, pq4, pq5, pq6, pq7, gh, gp0, gp1, gp2, gp3, gp4, gp5, gp6, gp7, gq0, gq1, gq2, gq3, gq4, gq5, gq6, gq7, Nat.reduceAdd, Nat.reduceMul, Nat.reduceEqDiff, reduceIte, Int.reduceNeg, Int.reduceLE, Int.reduceLT, Int.reduceAdd, Int.reduceSub, Int.reduceToNat, true_and, and_true, inR_e, Nat.reduceLT, Nat.reduceLeDiff, reduceCtorEq, Nat.add_zero, Nat.zero_add, or_false, false_or, or_true, true_or, not_true_eq_false, not_false_eq_true, Classical.not_not, Nat.add_eq_zero_iff, and_false, false_and, Int.reduceEq, List.mem_cons, List.not_mem_nil, forall_eq_or_imp, forall_eq, false_implies, implies_true, forall_const, aargs_0, aargs_i, aargs_r, aargs_l, aargs_n, nfT_e, eq_self, and_self, Nat.le_refl, fu_s, fu_fu, iu_iu, iu_s, fu_am, fu_a0, fu_0a, iu_l, Nat.reduceBEq, Int.reduceBEq, T_objInit_e]; clear pp0 pp1 pp2 pp3 pp4 pp5 pp6 pp7 gp0 gp1 gp2 gp3 gp4 gp5 gp6 gp7)
      refine ⟨hR, hR, fun a => h0 (fun z => by omega), fun a => ⟨fun b => ?_, fun b => h0 (fun z => by omega)⟩⟩
      rw [hJd, ← hPe, ← hQe]
      exact ⟨rfl, 0, 0, ⟨hp, hq, by omega⟩, by omega, ⟨fun _ => rfl, fun z => by omega⟩, rfl, rfl⟩
    · (unfold wps; simp only [si_iload_n0, si_iload_n1, si_iload_n2, si_iload_n3, si_iload, si_lload_n0, si_lload_n1, si_lload_n2, si_lload_n3, si_lload, si_aload_n0, si_aload_n1, si_aload_n2, si_aload_n3, si_aload, si_istore_n0, si_istore_n1, si_istore_n2, si_istore_n3, si_istore, si_astore_n0, si_astore_n1, si_astore_n2, si_astore_n3, si_astore, si_lstore_n0, si_lstore_n1, si_lstore_n2, si_lstore_n3, si_lstore, si_iconst, si_bipush, si_sipush, si_ldc, si_ldc2_w, si_lconst0, si_lconst1, si_aconst_null, si_iinc, si_dup, si_dup2, si_iadd, si_isub, si_imul, si_idiv, si_irem, si_iand, si_ior, si_ishl, si_ishr, si_ladd, si_lmul, si_lor, si_lxor, si_lshl, si_lushr, si_lcmp, si_i2b, si_i2l, si_l2i, si_icmp_eq, si_icmp_ne, si_icmp_lt, si_icmp_ge, si_icmp_gt, si_icmp_le, si_if_eq, si_if_ne, si_if_lt, si_if_ge, si_if_gt, si_if_le, si_ifnull, si_ifnonnull, si_goto, si_tableswitch, si_lookupswitch, si_getfield, si_putfield, si_getstatic, si_iaload, si_baload, si_laload, si_aaload, si_iastore, si_bastore, si_lastore, si_aastore, si_arraylength, si_new, si_newarray, si_anewarray, si_invokevirtual, si_invokespecial, si_invokestatic, si_ireturn, si_lreturn, si_areturn, si_return_, pI_e, pL_e, pR_e, pA_r, pA_n, pN_n, pN_r, oI_e, oL_e, oA_r, oA_n, lget_e, lrm1_0, lrm2_0, lrm1_i, lrm1_r, lrm1_n, lrm1_l, lrm2_i, lrm2_r, lrm2_n, lrm2_l, popN_0, popN_s, acat_i, acat_l, acat_r, acat_n, stw_0, stw_s, psh_s, psh_n, wgf_r, wgf_i, wgf_b, wgf_n, wgf_m, wpf_i, wpf_r, wpf_b, wnew_e, callE_e, rbk_0, rbk_1, tsw_0, tsw_s, lsw_0, lsw_s, wp_s, wq_t, wq_f, oV_e, pick_0, pick_s, oZ_e, oY_e, r_PR_differ_0, r_PR_differ_1, r_PR_differ_2, r_PR_differ_5, r_PR_differ_7, r_PR_differ_8, r_PR_differ_9, r_PR_differ_12, r_PR_differ_14, r_PR_differ_16, r_PR_differ_19, r_PR_differ_21, r_PR_differ_24, r_PR_differ_25, r_PR_differ_28, r_PR_differ_29, r_PR_differ_30, r_PR_differ_33, r_PR_differ_34, r_PR_differ_35, r_PR_differ_36, r_PR_differ_38, r_PR_differ_39, r_PR_differ_41, r_PR_differ_43, r_PR_differ_46, r_PR_differ_49, r_PR_differ_51, r_PR_differ_54, r_PR_differ_56, r_PR_differ_59, r_PR_differ_60, r_PR_differ_62, r_PR_differ_65, r_PR_differ_66, r_PR_differ_69, r_PR_differ_72, r_PR_differ_75, r_PR_differ_78, r_PR_differ_80, xf_PR_differ_71, xe_PR_differ_602, xe_PR_differ_180, xd_PR_differ, xrb_PR_differ, xin_PR_differ, T_PR_relatedAt_e, TF_PR_relatedAt, T_PR_pictureAt_e, TF_PR_pictureAt, r0, Nat.reduceAdd, Nat.reduceMul, Nat.reduceEqDiff, reduceIte, Int.reduceNeg, Int.reduceLE, Int.reduceLT, Int.reduceAdd, Int.reduceSub, Int.reduceToNat, true_and, and_true, inR_e, Nat.reduceLT, Nat.reduceLeDiff, reduceCtorEq, Nat.add_zero, Nat.zero_add, or_false, false_or, or_true, true_or, not_true_eq_false, not_false_eq_true, Classical.not_not, Nat.add_eq_zero_iff, and_false, false_and, Int.reduceEq, List.mem_cons, List.not_mem_nil, forall_eq_or_imp, forall_eq, false_implies, implies_true, forall_const, aargs_0, aargs_i, aargs_r, aargs_l, aargs_n, nfT_e, eq_self, and_self, Nat.le_refl, fu_s, fu_fu, iu_iu, iu_s, fu_am, fu_a0, fu_0a, iu_l, Nat.reduceBEq, Int.reduceBEq, T_objInit_e])
      exact ⟨hR, fun a => ⟨hR, fun b => absurd ⟨a, b⟩ hpq, fun b => h0 (fun z => b z.2.1)⟩, fun a => ⟨hR, fun b => h0 (fun z => a z.1), fun b => h0 (fun z => a z.1)⟩⟩
  · intro cp vs M1 hvs hM1 hlen hJ
    rw [hJd] at hJ
    obtain ⟨rfl, r, n, ⟨hp, hq, hw⟩, g1, g3, rfl, rfl⟩ := hJ
    obtain ⟨P, eP, -, hPc, hP0⟩ := hR.pic hp
    have hPe : o + 6 + 44 * p.toNat = P := eP.symm
    obtain ⟨Q, eQ, -, hQc, hQ0⟩ := hR.pic hq
    have hQe : o + 6 + 44 * q.toNat = Q := eQ.symm
    obtain ⟨hS, hV⟩ := hPR hp
    obtain ⟨hS2, hV2⟩ := hPR2 hq
    rw [hPe] at hV
    rw [hQe] at hV2
    have hP := hPc.1
    have hQ := hQc.1
    have hTh := hPc.2.2.1
    have hTq := hQc.2.2.1
    have w9 := hS.2.2.2.2.2.2.2.2.2.1
    have y9 := hS2.2.2.2.2.2.2.2.2.2.1
    have v3 := hV.1.2.2.1
    have u3 := hV2.1.2.2.1
    have n12 := v3.1
    have m12 := u3.1
    obtain ⟨a1, a2, a3⟩ := v3.inc hS
    obtain ⟨b1, b2, b3⟩ := u3.inc hS2
    have rwn : ∀ x, (w = 0 → (0 ≤ fn V su x ∧ relP U st V su x = w ↔ dfP U st V su w x)) ∧ (¬ w = 0 → (0 ≤ fn U st x ∧ relP U st V su x = w ↔ dfP U st V su w x)) := by
      intro x
      have f1 := fn_R (U := U) w9.1 x
      have f2 := fn_R (U := V) y9.1 x
      unfold dfP
      constructor
      · intro hw
        constructor
        · intro z; exact ⟨Or.inr z.1, z.2⟩
        · intro z
          refine ⟨?_, z.2⟩
          rcases z.1 with y | y
          · exfalso
            have z2 := z.2
            unfold relP at z2
            rw [if_neg (by omega), hw] at z2
            repeat' split at z2
            all_goals omega
          · exact y
      · intro hw
        constructor
        · intro z; exact ⟨Or.inl z.1, z.2⟩
        · intro z
          refine ⟨?_, z.2⟩
          rcases f1 with y | y
          · exfalso
            have z2 := z.2
            unfold relP at z2
            rw [if_pos y] at z2
            omega
          · exact y.1.1
    rw [hPe, hQe] at hvs ⊢
    obtain ⟨Lt, eL⟩ : ∃ Lt : Nat, (if w = 0 then Q + 8 else P + 8) = Lt := ⟨_, rfl⟩
    rw [eL] at hvs ⊢
    have hLt : LThings lay ρ Lt := by
      rw [← eL]; split <;> assumption
    have lf : ((0 ≤ σ Lt 12 ∧ σ Lt 12 ≤ 600) ∧ σ Lt 12 = (if w = 0 then su 0 7 else st 0 7)) ∧ (∀ r, 0 ≤ r ∧ r < σ Lt 12 → (0 ≤ σ (Lt + 7) r ∧ σ (Lt + 7) r < 600) ∧ 0 ≤ σ (Lt + 1) (σ (Lt + 7) r) ∧ σ (Lt + 1) (σ (Lt + 7) r) < 65536) ∧ (∀ r s, 0 ≤ r ∧ r < s ∧ s < σ Lt 12 → σ (Lt + 1) (σ (Lt + 7) r) < σ (Lt + 1) (σ (Lt + 7) s)) ∧ (∀ x, ((∃ r, (0 ≤ r ∧ r < σ Lt 12) ∧ σ (Lt + 1) (σ (Lt + 7) r) = x) ∧ relP U st V su x = w) ↔ dfP U st V su w x) := by
      by_cases hw0 : w = 0
      · rw [if_pos hw0] at eL
        subst eL
        rw [m12, if_pos hw0]
        refine ⟨⟨y9, rfl⟩, fun r hr => ⟨by have := (b1 r hr).1; omega, (b1 r hr).2⟩, b2, fun x => ?_⟩
        rw [b3 x]
        exact (rwn x).1 hw0
      · rw [if_neg hw0] at eL
        subst eL
        rw [n12, if_neg hw0]
        refine ⟨⟨w9, rfl⟩, fun r hr => ⟨by have := (a1 r hr).1; omega, (a1 r hr).2⟩, a2, fun x => ?_⟩
        rw [a3 x]
        exact (rwn x).2 hw0
    obtain ⟨⟨l1, l2⟩, l3, l4, l5⟩ := lf
    rw [← l2] at g3
    have cr := cntZ_R (fun r => decide (relP U st V su (σ (Lt + 1) (σ (Lt + 7) r)) = w)) n
    have sel1 : w = 0 → Lt = Q + 8 ∧ σ Lt 12 = su 0 7 := fun hw => by rw [if_pos hw] at eL l2; exact ⟨eL.symm, l2⟩
    have sel0 : ¬ w = 0 → Lt = P + 8 ∧ σ Lt 12 = st 0 7 := fun hw => by rw [if_neg hw] at eL l2; exact ⟨eL.symm, l2⟩
    (obtain ⟨ph, pp0, pp1, pp2, pp3, pp4, pp5, pp6, pp7, pq0, pq1, pq2, pq3, pq4, pq5, pq6, pq7⟩ := (show LPicture lay ρ _ from hP); obtain ⟨gh, gp0, gp1, gp2, gp3, gp4, gp5, gp6, gp7, gq0, gq1, gq2, gq3, gq4, gq5, gq6, gq7⟩ := (show LPicture lay ρ _ from hQ); unfold wps; simp only [Option.getD_some, List.zip_cons_cons, List.zip_nil_left, List.zip_nil_right, List.zip_nil_right, si_iload_n0, si_iload_n1, si_iload_n2, si_iload_n3, si_iload, si_lload_n0, si_lload_n1, si_lload_n2, si_lload_n3, si_lload, si_aload_n0, si_aload_n1, si_aload_n2, si_aload_n3, si_aload, si_istore_n0, si_istore_n1, si_istore_n2, si_istore_n3, si_istore, si_astore_n0, si_astore_n1, si_astore_n2, si_astore_n3, si_astore, si_lstore_n0, si_lstore_n1, si_lstore_n2, si_lstore_n3, si_lstore, si_iconst, si_bipush, si_sipush, si_ldc, si_ldc2_w, si_lconst0, si_lconst1, si_aconst_null, si_iinc, si_dup, si_dup2, si_iadd, si_isub, si_imul, si_idiv, si_irem, si_iand, si_ior, si_ishl, si_ishr, si_ladd, si_lmul, si_lor, si_lxor, si_lshl, si_lushr, si_lcmp, si_i2b, si_i2l, si_l2i, si_icmp_eq, si_icmp_ne, si_icmp_lt, si_icmp_ge, si_icmp_gt, si_icmp_le, si_if_eq, si_if_ne, si_if_lt, si_if_ge, si_if_gt, si_if_le, si_ifnull, si_ifnonnull, si_goto, si_tableswitch, si_lookupswitch, si_getfield, si_putfield, si_getstatic, si_iaload, si_baload, si_laload, si_aaload, si_iastore, si_bastore, si_lastore, si_aastore, si_arraylength, si_new, si_newarray, si_anewarray, si_invokevirtual, si_invokespecial, si_invokestatic, si_ireturn, si_lreturn, si_areturn, si_return_, pI_e, pL_e, pR_e, pA_r, pA_n, pN_n, pN_r, oI_e, oL_e, oA_r, oA_n, lget_e, lrm1_0, lrm2_0, lrm1_i, lrm1_r, lrm1_n, lrm1_l, lrm2_i, lrm2_r, lrm2_n, lrm2_l, popN_0, popN_s, acat_i, acat_l, acat_r, acat_n, stw_0, stw_s, psh_s, psh_n, wgf_r, wgf_i, wgf_b, wgf_n, wgf_m, wpf_i, wpf_r, wpf_b, wnew_e, callE_e, rbk_0, rbk_1, tsw_0, tsw_s, lsw_0, lsw_s, wp_s, wq_t, wq_f, oV_e, pick_0, pick_s, oZ_e, oY_e, r_PR_differ_0, r_PR_differ_1, r_PR_differ_2, r_PR_differ_5, r_PR_differ_7, r_PR_differ_8, r_PR_differ_9, r_PR_differ_12, r_PR_differ_14, r_PR_differ_16, r_PR_differ_19, r_PR_differ_21, r_PR_differ_24, r_PR_differ_25, r_PR_differ_28, r_PR_differ_29, r_PR_differ_30, r_PR_differ_33, r_PR_differ_34, r_PR_differ_35, r_PR_differ_36, r_PR_differ_38, r_PR_differ_39, r_PR_differ_41, r_PR_differ_43, r_PR_differ_46, r_PR_differ_49, r_PR_differ_51, r_PR_differ_54, r_PR_differ_56, r_PR_differ_59, r_PR_differ_60, r_PR_differ_62, r_PR_differ_65, r_PR_differ_66, r_PR_differ_69, r_PR_differ_72, r_PR_differ_75, r_PR_differ_78, r_PR_differ_80, xf_PR_differ_71, xe_PR_differ_602, xe_PR_differ_180, xd_PR_differ, xrb_PR_differ, xin_PR_differ, T_PR_relatedAt_e, TF_PR_relatedAt, T_PR_pictureAt_e, TF_PR_pictureAt, r0, ph, pp0, pp1, pp2, pp3, pp4, pp5, pp6, pp7, pq0, pq1, pq2, pq3, pq4, pq5, pq6, pq7, gh, gp0, gp1, gp2, gp3, gp4, gp5, gp6, gp7, gq0, gq1, gq2, gq3, gq4, gq5, gq6, gq7, Nat.reduceAdd, Nat.reduceMul, Nat.reduceEqDiff, reduceIte, Int.reduceNeg, Int.reduceLE, Int.reduceLT, Int.reduceAdd, Int.reduceSub, Int.reduceToNat, true_and, and_true, inR_e, Nat.reduceLT, Nat.reduceLeDiff, reduceCtorEq, Nat.add_zero, Nat.zero_add, or_false, false_or, or_true, true_or, not_true_eq_false, not_false_eq_true, Classical.not_not, Nat.add_eq_zero_iff, and_false, false_and, Int.reduceEq, List.mem_cons, List.not_mem_nil, forall_eq_or_imp, forall_eq, false_implies, implies_true, forall_const, aargs_0, aargs_i, aargs_r, aargs_l, aargs_n, nfT_e, eq_self, and_self, Nat.le_refl, fu_s, fu_fu, iu_iu, iu_s, fu_am, fu_a0, fu_0a, iu_l, Nat.reduceBEq, Int.reduceBEq, T_objInit_e]; clear pp0 pp1 pp2 pp3 pp4 pp5 pp6 pp7 gp0 gp1 gp2 gp3 gp4 gp5 gp6 gp7)
    refine ⟨fun h => ?_, fun h => ⟨U, len, st, V, lem, su, Lt, σ Lt 12, hTh, hTq, v3, u3, hS, hS2, sel1, sel0, fun a => ⟨fun z => absurd z (by have := (l3 r (by omega)).2; omega), fun _ => ⟨by omega, by omega, ?_, (by rw [hμ]; simp only [gI_e, List.getD_cons_succ, List.getD_cons_zero]; omega)⟩⟩, fun a => ⟨by omega, ?_, (by rw [hμ]; simp only [gI_e, List.getD_cons_succ, List.getD_cons_zero]; omega)⟩⟩⟩
    · have key := h1 ⟨hp, hq, hw⟩
      have e := inc_cnt (g := fun r => σ (Lt + 1) (σ (Lt + 7) r)) (q := fun x => decide (relP U st V su x = w)) (N := 65536) n (fun s hs => (l3 s (by omega)).2) (fun a b hab => l4 a b (by omega))
      have e2 : cntP (fun x => (∃ s, (0 ≤ s ∧ s < (n : Int)) ∧ σ (Lt + 1) (σ (Lt + 7) s) = x) ∧ decide (relP U st V su x = w) = true) 65536 = cntP (dfP U st V su w) 65536 := cntP_c (fun x _ => by
        rw [decide_eq_true_iff, show (n : Int) = σ Lt 12 by omega]
        exact l5 x)
      rw [← e2] at key
      show k (some (vI (cntZ (fun s => (fun x => decide (relP U st V su x = w)) ((fun s => σ (Lt + 1) (σ (Lt + 7) s)) s)) n))) _
      rw [e]
      exact key
    · have en : n = r := by omega
      subst en
      rw [hJd, hPe, hQe, eL]
      exact ⟨rfl, n + 1, n + 1, ⟨hp, hq, hw⟩, by omega, by rw [← l2]; omega, by rw [cntZ_t (by simp [a.2.2])]; rfl, rfl⟩
    · rw [hJd, hPe, hQe, eL]
      by_cases hr : (r : Int) < σ Lt 12
      · have en : n = r := by omega
        subst en
        exact ⟨rfl, n + 1, n + 1, ⟨hp, hq, hw⟩, by omega, by rw [← l2]; omega, by rw [cntZ_f (by simp only [decide_eq_true_iff]; exact fun z => a ⟨by omega, hr, z⟩)]; rfl, rfl⟩
      · exact ⟨rfl, r + 1, n, ⟨hp, hq, hw⟩, by omega, by rw [← l2]; omega, rfl, rfl⟩

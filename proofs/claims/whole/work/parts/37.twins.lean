/-! ===== twins ===== -/
/-- the same sort, kind and values -/
def LkT (σ : Nat → Int → Int) (τ : Nat → Int → Int64) (t : Nat) (i j : Int) : Prop := (σ (t + 2) i = σ (t + 2) j ∧ σ (t + 3) i = σ (t + 3) j) ∧ σ (t + 8) (i + 1) - σ (t + 8) i = σ (t + 8) (j + 1) - σ (t + 8) j ∧ ∀ k, 0 ≤ k ∧ k < σ (t + 8) (i + 1) - σ (t + 8) i → τ (t + 10) (σ (t + 8) i + k) = τ (t + 10) (σ (t + 8) j + k)
theorem LkT.rf {σ : Nat → Int → Int} {τ : Nat → Int → Int64} {t : Nat} {i : Int} : LkT σ τ t i i := ⟨⟨rfl, rfl⟩, rfl, fun _ _ => rfl⟩
theorem LkT.sy {σ : Nat → Int → Int} {τ : Nat → Int → Int64} {t : Nat} {i j : Int} (h : LkT σ τ t i j) : LkT σ τ t j i := ⟨⟨h.1.1.symm, h.1.2.symm⟩, h.2.1.symm, fun k hk => (h.2.2 k (by rw [h.2.1]; exact hk)).symm⟩
theorem LkT.tr {σ : Nat → Int → Int} {τ : Nat → Int → Int64} {t : Nat} {i j l : Int} (h : LkT σ τ t i j) (g : LkT σ τ t j l) : LkT σ τ t i l := ⟨⟨h.1.1.trans g.1.1, h.1.2.trans g.1.2⟩, h.2.1.trans g.2.1, fun k hk => (h.2.2 k hk).trans (g.2.2 k (by rw [← h.2.1]; exact hk))⟩
theorem prF_c {v w : Int → Int64} : ∀ (n : Nat) (x : Int64), (∀ k : Int, 0 ≤ k ∧ k < n → v k = w k) → prF v n x = prF w n x
  | 0, _, _ => rfl
  | n + 1, x, h => by
    show prF v n x * 31 + v n = prF w n x * 31 + w n
    rw [prF_c n x (fun k hk => h k (by omega)), h n (by omega)]
def prZ (σ : Nat → Int → Int) (τ : Nat → Int → Int64) (t : Nat) (i : Int) : Int64 := prF (fun k => τ (t + 10) (σ (t + 8) i + k)) (σ (t + 8) (i + 1) - σ (t + 8) i).toNat (Int64.ofInt (σ (t + 8) (i + 1) - σ (t + 8) i))
theorem LkT.pr {σ : Nat → Int → Int} {τ : Nat → Int → Int64} {t : Nat} {i j : Int} (h : LkT σ τ t i j) : prZ σ τ t i = prZ σ τ t j := by
  unfold prZ
  rw [h.2.1]
  exact prF_c _ _ (fun k hk => h.2.2 k (by rw [h.2.1]; omega))
theorem cntP_hit {P : Int → Prop} {i : Int} : ∀ N : Nat, 0 ≤ i ∧ i < cntP P N → ∃ x : Nat, x < N ∧ P x ∧ cntP P x = i
  | 0, h => by have : cntP P 0 = 0 := rfl; omega
  | N + 1, h => by
    have e : cntP P (N + 1) = cntP P N + (if bP (P N) = true then 1 else 0) := rfl
    by_cases g : i < cntP P N
    · obtain ⟨x, h1, h2⟩ := cntP_hit N ⟨h.1, g⟩
      exact ⟨x, by omega, h2⟩
    · by_cases q : P N
      · rw [if_pos (bP_e.mpr q)] at e
        exact ⟨N, by omega, q, by omega⟩
      · rw [if_neg (by rw [bP_e]; exact q)] at e
        omega
theorem cntP_st {P : Int → Prop} {N : Nat} (h : P N) : cntP P (N + 1) = cntP P N + 1 := cntZ_t (q := fun y => bP (P y)) (bP_e.mpr h)
theorem cntP_sf {P : Int → Prop} {N : Nat} (h : ¬ P N) : cntP P (N + 1) = cntP P N := cntZ_f (q := fun y => bP (P y)) (by rw [bP_e]; exact h)
theorem cntP_m {P : Int → Prop} {a : Nat} : ∀ {b : Nat}, a ≤ b → cntP P a ≤ cntP P b
  | 0, h => by rw [show a = 0 by omega]; omega
  | b + 1, h => by
    by_cases e : a = b + 1
    · rw [e]; omega
    · have := cntP_m (P := P) (a := a) (b := b) (by omega)
      by_cases g : P b
      · rw [cntP_st g]; omega
      · rw [cntP_sf g]; omega
/-- strictly: from one that counts on -/
theorem cntP_lt {P : Int → Prop} {a b : Nat} (h : a < b) (g : P a) : cntP P a < cntP P b := by
  have := cntP_m (P := P) (a := a + 1) (b := b) (by omega)
  rw [cntP_st g] at this
  omega
/-- a row, and none before it is like it -/
def Fst (σ : Nat → Int → Int) (τ : Nat → Int → Int64) (t : Nat) (x : Int) : Prop := σ (t + 2) x = 1 ∧ ∀ y, 0 ≤ y ∧ y < x → σ (t + 2) y = 1 → ¬ LkT σ τ t y x
noncomputable def Mem (σ : Nat → Int → Int) (τ : Nat → Int → Int64) (t : Nat) (x : Int) (N : Nat) : Int := cntP (fun y => σ (t + 2) y = 1 ∧ LkT σ τ t x y) N
def TwI (σ : Nat → Int → Int) (τ : Nat → Int → Int64) (t : Nat) (H M P : Int → Int) (cnt : Int) (N : Nat) : Prop := cnt = cntP (Fst σ τ t) N ∧ (∀ x : Nat, x < N → Fst σ τ t x → H (cntP (Fst σ τ t) x) = x ∧ M (cntP (Fst σ τ t) x) = Mem σ τ t x N ∧ P (cntP (Fst σ τ t) x) = l2iZ (prZ σ τ t x ^^^ ushrL (prZ σ τ t x) 32)) ∧ (∀ y : Nat, y < N → σ (t + 2) y = 1 → ∃ x : Nat, x ≤ y ∧ Fst σ τ t x ∧ LkT σ τ t x y)
theorem TwI.hd {σ : Nat → Int → Int} {τ : Nat → Int → Int64} {t : Nat} {H M P : Int → Int} {cnt : Int} {N : Nat} (h : TwI σ τ t H M P cnt N) {i : Int} (hi : 0 ≤ i ∧ i < cnt) : ∃ x : Nat, x < N ∧ Fst σ τ t x ∧ cntP (Fst σ τ t) x = i ∧ H i = x ∧ M i = Mem σ τ t x N ∧ P i = l2iZ (prZ σ τ t x ^^^ ushrL (prZ σ τ t x) 32) := by
  obtain ⟨h1, h2, h3⟩ := h
  obtain ⟨x, x1, x2, x3⟩ := cntP_hit N (show 0 ≤ i ∧ i < cntP (Fst σ τ t) N by omega)
  have := h2 x x1 x2
  rw [x3] at this
  exact ⟨x, x1, x2, x3, this⟩
theorem Mem_t {σ : Nat → Int → Int} {τ : Nat → Int → Int64} {t : Nat} {x : Int} {N : Nat} (h : σ (t + 2) N = 1) (g : LkT σ τ t x N) : Mem σ τ t x (N + 1) = Mem σ τ t x N + 1 := cntP_st (P := fun y => σ (t + 2) y = 1 ∧ LkT σ τ t x y) ⟨h, g⟩
theorem Mem_f {σ : Nat → Int → Int} {τ : Nat → Int → Int64} {t : Nat} {x : Int} {N : Nat} (h : ¬ (σ (t + 2) N = 1 ∧ LkT σ τ t x N)) : Mem σ τ t x (N + 1) = Mem σ τ t x N := cntP_sf (P := fun y => σ (t + 2) y = 1 ∧ LkT σ τ t x y) h
theorem Fst.nl {σ : Nat → Int → Int} {τ : Nat → Int → Int64} {t : Nat} {x y : Int} (hx : Fst σ τ t x) (hy : Fst σ τ t y) (h0 : 0 ≤ x ∧ 0 ≤ y) (h : LkT σ τ t x y) : x = y := by
  have w : x < y ∨ x = y ∨ y < x := by omega
  rcases w with w | w | w
  · exact absurd h (hy.2 x (by omega) hx.1)
  · exact w
  · exact absurd h.sy (hx.2 y (by omega) hy.1)
theorem TwI.skip {σ : Nat → Int → Int} {τ : Nat → Int → Int64} {t : Nat} {H M P : Int → Int} {cnt : Int} {N : Nat} (h : TwI σ τ t H M P cnt N) (g : ¬ σ (t + 2) N = 1) : TwI σ τ t H M P cnt (N + 1) := by
  obtain ⟨h1, h2, h3⟩ := h
  have nf : ¬ Fst σ τ t N := fun z => g z.1
  refine ⟨by rw [cntP_sf nf]; exact h1, fun x hx hf => ?_, fun y hy hr => ?_⟩
  · have : ¬ x = N := fun e => by rw [e] at hf; exact nf hf
    rw [Mem_f (fun z => g z.1)]
    exact h2 x (by omega) hf
  · have : ¬ y = N := fun e => by rw [e] at hr; exact g hr
    exact h3 y (by omega) hr
theorem TwI.old {σ : Nat → Int → Int} {τ : Nat → Int → Int64} {t : Nat} {H M P : Int → Int} {cnt : Int} {N : Nat} (h : TwI σ τ t H M P cnt N) (g : σ (t + 2) N = 1) {i : Int} (hi : 0 ≤ i ∧ i < cnt) (hl : LkT σ τ t (H i) N) : TwI σ τ t H (iu M i (M i + 1)) P cnt (N + 1) := by
  obtain ⟨z, z1, z2, z3, z4, z5, z6⟩ := h.hd hi
  obtain ⟨h1, h2, h3⟩ := h
  rw [z4] at hl
  have nf : ¬ Fst σ τ t N := fun w => w.2 z (by omega) z2.1 hl
  refine ⟨by rw [cntP_sf nf]; exact h1, fun x hx hf => ?_, fun y hy hr => ?_⟩
  · have hxN : ¬ x = N := fun e => by rw [e] at hf; exact nf hf
    have h2x := h2 x (by omega) hf
    refine ⟨h2x.1, ?_, h2x.2.2⟩
    by_cases e : x = z
    · subst e
      rw [z3, iu_s, z5, Mem_t g hl]
    · rw [Mem_f (fun w => e (by have := Fst.nl hf z2 (by omega) (w.2.tr hl.sy); omega)), iu_n]
      · exact h2x.2.1
      · intro w
        have w2 : x < z ∨ z < x := by omega
        rcases w2 with w2 | w2
        · have := cntP_lt (P := Fst σ τ t) w2 hf; omega
        · have := cntP_lt (P := Fst σ τ t) w2 z2; omega
  · by_cases e : y = N
    · subst e; exact ⟨z, by omega, z2, hl⟩
    · exact h3 y (by omega) hr
theorem TwI.new {σ : Nat → Int → Int} {τ : Nat → Int → Int64} {t : Nat} {H M P : Int → Int} {cnt : Int} {N : Nat} (h : TwI σ τ t H M P cnt N) (g : σ (t + 2) N = 1) (hl : ∀ i, 0 ≤ i ∧ i < cnt → ¬ LkT σ τ t (H i) N) : TwI σ τ t (iu H cnt N) (iu M cnt 1) (iu P cnt (l2iZ (prZ σ τ t N ^^^ ushrL (prZ σ τ t N) 32))) (cnt + 1) (N + 1) := by
  obtain ⟨h1, h2, h3⟩ := h
  have nol : ∀ x : Nat, x < N → Fst σ τ t x → ¬ LkT σ τ t x N := by
    intro x hx hf hh
    have hr : 0 ≤ cntP (Fst σ τ t) x := cntP_R.1
    have := cntP_lt (P := Fst σ τ t) hx hf
    refine hl (cntP (Fst σ τ t) x) (by omega) ?_
    rw [(h2 x hx hf).1]
    exact hh
  have yf : Fst σ τ t N := ⟨g, fun y hy hr hh => by
    obtain ⟨x, x1, x2, x3⟩ := h3 y.toNat (by omega) (by rw [show ((y.toNat : Nat) : Int) = y by omega]; exact hr)
    rw [show ((y.toNat : Nat) : Int) = y by omega] at x3
    exact nol x (by omega) x2 (x3.tr hh)⟩
  have m1 : Mem σ τ t N (N + 1) = 1 := by
    rw [Mem_t g LkT.rf]
    have : Mem σ τ t N N = 0 := cntP_0 _ (fun y hy w => yf.2 y (by omega) w.1 w.2.sy)
    omega
  refine ⟨by rw [cntP_st yf, h1], fun x hx hf => ?_, fun y hy hr => ?_⟩
  · by_cases e : x = N
    · subst e
      rw [← h1, iu_s, iu_s, iu_s, m1]
      exact ⟨rfl, rfl, rfl⟩
    · have hxN : x < N := by omega
      have hc := cntP_lt (P := Fst σ τ t) hxN hf
      rw [iu_n (by omega), iu_n (by omega), iu_n (by omega), Mem_f (fun w => nol x hxN hf w.2)]
      exact h2 x hxN hf
  · by_cases e : y = N
    · subst e; exact ⟨y, by omega, yf, LkT.rf⟩
    · exact h3 y (by omega) hr
def TF_Twins_size (o : Nat) (sz sl : Nat) (lay : Nat → Nat × Int) (ρ : Nat → Int → Nat) (σ : Nat → Int → Int) (τ : Nat → Int → Int64) (k : Option AV → Mm → Prop) : Prop := k (some (vI (σ o 3))) (sz, sl, lay, ρ, σ, τ)
def T_Twins_size : Tr := mkT 9 fun o as M k => as = [] ∧ TF_Twins_size o M.1 M.2.1 M.2.2.1 M.2.2.2.1 M.2.2.2.2.1 M.2.2.2.2.2 k
theorem T_Twins_size_e {o : Nat} {sz sl : Nat} {lay : Nat → Nat × Int} {ρ : Nat → Int → Nat} {σ : Nat → Int → Int} {τ : Nat → Int → Int64} {k : Option AV → Mm → Prop} : T_Twins_size [vR o] (sz, sl, lay, ρ, σ, τ) k = (lay o = (19, 0) ∧ TF_Twins_size o sz sl lay ρ σ τ k) := by simp [T_Twins_size, mkT_e, pI_e, pR_e, pL_e]
theorem T_Twins_size_r (as : List AV) (M : Mm) (k : Option AV → Mm → Prop) (h : T_Twins_size as M k) : ∃ b As, as = vR b :: As ∧ M.2.2.1 b = (10 + 9, 0) := by
  obtain ⟨b, As, h1, h2, -⟩ := mkT_r h
  exact ⟨b, As, h1, h2⟩
def tb_Twins_size : List (Nat × Option (List Nat) × Instr × List Nat) := [(0, none, .aload_n 0, []), (1, none, .getfield 21, []), (4, none, .ireturn, [])]
def P_Twins_size : Nat → Option (List Nat) × Instr × List Nat := plk tb_Twins_size
theorem r_Twins_size_0 : P_Twins_size 0 = (none, .aload_n 0, []) := by decide +kernel
theorem r_Twins_size_1 : P_Twins_size 1 = (none, .getfield 21, []) := by decide +kernel
theorem r_Twins_size_4 : P_Twins_size 4 = (none, .ireturn, []) := by decide +kernel
def E_Twins_size : List (Nat × Ent) := []
def X_Twins_size : Cx := (llk (0, 0, 9) ftX9, llk 99 ntX9, llk none kcX9, llk none klX9, llk dEnt E_Twins_size, 0, 0, false)
theorem xok_Twins_size : Xok RX9 X_Twins_size := xok_of ftX9_ok ntX9_ok kcX9_ok klX9_ok (E := E_Twins_size) (fun _ h => absurd h List.not_mem_nil)
theorem xf_Twins_size_21 : xfl X_Twins_size 21 = (9, 3, 0) := by decide +kernel
theorem xd_Twins_size : xd X_Twins_size = 0 := rfl
theorem xrb_Twins_size : xrb X_Twins_size = 0 := rfl
theorem xin_Twins_size : xin X_Twins_size = false := rfl
set_option maxHeartbeats 4000000 in
set_option maxRecDepth 100000 in
theorem S_Twins_size : Snd yX9_size cX9_size 1 (some .int) T_Twins_size 0 0 0 := by
  refine snd_of (X := X_Twins_size) (P := P_Twins_size) (tb := tb_Twins_size) (own := RX9) (by decide) rfl rfl (by decide +kernel) xok_Twins_size rfl rk0 (fun h => by first | rfl | cases h) ?_
  intro as M k has hM hT0
  obtain ⟨sz, sl, lay, ρ, σ, τ⟩ := M
  obtain ⟨o, as1, e, hlo, hT1⟩ := mkT_r hT0
  clear hT0
  subst e
  obtain ⟨e, hT⟩ := hT1
  subst e
  replace hlo : lay o = (19, 0) := hlo
  clear has
  replace hM : ∀ a i, -2147483648 ≤ σ a i ∧ σ a i ≤ 2147483647 := hM
  replace hT : TF_Twins_size o sz sl lay ρ σ τ k := hT
  unfold TF_Twins_size at hT
  refine ⟨Nat.le_of_ble_eq_true rfl, fun _ _ _ => False, fun _ _ _ => 0, 11, ?_, fun _ _ _ _ _ _ h => h.elim⟩
  unfold wps
  simp only [si_iload_n0, si_iload_n1, si_iload_n2, si_iload_n3, si_iload, si_lload_n0, si_lload_n1, si_lload_n2, si_lload_n3, si_lload, si_aload_n0, si_aload_n1, si_aload_n2, si_aload_n3, si_aload, si_istore_n0, si_istore_n1, si_istore_n2, si_istore_n3, si_istore, si_astore_n0, si_astore_n1, si_astore_n2, si_astore_n3, si_astore, si_lstore_n0, si_lstore_n1, si_lstore_n2, si_lstore_n3, si_lstore, si_iconst, si_bipush, si_sipush, si_ldc, si_ldc2_w, si_lconst0, si_lconst1, si_aconst_null, si_iinc, si_dup, si_dup2, si_iadd, si_isub, si_imul, si_idiv, si_irem, si_iand, si_ior, si_ishl, si_ishr, si_ladd, si_lmul, si_lor, si_lxor, si_lshl, si_lushr, si_lcmp, si_i2b, si_i2l, si_l2i, si_icmp_eq, si_icmp_ne, si_icmp_lt, si_icmp_ge, si_icmp_gt, si_icmp_le, si_if_eq, si_if_ne, si_if_lt, si_if_ge, si_if_gt, si_if_le, si_ifnull, si_ifnonnull, si_goto, si_tableswitch, si_lookupswitch, si_getfield, si_putfield, si_getstatic, si_iaload, si_baload, si_laload, si_aaload, si_iastore, si_bastore, si_lastore, si_aastore, si_arraylength, si_new, si_newarray, si_anewarray, si_invokevirtual, si_invokespecial, si_invokestatic, si_ireturn, si_lreturn, si_areturn, si_return_, pI_e, pL_e, pR_e, pA_r, pA_n, pN_n, pN_r, oI_e, oL_e, oA_r, oA_n, lget_e, lrm1_0, lrm2_0, lrm1_i, lrm1_r, lrm1_n, lrm1_l, lrm2_i, lrm2_r, lrm2_n, lrm2_l, popN_0, popN_s, acat_i, acat_l, acat_r, acat_n, stw_0, stw_s, psh_s, psh_n, wgf_r, wgf_i, wgf_b, wgf_n, wgf_m, wpf_i, wpf_r, wpf_b, wnew_e, callE_e, rbk_0, rbk_1, tsw_0, tsw_s, lsw_0, lsw_s, wp_s, wq_t, wq_f, oV_e, pick_0, pick_s, oZ_e, oY_e, r_Twins_size_0, r_Twins_size_1, r_Twins_size_4, xf_Twins_size_21, xd_Twins_size, xrb_Twins_size, xin_Twins_size, Nat.reduceAdd, Nat.reduceMul, Nat.reduceEqDiff, reduceIte, Int.reduceNeg, Int.reduceLE, Int.reduceLT, Int.reduceAdd, Int.reduceSub, Int.reduceToNat, true_and, and_true, inR_e, Nat.reduceLT, Nat.reduceLeDiff, reduceCtorEq, Nat.add_zero, Nat.zero_add, or_false, false_or, or_true, true_or, not_true_eq_false, not_false_eq_true, Classical.not_not, Nat.add_eq_zero_iff, and_false, false_and, Int.reduceEq, List.mem_cons, List.not_mem_nil, forall_eq_or_imp, forall_eq, false_implies, implies_true, forall_const, aargs_0, aargs_i, aargs_r, aargs_l, aargs_n, nfT_e, eq_self, and_self, Nat.le_refl, fu_s, fu_fu, iu_iu, iu_s, fu_am, fu_a0, fu_0a, iu_l, Nat.reduceBEq, Int.reduceBEq, T_objInit_e]
  exact ⟨hlo, hT⟩
theorem co_X9_168 : CallOK RX9 (.invokevirtual 42) (2, 3, 0, 0, T_Things_printOf) := call_V S_Things_printOf (by decide) (ci := 7) rfl (by decide +kernel) (by decide +kernel) (by decide +kernel) (by decide +kernel) (by decide +kernel) (by decide +kernel) T_Things_printOf_r
theorem co_X9_184 : CallOK RX9 (.invokevirtual 46) (4, 1, 0, 0, T_Things_sameSort) := call_V S_Things_sameSort (by decide) (ci := 7) rfl (by decide +kernel) (by decide +kernel) (by decide +kernel) (by decide +kernel) (by decide +kernel) (by decide +kernel) T_Things_sameSort_r
theorem co_X9_200 : CallOK RX9 (.invokevirtual 50) (4, 3, 0, 0, T_Things_sameValues) := call_V S_Things_sameValues (by decide) (ci := 7) rfl (by decide +kernel) (by decide +kernel) (by decide +kernel) (by decide +kernel) (by decide +kernel) (by decide +kernel) T_Things_sameValues_r
def TF_Twins_join (o : Nat) (t : Nat) (x : Int) (sz sl : Nat) (lay : Nat → Nat × Int) (ρ : Nat → Int → Nat) (σ : Nat → Int → Int) (τ : Nat → Int → Int64) (k : Option AV → Mm → Prop) : Prop := LTwins lay ρ o ∧ LThings lay ρ t ∧ (0 ≤ σ t 12 ∧ σ t 12 ≤ 600) ∧ (t + 13 ≤ o) ∧ (∀ i, 0 ≤ i → i ≤ σ t 12 → 0 ≤ σ (t + 8) i ∧ σ (t + 8) i ≤ 8000) ∧ (∀ i, 0 ≤ i ∧ i < σ t 12 → 0 ≤ σ (t + 8) (i + 1) - σ (t + 8) i) ∧ (0 ≤ x ∧ x < σ t 12) ∧ (0 ≤ σ o 3 ∧ σ o 3 < 600) ∧ (∀ i, 0 ≤ i ∧ i < σ o 3 → (0 ≤ σ (o + 1) i ∧ σ (o + 1) i < σ t 12) ∧ (0 ≤ σ (o + 2) i ∧ σ (o + 2) i ≤ 1000) ∧ σ (o + 3) i = l2iZ (prZ σ τ t (σ (o + 1) i) ^^^ ushrL (prZ σ τ t (σ (o + 1) i)) 32)) ∧ (∀ i, 0 ≤ i ∧ i < σ o 3 → LkT σ τ t (σ (o + 1) i) x → k none (sz, sl, lay, ρ, fu σ (o + 2) (iu (σ (o + 2)) i (σ (o + 2) i + 1)), τ)) ∧ ((∀ i, 0 ≤ i ∧ i < σ o 3 → ¬ LkT σ τ t (σ (o + 1) i) x) → k none (sz, sl, lay, ρ, fu (fu (fu (fu σ (o + 1) (iu (σ (o + 1)) (σ o 3) x)) (o + 2) (iu (σ (o + 2)) (σ o 3) 1)) (o + 3) (iu (σ (o + 3)) (σ o 3) (l2iZ (prZ σ τ t x ^^^ ushrL (prZ σ τ t x) 32)))) o (iu (σ o) 3 (σ o 3 + 1)), τ))
def T_Twins_join : Tr := mkT 9 fun o as M k => pR as fun t as => pI as fun x as => as = [] ∧ TF_Twins_join o t x M.1 M.2.1 M.2.2.1 M.2.2.2.1 M.2.2.2.2.1 M.2.2.2.2.2 k
theorem T_Twins_join_e {o : Nat} {t : Nat} {x : Int} {sz sl : Nat} {lay : Nat → Nat × Int} {ρ : Nat → Int → Nat} {σ : Nat → Int → Int} {τ : Nat → Int → Int64} {k : Option AV → Mm → Prop} : T_Twins_join [vR o, vR t, vI x] (sz, sl, lay, ρ, σ, τ) k = (lay o = (19, 0) ∧ TF_Twins_join o t x sz sl lay ρ σ τ k) := by simp [T_Twins_join, mkT_e, pI_e, pR_e, pL_e]
theorem T_Twins_join_r (as : List AV) (M : Mm) (k : Option AV → Mm → Prop) (h : T_Twins_join as M k) : ∃ b As, as = vR b :: As ∧ M.2.2.1 b = (10 + 9, 0) := by
  obtain ⟨b, As, h1, h2, -⟩ := mkT_r h
  exact ⟨b, As, h1, h2⟩
def tb_Twins_join : List (Nat × Option (List Nat) × Instr × List Nat) := [(0, none, .aload_n 1, []), (1, none, .iload_n 2, []), (2, none, .invokevirtual 42, []), (5, none, .istore_n 3, []), (6, none, .iconst 0, []), (7, none, .istore 4, []), (9, some [0, 1, 2, 3, 4], .iload 4, []), (11, none, .aload_n 0, []), (12, none, .getfield 21, []), (15, none, .if_icmp .ge 64, [79]), (18, none, .aload_n 0, []), (19, none, .getfield 18, []), (22, none, .iload 4, []), (24, none, .iaload, []), (25, none, .iload_n 3, []), (26, none, .if_icmp .ne 47, [73]), (29, none, .aload_n 1, []), (30, none, .aload_n 0, []), (31, none, .getfield 9, []), (34, none, .iload 4, []), (36, none, .iaload, []), (37, none, .aload_n 1, []), (38, none, .iload_n 2, []), (39, none, .invokevirtual 46, []), (42, none, .ifCond .eq 31, [73]), (45, none, .aload_n 1, []), (46, none, .aload_n 0, []), (47, none, .getfield 9, []), (50, none, .iload 4, []), (52, none, .iaload, []), (53, none, .aload_n 1, []), (54, none, .iload_n 2, []), (55, none, .invokevirtual 50, []), (58, none, .ifCond .eq 15, [73]), (61, none, .aload_n 0, []), (62, none, .getfield 15, []), (65, none, .iload 4, []), (67, none, .dup2, []), (68, none, .iaload, []), (69, none, .iconst 1, []), (70, none, .iadd, []), (71, none, .iastore, []), (72, none, .return_, []), (73, none, .iinc 4 1, []), (76, none, .goto (-67), [9]), (79, none, .aload_n 0, []), (80, none, .getfield 21, []), (83, none, .sipush 600, []), (86, none, .if_icmp .ge 43, [129]), (89, none, .aload_n 0, []), (90, none, .getfield 9, []), (93, none, .aload_n 0, []), (94, none, .getfield 21, []), (97, none, .iload_n 2, []), (98, none, .iastore, []), (99, none, .aload_n 0, []), (100, none, .getfield 15, []), (103, none, .aload_n 0, []), (104, none, .getfield 21, []), (107, none, .iconst 1, []), (108, none, .iastore, []), (109, none, .aload_n 0, []), (110, none, .getfield 18, []), (113, none, .aload_n 0, []), (114, none, .getfield 21, []), (117, none, .iload_n 3, []), (118, none, .iastore, []), (119, none, .aload_n 0, []), (120, none, .dup, []), (121, none, .getfield 21, []), (124, none, .iconst 1, []), (125, none, .iadd, []), (126, none, .putfield 21, []), (129, none, .return_, [])]
def P_Twins_join : Nat → Option (List Nat) × Instr × List Nat := plk tb_Twins_join
theorem r_Twins_join_0 : P_Twins_join 0 = (none, .aload_n 1, []) := by decide +kernel
theorem r_Twins_join_1 : P_Twins_join 1 = (none, .iload_n 2, []) := by decide +kernel
theorem r_Twins_join_2 : P_Twins_join 2 = (none, .invokevirtual 42, []) := by decide +kernel
theorem r_Twins_join_5 : P_Twins_join 5 = (none, .istore_n 3, []) := by decide +kernel
theorem r_Twins_join_6 : P_Twins_join 6 = (none, .iconst 0, []) := by decide +kernel
theorem r_Twins_join_7 : P_Twins_join 7 = (none, .istore 4, []) := by decide +kernel
theorem r_Twins_join_9 : P_Twins_join 9 = (some [0, 1, 2, 3, 4], .iload 4, []) := by decide +kernel
theorem r_Twins_join_11 : P_Twins_join 11 = (none, .aload_n 0, []) := by decide +kernel
theorem r_Twins_join_12 : P_Twins_join 12 = (none, .getfield 21, []) := by decide +kernel
theorem r_Twins_join_15 : P_Twins_join 15 = (none, .if_icmp .ge 64, [79]) := by decide +kernel
theorem r_Twins_join_18 : P_Twins_join 18 = (none, .aload_n 0, []) := by decide +kernel
theorem r_Twins_join_19 : P_Twins_join 19 = (none, .getfield 18, []) := by decide +kernel
theorem r_Twins_join_22 : P_Twins_join 22 = (none, .iload 4, []) := by decide +kernel
theorem r_Twins_join_24 : P_Twins_join 24 = (none, .iaload, []) := by decide +kernel
theorem r_Twins_join_25 : P_Twins_join 25 = (none, .iload_n 3, []) := by decide +kernel
theorem r_Twins_join_26 : P_Twins_join 26 = (none, .if_icmp .ne 47, [73]) := by decide +kernel
theorem r_Twins_join_29 : P_Twins_join 29 = (none, .aload_n 1, []) := by decide +kernel
theorem r_Twins_join_30 : P_Twins_join 30 = (none, .aload_n 0, []) := by decide +kernel
theorem r_Twins_join_31 : P_Twins_join 31 = (none, .getfield 9, []) := by decide +kernel
theorem r_Twins_join_34 : P_Twins_join 34 = (none, .iload 4, []) := by decide +kernel
theorem r_Twins_join_36 : P_Twins_join 36 = (none, .iaload, []) := by decide +kernel
theorem r_Twins_join_37 : P_Twins_join 37 = (none, .aload_n 1, []) := by decide +kernel
theorem r_Twins_join_38 : P_Twins_join 38 = (none, .iload_n 2, []) := by decide +kernel
theorem r_Twins_join_39 : P_Twins_join 39 = (none, .invokevirtual 46, []) := by decide +kernel
theorem r_Twins_join_42 : P_Twins_join 42 = (none, .ifCond .eq 31, [73]) := by decide +kernel
theorem r_Twins_join_45 : P_Twins_join 45 = (none, .aload_n 1, []) := by decide +kernel
theorem r_Twins_join_46 : P_Twins_join 46 = (none, .aload_n 0, []) := by decide +kernel
theorem r_Twins_join_47 : P_Twins_join 47 = (none, .getfield 9, []) := by decide +kernel
theorem r_Twins_join_50 : P_Twins_join 50 = (none, .iload 4, []) := by decide +kernel
theorem r_Twins_join_52 : P_Twins_join 52 = (none, .iaload, []) := by decide +kernel
theorem r_Twins_join_53 : P_Twins_join 53 = (none, .aload_n 1, []) := by decide +kernel
theorem r_Twins_join_54 : P_Twins_join 54 = (none, .iload_n 2, []) := by decide +kernel
theorem r_Twins_join_55 : P_Twins_join 55 = (none, .invokevirtual 50, []) := by decide +kernel
theorem r_Twins_join_58 : P_Twins_join 58 = (none, .ifCond .eq 15, [73]) := by decide +kernel
theorem r_Twins_join_61 : P_Twins_join 61 = (none, .aload_n 0, []) := by decide +kernel
theorem r_Twins_join_62 : P_Twins_join 62 = (none, .getfield 15, []) := by decide +kernel
theorem r_Twins_join_65 : P_Twins_join 65 = (none, .iload 4, []) := by decide +kernel
theorem r_Twins_join_67 : P_Twins_join 67 = (none, .dup2, []) := by decide +kernel
theorem r_Twins_join_68 : P_Twins_join 68 = (none, .iaload, []) := by decide +kernel
theorem r_Twins_join_69 : P_Twins_join 69 = (none, .iconst 1, []) := by decide +kernel
theorem r_Twins_join_70 : P_Twins_join 70 = (none, .iadd, []) := by decide +kernel
theorem r_Twins_join_71 : P_Twins_join 71 = (none, .iastore, []) := by decide +kernel
theorem r_Twins_join_72 : P_Twins_join 72 = (none, .return_, []) := by decide +kernel
theorem r_Twins_join_73 : P_Twins_join 73 = (none, .iinc 4 1, []) := by decide +kernel
theorem r_Twins_join_76 : P_Twins_join 76 = (none, .goto (-67), [9]) := by decide +kernel
theorem r_Twins_join_79 : P_Twins_join 79 = (none, .aload_n 0, []) := by decide +kernel
theorem r_Twins_join_80 : P_Twins_join 80 = (none, .getfield 21, []) := by decide +kernel
theorem r_Twins_join_83 : P_Twins_join 83 = (none, .sipush 600, []) := by decide +kernel
theorem r_Twins_join_86 : P_Twins_join 86 = (none, .if_icmp .ge 43, [129]) := by decide +kernel
theorem r_Twins_join_89 : P_Twins_join 89 = (none, .aload_n 0, []) := by decide +kernel
theorem r_Twins_join_90 : P_Twins_join 90 = (none, .getfield 9, []) := by decide +kernel
theorem r_Twins_join_93 : P_Twins_join 93 = (none, .aload_n 0, []) := by decide +kernel
theorem r_Twins_join_94 : P_Twins_join 94 = (none, .getfield 21, []) := by decide +kernel
theorem r_Twins_join_97 : P_Twins_join 97 = (none, .iload_n 2, []) := by decide +kernel
theorem r_Twins_join_98 : P_Twins_join 98 = (none, .iastore, []) := by decide +kernel
theorem r_Twins_join_99 : P_Twins_join 99 = (none, .aload_n 0, []) := by decide +kernel
theorem r_Twins_join_100 : P_Twins_join 100 = (none, .getfield 15, []) := by decide +kernel
theorem r_Twins_join_103 : P_Twins_join 103 = (none, .aload_n 0, []) := by decide +kernel
theorem r_Twins_join_104 : P_Twins_join 104 = (none, .getfield 21, []) := by decide +kernel
theorem r_Twins_join_107 : P_Twins_join 107 = (none, .iconst 1, []) := by decide +kernel
theorem r_Twins_join_108 : P_Twins_join 108 = (none, .iastore, []) := by decide +kernel
theorem r_Twins_join_109 : P_Twins_join 109 = (none, .aload_n 0, []) := by decide +kernel
theorem r_Twins_join_110 : P_Twins_join 110 = (none, .getfield 18, []) := by decide +kernel
theorem r_Twins_join_113 : P_Twins_join 113 = (none, .aload_n 0, []) := by decide +kernel
theorem r_Twins_join_114 : P_Twins_join 114 = (none, .getfield 21, []) := by decide +kernel
theorem r_Twins_join_117 : P_Twins_join 117 = (none, .iload_n 3, []) := by decide +kernel
theorem r_Twins_join_118 : P_Twins_join 118 = (none, .iastore, []) := by decide +kernel
theorem r_Twins_join_119 : P_Twins_join 119 = (none, .aload_n 0, []) := by decide +kernel
theorem r_Twins_join_120 : P_Twins_join 120 = (none, .dup, []) := by decide +kernel
theorem r_Twins_join_121 : P_Twins_join 121 = (none, .getfield 21, []) := by decide +kernel
theorem r_Twins_join_124 : P_Twins_join 124 = (none, .iconst 1, []) := by decide +kernel
theorem r_Twins_join_125 : P_Twins_join 125 = (none, .iadd, []) := by decide +kernel
theorem r_Twins_join_126 : P_Twins_join 126 = (none, .putfield 21, []) := by decide +kernel
theorem r_Twins_join_129 : P_Twins_join 129 = (none, .return_, []) := by decide +kernel
def E_Twins_join : List (Nat × Ent) := [(168, (2, 3, 0, 0, T_Things_printOf)), (184, (4, 1, 0, 0, T_Things_sameSort)), (200, (4, 3, 0, 0, T_Things_sameValues))]
def X_Twins_join : Cx := (llk (0, 0, 9) ftX9, llk 99 ntX9, llk none kcX9, llk none klX9, llk dEnt E_Twins_join, 4, 3, false)
theorem xok_Twins_join : Xok RX9 X_Twins_join := xok_of ftX9_ok ntX9_ok kcX9_ok klX9_ok (E := E_Twins_join) (List.forall_mem_cons.mpr ⟨co_X9_168, List.forall_mem_cons.mpr ⟨co_X9_184, List.forall_mem_cons.mpr ⟨co_X9_200, fun _ h => absurd h List.not_mem_nil⟩⟩⟩)
theorem xf_Twins_join_9 : xfl X_Twins_join 9 = (9, 0, 1) := by decide +kernel
theorem xf_Twins_join_15 : xfl X_Twins_join 15 = (9, 1, 1) := by decide +kernel
theorem xf_Twins_join_18 : xfl X_Twins_join 18 = (9, 2, 1) := by decide +kernel
theorem xf_Twins_join_21 : xfl X_Twins_join 21 = (9, 3, 0) := by decide +kernel
theorem xe_Twins_join_168 : xE X_Twins_join (4 * 42 + 0) = (2, 3, 0, 0, T_Things_printOf) := rfl
theorem xe_Twins_join_184 : xE X_Twins_join (4 * 46 + 0) = (4, 1, 0, 0, T_Things_sameSort) := rfl
theorem xe_Twins_join_200 : xE X_Twins_join (4 * 50 + 0) = (4, 3, 0, 0, T_Things_sameValues) := rfl
theorem xd_Twins_join : xd X_Twins_join = 4 := rfl
theorem xrb_Twins_join : xrb X_Twins_join = 3 := rfl
theorem xin_Twins_join : xin X_Twins_join = false := rfl
set_option maxHeartbeats 4000000 in
set_option maxRecDepth 100000 in
theorem S_Twins_join : Snd yX9_join cX9_join 5 none T_Twins_join 4 0 0 := by
  refine snd_of (X := X_Twins_join) (P := P_Twins_join) (tb := tb_Twins_join) (own := RX9) (by decide) rfl rfl (by decide +kernel) xok_Twins_join rfl rk3 (fun h => by first | rfl | cases h) ?_
  intro as M k has hM hT0
  obtain ⟨sz, sl, lay, ρ, σ, τ⟩ := M
  obtain ⟨o, as1, e, hlo, hT1⟩ := mkT_r hT0
  clear hT0
  subst e
  obtain ⟨t, as2, e, hT2⟩ := pR_x hT1
  clear hT1
  subst e
  obtain ⟨x, as3, e, hT3⟩ := pI_x hT2
  clear hT2
  subst e
  obtain ⟨e, hT⟩ := hT3
  subst e
  replace hlo : lay o = (19, 0) := hlo
  have r_x : -2147483648 ≤ x ∧ x ≤ 2147483647 := has (vI x) (by simp)
  clear has
  replace hM : ∀ a i, -2147483648 ≤ σ a i ∧ σ a i ≤ 2147483647 := hM
  replace hT : TF_Twins_join o t x sz sl lay ρ σ τ k := hT
  unfold TF_Twins_join at hT
  obtain ⟨hW, hL, hn, hto, hv, hvn, hx, hc, hh, h1, h0⟩ := hT
  obtain ⟨J, hJd⟩ : ∃ J : Nat → List AV → Mm → Prop, J = (fun c vs M1 => c = 9 ∧ ∃ i : Int, (0 ≤ i ∧ i ≤ σ o 3) ∧ (∀ j, 0 ≤ j ∧ j < i → ¬ LkT σ τ t (σ (o + 1) j) x) ∧ vs = [vR o, vR t, vI x, vI (l2iZ (prZ σ τ t x ^^^ ushrL (prZ σ τ t x) 32)), vI i] ∧ M1 = (sz, sl, lay, ρ, σ, τ)) := ⟨_, rfl⟩
  obtain ⟨μ, hμ⟩ : ∃ μ : Nat → List AV → Mm → Nat, μ = (fun _ vs _ => (600 - gI (vs.getD 4 vN)).toNat) := ⟨_, rfl⟩
  refine ⟨Nat.le_of_ble_eq_true rfl, J, μ, 82, ?_, ?_⟩
  · obtain ⟨wh, wp0, wp1, wp2, wq0, wq1, wq2⟩ := (show LTwins lay ρ _ from hW)
    obtain ⟨lh, lp0, lp1, lp2, lp3, lp4, lp5, lp6, lp7, lp8, lp9, lp10, lp11, lq0, lq1, lq2, lq3, lq4, lq5, lq6, lq7, lq8, lq9, lq10, lq11⟩ := (show LThings lay ρ _ from hL)
    unfold wps
    simp only [si_iload_n0, si_iload_n1, si_iload_n2, si_iload_n3, si_iload, si_lload_n0, si_lload_n1, si_lload_n2, si_lload_n3, si_lload, si_aload_n0, si_aload_n1, si_aload_n2, si_aload_n3, si_aload, si_istore_n0, si_istore_n1, si_istore_n2, si_istore_n3, si_istore, si_astore_n0, si_astore_n1, si_astore_n2, si_astore_n3, si_astore, si_lstore_n0, si_lstore_n1, si_lstore_n2, si_lstore_n3, si_lstore, si_iconst, si_bipush, si_sipush, si_ldc, si_ldc2_w, si_lconst0, si_lconst1, si_aconst_null, si_iinc, si_dup, si_dup2, si_iadd, si_isub, si_imul, si_idiv, si_irem, si_iand, si_ior, si_ishl, si_ishr, si_ladd, si_lmul, si_lor, si_lxor, si_lshl, si_lushr, si_lcmp, si_i2b, si_i2l, si_l2i, si_icmp_eq, si_icmp_ne, si_icmp_lt, si_icmp_ge, si_icmp_gt, si_icmp_le, si_if_eq, si_if_ne, si_if_lt, si_if_ge, si_if_gt, si_if_le, si_ifnull, si_ifnonnull, si_goto, si_tableswitch, si_lookupswitch, si_getfield, si_putfield, si_getstatic, si_iaload, si_baload, si_laload, si_aaload, si_iastore, si_bastore, si_lastore, si_aastore, si_arraylength, si_new, si_newarray, si_anewarray, si_invokevirtual, si_invokespecial, si_invokestatic, si_ireturn, si_lreturn, si_areturn, si_return_, pI_e, pL_e, pR_e, pA_r, pA_n, pN_n, pN_r, oI_e, oL_e, oA_r, oA_n, lget_e, lrm1_0, lrm2_0, lrm1_i, lrm1_r, lrm1_n, lrm1_l, lrm2_i, lrm2_r, lrm2_n, lrm2_l, popN_0, popN_s, acat_i, acat_l, acat_r, acat_n, stw_0, stw_s, psh_s, psh_n, wgf_r, wgf_i, wgf_b, wgf_n, wgf_m, wpf_i, wpf_r, wpf_b, wnew_e, callE_e, rbk_0, rbk_1, tsw_0, tsw_s, lsw_0, lsw_s, wp_s, wq_t, wq_f, oV_e, pick_0, pick_s, oZ_e, oY_e, r_Twins_join_0, r_Twins_join_1, r_Twins_join_2, r_Twins_join_5, r_Twins_join_6, r_Twins_join_7, r_Twins_join_9, r_Twins_join_11, r_Twins_join_12, r_Twins_join_15, r_Twins_join_18, r_Twins_join_19, r_Twins_join_22, r_Twins_join_24, r_Twins_join_25, r_Twins_join_26, r_Twins_join_29, r_Twins_join_30, r_Twins_join_31, r_Twins_join_34, r_Twins_join_36, r_Twins_join_37, r_Twins_join_38, r_Twins_join_39, r_Twins_join_42, r_Twins_join_45, r_Twins_join_46, r_Twins_join_47, r_Twins_join_50, r_Twins_join_52, r_Twins_join_53, r_Twins_join_54, r_Twins_join_55, r_Twins_join_58, r_Twins_join_61, r_Twins_join_62, r_Twins_join_65, r_Twins_join_67, r_Twins_join_68, r_Twins_join_69, r_Twins_join_70, r_Twins_join_71, r_Twins_join_72, r_Twins_join_73, r_Twins_join_76, r_Twins_join_79, r_Twins_join_80, r_Twins_join_83, r_Twins_join_86, r_Twins_join_89, r_Twins_join_90, r_Twins_join_93, r_Twins_join_94, r_Twins_join_97, r_Twins_join_98, r_Twins_join_99, r_Twins_join_100, r_Twins_join_103, r_Twins_join_104, r_Twins_join_107, r_Twins_join_108, r_Twins_join_109, r_Twins_join_110, r_Twins_join_113, r_Twins_join_114, r_Twins_join_117, r_Twins_join_118, r_Twins_join_119, r_Twins_join_120, r_Twins_join_121, r_Twins_join_124, r_Twins_join_125, r_Twins_join_126, r_Twins_join_129, xf_Twins_join_9, xf_Twins_join_15, xf_Twins_join_18, xf_Twins_join_21, xe_Twins_join_168, xe_Twins_join_184, xe_Twins_join_200, xd_Twins_join, xrb_Twins_join, xin_Twins_join, T_Things_printOf_e, TF_Things_printOf, T_Things_sameSort_e, TF_Things_sameSort, T_Things_sameValues_e, TF_Things_sameValues, fu_f1, fu_f2, fu_f3, fu_f4, hto, wh, wp0, wp1, wp2, wq0, wq1, wq2, lh, lp0, lp1, lp2, lp3, lp4, lp5, lp6, lp7, lp8, lp9, lp10, lp11, lq0, lq1, lq2, lq3, lq4, lq5, lq6, lq7, lq8, lq9, lq10, lq11, Nat.reduceAdd, Nat.reduceMul, Nat.reduceEqDiff, reduceIte, Int.reduceNeg, Int.reduceLE, Int.reduceLT, Int.reduceAdd, Int.reduceSub, Int.reduceToNat, true_and, and_true, inR_e, Nat.reduceLT, Nat.reduceLeDiff, reduceCtorEq, Nat.add_zero, Nat.zero_add, or_false, false_or, or_true, true_or, not_true_eq_false, not_false_eq_true, Classical.not_not, Nat.add_eq_zero_iff, and_false, false_and, Int.reduceEq, List.mem_cons, List.not_mem_nil, forall_eq_or_imp, forall_eq, false_implies, implies_true, forall_const, aargs_0, aargs_i, aargs_r, aargs_l, aargs_n, nfT_e, eq_self, and_self, Nat.le_refl, fu_s, fu_fu, iu_iu, iu_s, fu_am, fu_a0, fu_0a, iu_l, Nat.reduceBEq, Int.reduceBEq, T_objInit_e]
    clear wp0 wp1 wp2 lp0 lp1 lp2 lp3 lp4 lp5 lp6 lp7 lp8 lp9 lp10 lp11
    have hv1 := hvn x hx
    refine ⟨hL, hn, hv, hx, hv1, ?_⟩
    rw [hJd]
    exact ⟨rfl, 0, by omega, fun j hj => by omega, rfl, rfl⟩
  · intro cp vs M1 hvs hM1 hlen hJ
    rw [hJd] at hJ
    obtain ⟨rfl, i, g1, g2, rfl, rfl⟩ := hJ
    (obtain ⟨wh, wp0, wp1, wp2, wq0, wq1, wq2⟩ := (show LTwins lay ρ _ from hW); obtain ⟨lh, lp0, lp1, lp2, lp3, lp4, lp5, lp6, lp7, lp8, lp9, lp10, lp11, lq0, lq1, lq2, lq3, lq4, lq5, lq6, lq7, lq8, lq9, lq10, lq11⟩ := (show LThings lay ρ _ from hL); unfold wps; simp only [Option.getD_some, List.zip_cons_cons, List.zip_nil_left, List.zip_nil_right, List.zip_nil_right, si_iload_n0, si_iload_n1, si_iload_n2, si_iload_n3, si_iload, si_lload_n0, si_lload_n1, si_lload_n2, si_lload_n3, si_lload, si_aload_n0, si_aload_n1, si_aload_n2, si_aload_n3, si_aload, si_istore_n0, si_istore_n1, si_istore_n2, si_istore_n3, si_istore, si_astore_n0, si_astore_n1, si_astore_n2, si_astore_n3, si_astore, si_lstore_n0, si_lstore_n1, si_lstore_n2, si_lstore_n3, si_lstore, si_iconst, si_bipush, si_sipush, si_ldc, si_ldc2_w, si_lconst0, si_lconst1, si_aconst_null, si_iinc, si_dup, si_dup2, si_iadd, si_isub, si_imul, si_idiv, si_irem, si_iand, si_ior, si_ishl, si_ishr, si_ladd, si_lmul, si_lor, si_lxor, si_lshl, si_lushr, si_lcmp, si_i2b, si_i2l, si_l2i, si_icmp_eq, si_icmp_ne, si_icmp_lt, si_icmp_ge, si_icmp_gt, si_icmp_le, si_if_eq, si_if_ne, si_if_lt, si_if_ge, si_if_gt, si_if_le, si_ifnull, si_ifnonnull, si_goto, si_tableswitch, si_lookupswitch, si_getfield, si_putfield, si_getstatic, si_iaload, si_baload, si_laload, si_aaload, si_iastore, si_bastore, si_lastore, si_aastore, si_arraylength, si_new, si_newarray, si_anewarray, si_invokevirtual, si_invokespecial, si_invokestatic, si_ireturn, si_lreturn, si_areturn, si_return_, pI_e, pL_e, pR_e, pA_r, pA_n, pN_n, pN_r, oI_e, oL_e, oA_r, oA_n, lget_e, lrm1_0, lrm2_0, lrm1_i, lrm1_r, lrm1_n, lrm1_l, lrm2_i, lrm2_r, lrm2_n, lrm2_l, popN_0, popN_s, acat_i, acat_l, acat_r, acat_n, stw_0, stw_s, psh_s, psh_n, wgf_r, wgf_i, wgf_b, wgf_n, wgf_m, wpf_i, wpf_r, wpf_b, wnew_e, callE_e, rbk_0, rbk_1, tsw_0, tsw_s, lsw_0, lsw_s, wp_s, wq_t, wq_f, oV_e, pick_0, pick_s, oZ_e, oY_e, r_Twins_join_0, r_Twins_join_1, r_Twins_join_2, r_Twins_join_5, r_Twins_join_6, r_Twins_join_7, r_Twins_join_9, r_Twins_join_11, r_Twins_join_12, r_Twins_join_15, r_Twins_join_18, r_Twins_join_19, r_Twins_join_22, r_Twins_join_24, r_Twins_join_25, r_Twins_join_26, r_Twins_join_29, r_Twins_join_30, r_Twins_join_31, r_Twins_join_34, r_Twins_join_36, r_Twins_join_37, r_Twins_join_38, r_Twins_join_39, r_Twins_join_42, r_Twins_join_45, r_Twins_join_46, r_Twins_join_47, r_Twins_join_50, r_Twins_join_52, r_Twins_join_53, r_Twins_join_54, r_Twins_join_55, r_Twins_join_58, r_Twins_join_61, r_Twins_join_62, r_Twins_join_65, r_Twins_join_67, r_Twins_join_68, r_Twins_join_69, r_Twins_join_70, r_Twins_join_71, r_Twins_join_72, r_Twins_join_73, r_Twins_join_76, r_Twins_join_79, r_Twins_join_80, r_Twins_join_83, r_Twins_join_86, r_Twins_join_89, r_Twins_join_90, r_Twins_join_93, r_Twins_join_94, r_Twins_join_97, r_Twins_join_98, r_Twins_join_99, r_Twins_join_100, r_Twins_join_103, r_Twins_join_104, r_Twins_join_107, r_Twins_join_108, r_Twins_join_109, r_Twins_join_110, r_Twins_join_113, r_Twins_join_114, r_Twins_join_117, r_Twins_join_118, r_Twins_join_119, r_Twins_join_120, r_Twins_join_121, r_Twins_join_124, r_Twins_join_125, r_Twins_join_126, r_Twins_join_129, xf_Twins_join_9, xf_Twins_join_15, xf_Twins_join_18, xf_Twins_join_21, xe_Twins_join_168, xe_Twins_join_184, xe_Twins_join_200, xd_Twins_join, xrb_Twins_join, xin_Twins_join, T_Things_printOf_e, TF_Things_printOf, T_Things_sameSort_e, TF_Things_sameSort, T_Things_sameValues_e, TF_Things_sameValues, fu_f1, fu_f2, fu_f3, fu_f4, hto, wh, wp0, wp1, wp2, wq0, wq1, wq2, lh, lp0, lp1, lp2, lp3, lp4, lp5, lp6, lp7, lp8, lp9, lp10, lp11, lq0, lq1, lq2, lq3, lq4, lq5, lq6, lq7, lq8, lq9, lq10, lq11, Nat.reduceAdd, Nat.reduceMul, Nat.reduceEqDiff, reduceIte, Int.reduceNeg, Int.reduceLE, Int.reduceLT, Int.reduceAdd, Int.reduceSub, Int.reduceToNat, true_and, and_true, inR_e, Nat.reduceLT, Nat.reduceLeDiff, reduceCtorEq, Nat.add_zero, Nat.zero_add, or_false, false_or, or_true, true_or, not_true_eq_false, not_false_eq_true, Classical.not_not, Nat.add_eq_zero_iff, and_false, false_and, Int.reduceEq, List.mem_cons, List.not_mem_nil, forall_eq_or_imp, forall_eq, false_implies, implies_true, forall_const, aargs_0, aargs_i, aargs_r, aargs_l, aargs_n, nfT_e, eq_self, and_self, Nat.le_refl, fu_s, fu_fu, iu_iu, iu_s, fu_am, fu_a0, fu_0a, iu_l, Nat.reduceBEq, Int.reduceBEq, T_objInit_e]; clear wp0 wp1 wp2 lp0 lp1 lp2 lp3 lp4 lp5 lp6 lp7 lp8 lp9 lp10 lp11)
    refine ⟨fun h => ⟨fun z => by omega, fun z => ⟨by omega, by omega, by omega, by omega, by omega, by omega, by omega, ?_⟩⟩, fun h => ?_⟩
    · exact h0 (fun j hj => g2 j (by omega))
    · obtain ⟨q1, q2, q3⟩ := hh i (by omega)
      have q4 := hvn _ q1
      have q5 := hvn _ hx
      have nx : ¬ LkT σ τ t (σ (o + 1) i) x → J 9 [vR o, vR t, vI x, vI (l2iZ (prZ σ τ t x ^^^ ushrL (prZ σ τ t x) 32)), vI (i + 1)] (sz, sl, lay, ρ, σ, τ) := by
        intro w
        rw [hJd]
        refine ⟨rfl, i + 1, by omega, fun j hj => ?_, rfl, rfl⟩
        by_cases e : j = i
        · rw [e]; exact w
        · exact g2 j (by omega)
      refine ⟨by omega, by omega, fun a => ⟨by omega, nx (fun w => a (by rw [q3, w.pr])), (by rw [hμ]; simp only [gI_e, List.getD_cons_succ, List.getD_cons_zero]; omega)⟩, fun a => ⟨by omega, by omega, hL, hn, hL, hn, fun b => ⟨by omega, by omega, hL, hn, hv, hL, hn, hv, q1, hx, ⟨q4, q5⟩, fun c => ⟨by omega, by omega, by omega, by omega, by omega, h1 i (by omega) ⟨b.2.2.2.2, c⟩⟩, fun c => ⟨by omega, nx (fun w => c w.2), (by rw [hμ]; simp only [gI_e, List.getD_cons_succ, List.getD_cons_zero]; omega)⟩⟩, fun b => ⟨by omega, nx (fun w => b ⟨q1.1, q1.2, hx.1, hx.2, w.1⟩), (by rw [hμ]; simp only [gI_e, List.getD_cons_succ, List.getD_cons_zero]; omega)⟩⟩⟩
def TF_Twins_dropLone (o : Nat) (sz sl : Nat) (lay : Nat → Nat × Int) (ρ : Nat → Int → Nat) (σ : Nat → Int → Int) (τ : Nat → Int → Int64) (k : Option AV → Mm → Prop) : Prop := LTwins lay ρ o ∧ (0 ≤ σ o 3 ∧ σ o 3 ≤ 600) ∧ (∀ σ2 : Nat → Int → Int, Fr σ σ2 o 3 → σ2 o 3 = cntP (fun i => 2 ≤ σ (o + 2) i) (σ o 3).toNat → (∀ i : Nat, i < σ o 3 → 2 ≤ σ (o + 2) i → σ2 (o + 1) (cntP (fun i => 2 ≤ σ (o + 2) i) i) = σ (o + 1) i ∧ σ2 (o + 2) (cntP (fun i => 2 ≤ σ (o + 2) i) i) = σ (o + 2) i) → k none (sz, sl, lay, ρ, σ2, τ))
def T_Twins_dropLone : Tr := mkT 9 fun o as M k => as = [] ∧ TF_Twins_dropLone o M.1 M.2.1 M.2.2.1 M.2.2.2.1 M.2.2.2.2.1 M.2.2.2.2.2 k
theorem T_Twins_dropLone_e {o : Nat} {sz sl : Nat} {lay : Nat → Nat × Int} {ρ : Nat → Int → Nat} {σ : Nat → Int → Int} {τ : Nat → Int → Int64} {k : Option AV → Mm → Prop} : T_Twins_dropLone [vR o] (sz, sl, lay, ρ, σ, τ) k = (lay o = (19, 0) ∧ TF_Twins_dropLone o sz sl lay ρ σ τ k) := by simp [T_Twins_dropLone, mkT_e, pI_e, pR_e, pL_e]
theorem T_Twins_dropLone_r (as : List AV) (M : Mm) (k : Option AV → Mm → Prop) (h : T_Twins_dropLone as M k) : ∃ b As, as = vR b :: As ∧ M.2.2.1 b = (10 + 9, 0) := by
  obtain ⟨b, As, h1, h2, -⟩ := mkT_r h
  exact ⟨b, As, h1, h2⟩
def tb_Twins_dropLone : List (Nat × Option (List Nat) × Instr × List Nat) := [(0, none, .iconst 0, []), (1, none, .istore_n 1, []), (2, none, .iconst 0, []), (3, none, .istore_n 2, []), (4, some [0, 1, 2], .iload_n 2, []), (5, none, .aload_n 0, []), (6, none, .getfield 21, []), (9, none, .if_icmp .ge 46, [55]), (12, none, .aload_n 0, []), (13, none, .getfield 15, []), (16, none, .iload_n 2, []), (17, none, .iaload, []), (18, none, .iconst 2, []), (19, none, .if_icmp .lt 30, [49]), (22, none, .aload_n 0, []), (23, none, .getfield 9, []), (26, none, .iload_n 1, []), (27, none, .aload_n 0, []), (28, none, .getfield 9, []), (31, none, .iload_n 2, []), (32, none, .iaload, []), (33, none, .iastore, []), (34, none, .aload_n 0, []), (35, none, .getfield 15, []), (38, none, .iload_n 1, []), (39, none, .aload_n 0, []), (40, none, .getfield 15, []), (43, none, .iload_n 2, []), (44, none, .iaload, []), (45, none, .iastore, []), (46, none, .iinc 1 1, []), (49, none, .iinc 2 1, []), (52, none, .goto (-48), [4]), (55, none, .aload_n 0, []), (56, none, .iload_n 1, []), (57, none, .putfield 21, []), (60, none, .return_, [])]
def P_Twins_dropLone : Nat → Option (List Nat) × Instr × List Nat := plk tb_Twins_dropLone
theorem r_Twins_dropLone_0 : P_Twins_dropLone 0 = (none, .iconst 0, []) := by decide +kernel
theorem r_Twins_dropLone_1 : P_Twins_dropLone 1 = (none, .istore_n 1, []) := by decide +kernel
theorem r_Twins_dropLone_2 : P_Twins_dropLone 2 = (none, .iconst 0, []) := by decide +kernel
theorem r_Twins_dropLone_3 : P_Twins_dropLone 3 = (none, .istore_n 2, []) := by decide +kernel
theorem r_Twins_dropLone_4 : P_Twins_dropLone 4 = (some [0, 1, 2], .iload_n 2, []) := by decide +kernel
theorem r_Twins_dropLone_5 : P_Twins_dropLone 5 = (none, .aload_n 0, []) := by decide +kernel
theorem r_Twins_dropLone_6 : P_Twins_dropLone 6 = (none, .getfield 21, []) := by decide +kernel
theorem r_Twins_dropLone_9 : P_Twins_dropLone 9 = (none, .if_icmp .ge 46, [55]) := by decide +kernel
theorem r_Twins_dropLone_12 : P_Twins_dropLone 12 = (none, .aload_n 0, []) := by decide +kernel
theorem r_Twins_dropLone_13 : P_Twins_dropLone 13 = (none, .getfield 15, []) := by decide +kernel
theorem r_Twins_dropLone_16 : P_Twins_dropLone 16 = (none, .iload_n 2, []) := by decide +kernel
theorem r_Twins_dropLone_17 : P_Twins_dropLone 17 = (none, .iaload, []) := by decide +kernel
theorem r_Twins_dropLone_18 : P_Twins_dropLone 18 = (none, .iconst 2, []) := by decide +kernel
theorem r_Twins_dropLone_19 : P_Twins_dropLone 19 = (none, .if_icmp .lt 30, [49]) := by decide +kernel
theorem r_Twins_dropLone_22 : P_Twins_dropLone 22 = (none, .aload_n 0, []) := by decide +kernel
theorem r_Twins_dropLone_23 : P_Twins_dropLone 23 = (none, .getfield 9, []) := by decide +kernel
theorem r_Twins_dropLone_26 : P_Twins_dropLone 26 = (none, .iload_n 1, []) := by decide +kernel
theorem r_Twins_dropLone_27 : P_Twins_dropLone 27 = (none, .aload_n 0, []) := by decide +kernel
theorem r_Twins_dropLone_28 : P_Twins_dropLone 28 = (none, .getfield 9, []) := by decide +kernel
theorem r_Twins_dropLone_31 : P_Twins_dropLone 31 = (none, .iload_n 2, []) := by decide +kernel
theorem r_Twins_dropLone_32 : P_Twins_dropLone 32 = (none, .iaload, []) := by decide +kernel
theorem r_Twins_dropLone_33 : P_Twins_dropLone 33 = (none, .iastore, []) := by decide +kernel
theorem r_Twins_dropLone_34 : P_Twins_dropLone 34 = (none, .aload_n 0, []) := by decide +kernel
theorem r_Twins_dropLone_35 : P_Twins_dropLone 35 = (none, .getfield 15, []) := by decide +kernel
theorem r_Twins_dropLone_38 : P_Twins_dropLone 38 = (none, .iload_n 1, []) := by decide +kernel
theorem r_Twins_dropLone_39 : P_Twins_dropLone 39 = (none, .aload_n 0, []) := by decide +kernel
theorem r_Twins_dropLone_40 : P_Twins_dropLone 40 = (none, .getfield 15, []) := by decide +kernel
theorem r_Twins_dropLone_43 : P_Twins_dropLone 43 = (none, .iload_n 2, []) := by decide +kernel
theorem r_Twins_dropLone_44 : P_Twins_dropLone 44 = (none, .iaload, []) := by decide +kernel
theorem r_Twins_dropLone_45 : P_Twins_dropLone 45 = (none, .iastore, []) := by decide +kernel
theorem r_Twins_dropLone_46 : P_Twins_dropLone 46 = (none, .iinc 1 1, []) := by decide +kernel
theorem r_Twins_dropLone_49 : P_Twins_dropLone 49 = (none, .iinc 2 1, []) := by decide +kernel
theorem r_Twins_dropLone_52 : P_Twins_dropLone 52 = (none, .goto (-48), [4]) := by decide +kernel
theorem r_Twins_dropLone_55 : P_Twins_dropLone 55 = (none, .aload_n 0, []) := by decide +kernel
theorem r_Twins_dropLone_56 : P_Twins_dropLone 56 = (none, .iload_n 1, []) := by decide +kernel
theorem r_Twins_dropLone_57 : P_Twins_dropLone 57 = (none, .putfield 21, []) := by decide +kernel
theorem r_Twins_dropLone_60 : P_Twins_dropLone 60 = (none, .return_, []) := by decide +kernel
def E_Twins_dropLone : List (Nat × Ent) := []
def X_Twins_dropLone : Cx := (llk (0, 0, 9) ftX9, llk 99 ntX9, llk none kcX9, llk none klX9, llk dEnt E_Twins_dropLone, 0, 3, false)
theorem xok_Twins_dropLone : Xok RX9 X_Twins_dropLone := xok_of ftX9_ok ntX9_ok kcX9_ok klX9_ok (E := E_Twins_dropLone) (fun _ h => absurd h List.not_mem_nil)
theorem xf_Twins_dropLone_9 : xfl X_Twins_dropLone 9 = (9, 0, 1) := by decide +kernel
theorem xf_Twins_dropLone_15 : xfl X_Twins_dropLone 15 = (9, 1, 1) := by decide +kernel
theorem xf_Twins_dropLone_21 : xfl X_Twins_dropLone 21 = (9, 3, 0) := by decide +kernel
theorem xd_Twins_dropLone : xd X_Twins_dropLone = 0 := rfl
theorem xrb_Twins_dropLone : xrb X_Twins_dropLone = 3 := rfl
theorem xin_Twins_dropLone : xin X_Twins_dropLone = false := rfl
set_option maxHeartbeats 4000000 in
set_option maxRecDepth 100000 in
theorem S_Twins_dropLone : Snd yX9_dropLone cX9_dropLone 3 none T_Twins_dropLone 0 0 0 := by
  refine snd_of (X := X_Twins_dropLone) (P := P_Twins_dropLone) (tb := tb_Twins_dropLone) (own := RX9) (by decide) rfl rfl (by decide +kernel) xok_Twins_dropLone rfl rk3 (fun h => by first | rfl | cases h) ?_
  intro as M k has hM hT0
  obtain ⟨sz, sl, lay, ρ, σ, τ⟩ := M
  obtain ⟨o, as1, e, hlo, hT1⟩ := mkT_r hT0
  clear hT0
  subst e
  obtain ⟨e, hT⟩ := hT1
  subst e
  replace hlo : lay o = (19, 0) := hlo
  clear has
  replace hM : ∀ a i, -2147483648 ≤ σ a i ∧ σ a i ≤ 2147483647 := hM
  replace hT : TF_Twins_dropLone o sz sl lay ρ σ τ k := hT
  unfold TF_Twins_dropLone at hT
  obtain ⟨hW, hc, hT⟩ := hT
  obtain ⟨J, hJd⟩ : ∃ J : Nat → List AV → Mm → Prop, J = (fun c vs M1 => c = 4 ∧ ∃ (N : Nat) (σ1 : Nat → Int → Int), N ≤ σ o 3 ∧ Fr σ σ1 o 3 ∧ σ1 o = σ o ∧ (∀ j : Int, N ≤ j ∧ j < σ o 3 → σ1 (o + 1) j = σ (o + 1) j ∧ σ1 (o + 2) j = σ (o + 2) j) ∧ (∀ j : Nat, j < N → 2 ≤ σ (o + 2) j → σ1 (o + 1) (cntP (fun i => 2 ≤ σ (o + 2) i) j) = σ (o + 1) j ∧ σ1 (o + 2) (cntP (fun i => 2 ≤ σ (o + 2) i) j) = σ (o + 2) j) ∧ vs = [vR o, vI (cntP (fun i => 2 ≤ σ (o + 2) i) N), vI N] ∧ M1 = (sz, sl, lay, ρ, σ1, τ)) := ⟨_, rfl⟩
  obtain ⟨μ, hμ⟩ : ∃ μ : Nat → List AV → Mm → Nat, μ = (fun _ vs _ => (600 - gI (vs.getD 2 vN)).toNat) := ⟨_, rfl⟩
  refine ⟨Nat.le_of_ble_eq_true rfl, J, μ, 45, ?_, ?_⟩
  · obtain ⟨wh, wp0, wp1, wp2, wq0, wq1, wq2⟩ := (show LTwins lay ρ _ from hW)
    unfold wps
    simp only [si_iload_n0, si_iload_n1, si_iload_n2, si_iload_n3, si_iload, si_lload_n0, si_lload_n1, si_lload_n2, si_lload_n3, si_lload, si_aload_n0, si_aload_n1, si_aload_n2, si_aload_n3, si_aload, si_istore_n0, si_istore_n1, si_istore_n2, si_istore_n3, si_istore, si_astore_n0, si_astore_n1, si_astore_n2, si_astore_n3, si_astore, si_lstore_n0, si_lstore_n1, si_lstore_n2, si_lstore_n3, si_lstore, si_iconst, si_bipush, si_sipush, si_ldc, si_ldc2_w, si_lconst0, si_lconst1, si_aconst_null, si_iinc, si_dup, si_dup2, si_iadd, si_isub, si_imul, si_idiv, si_irem, si_iand, si_ior, si_ishl, si_ishr, si_ladd, si_lmul, si_lor, si_lxor, si_lshl, si_lushr, si_lcmp, si_i2b, si_i2l, si_l2i, si_icmp_eq, si_icmp_ne, si_icmp_lt, si_icmp_ge, si_icmp_gt, si_icmp_le, si_if_eq, si_if_ne, si_if_lt, si_if_ge, si_if_gt, si_if_le, si_ifnull, si_ifnonnull, si_goto, si_tableswitch, si_lookupswitch, si_getfield, si_putfield, si_getstatic, si_iaload, si_baload, si_laload, si_aaload, si_iastore, si_bastore, si_lastore, si_aastore, si_arraylength, si_new, si_newarray, si_anewarray, si_invokevirtual, si_invokespecial, si_invokestatic, si_ireturn, si_lreturn, si_areturn, si_return_, pI_e, pL_e, pR_e, pA_r, pA_n, pN_n, pN_r, oI_e, oL_e, oA_r, oA_n, lget_e, lrm1_0, lrm2_0, lrm1_i, lrm1_r, lrm1_n, lrm1_l, lrm2_i, lrm2_r, lrm2_n, lrm2_l, popN_0, popN_s, acat_i, acat_l, acat_r, acat_n, stw_0, stw_s, psh_s, psh_n, wgf_r, wgf_i, wgf_b, wgf_n, wgf_m, wpf_i, wpf_r, wpf_b, wnew_e, callE_e, rbk_0, rbk_1, tsw_0, tsw_s, lsw_0, lsw_s, wp_s, wq_t, wq_f, oV_e, pick_0, pick_s, oZ_e, oY_e, r_Twins_dropLone_0, r_Twins_dropLone_1, r_Twins_dropLone_2, r_Twins_dropLone_3, r_Twins_dropLone_4, r_Twins_dropLone_5, r_Twins_dropLone_6, r_Twins_dropLone_9, r_Twins_dropLone_12, r_Twins_dropLone_13, r_Twins_dropLone_16, r_Twins_dropLone_17, r_Twins_dropLone_18, r_Twins_dropLone_19, r_Twins_dropLone_22, r_Twins_dropLone_23, r_Twins_dropLone_26, r_Twins_dropLone_27, r_Twins_dropLone_28, r_Twins_dropLone_31, r_Twins_dropLone_32, r_Twins_dropLone_33, r_Twins_dropLone_34, r_Twins_dropLone_35, r_Twins_dropLone_38, r_Twins_dropLone_39, r_Twins_dropLone_40, r_Twins_dropLone_43, r_Twins_dropLone_44, r_Twins_dropLone_45, r_Twins_dropLone_46, r_Twins_dropLone_49, r_Twins_dropLone_52, r_Twins_dropLone_55, r_Twins_dropLone_56, r_Twins_dropLone_57, r_Twins_dropLone_60, xf_Twins_dropLone_9, xf_Twins_dropLone_15, xf_Twins_dropLone_21, xd_Twins_dropLone, xrb_Twins_dropLone, xin_Twins_dropLone, wh, wp0, wp1, wp2, wq0, wq1, wq2, Nat.reduceAdd, Nat.reduceMul, Nat.reduceEqDiff, reduceIte, Int.reduceNeg, Int.reduceLE, Int.reduceLT, Int.reduceAdd, Int.reduceSub, Int.reduceToNat, true_and, and_true, inR_e, Nat.reduceLT, Nat.reduceLeDiff, reduceCtorEq, Nat.add_zero, Nat.zero_add, or_false, false_or, or_true, true_or, not_true_eq_false, not_false_eq_true, Classical.not_not, Nat.add_eq_zero_iff, and_false, false_and, Int.reduceEq, List.mem_cons, List.not_mem_nil, forall_eq_or_imp, forall_eq, false_implies, implies_true, forall_const, aargs_0, aargs_i, aargs_r, aargs_l, aargs_n, nfT_e, eq_self, and_self, Nat.le_refl, fu_s, fu_fu, iu_iu, iu_s, fu_am, fu_a0, fu_0a, iu_l, Nat.reduceBEq, Int.reduceBEq, T_objInit_e]
    clear wp0 wp1 wp2
    rw [hJd]
    exact ⟨rfl, 0, σ, by omega, Fr.rfl', rfl, fun j hj => ⟨rfl, rfl⟩, fun j hj => by omega, rfl, rfl⟩
  · intro cp vs M1 hvs hM1 hlen hJ
    rw [hJd] at hJ
    obtain ⟨rfl, N, σ1, g1, g2, g3, g4, g5, rfl, rfl⟩ := hJ
    have hr := @cntP_R (fun i => 2 ≤ σ (o + 2) i) N
    (obtain ⟨wh, wp0, wp1, wp2, wq0, wq1, wq2⟩ := (show LTwins lay ρ _ from hW); unfold wps; simp only [Option.getD_some, List.zip_cons_cons, List.zip_nil_left, List.zip_nil_right, List.zip_nil_right, g3, si_iload_n0, si_iload_n1, si_iload_n2, si_iload_n3, si_iload, si_lload_n0, si_lload_n1, si_lload_n2, si_lload_n3, si_lload, si_aload_n0, si_aload_n1, si_aload_n2, si_aload_n3, si_aload, si_istore_n0, si_istore_n1, si_istore_n2, si_istore_n3, si_istore, si_astore_n0, si_astore_n1, si_astore_n2, si_astore_n3, si_astore, si_lstore_n0, si_lstore_n1, si_lstore_n2, si_lstore_n3, si_lstore, si_iconst, si_bipush, si_sipush, si_ldc, si_ldc2_w, si_lconst0, si_lconst1, si_aconst_null, si_iinc, si_dup, si_dup2, si_iadd, si_isub, si_imul, si_idiv, si_irem, si_iand, si_ior, si_ishl, si_ishr, si_ladd, si_lmul, si_lor, si_lxor, si_lshl, si_lushr, si_lcmp, si_i2b, si_i2l, si_l2i, si_icmp_eq, si_icmp_ne, si_icmp_lt, si_icmp_ge, si_icmp_gt, si_icmp_le, si_if_eq, si_if_ne, si_if_lt, si_if_ge, si_if_gt, si_if_le, si_ifnull, si_ifnonnull, si_goto, si_tableswitch, si_lookupswitch, si_getfield, si_putfield, si_getstatic, si_iaload, si_baload, si_laload, si_aaload, si_iastore, si_bastore, si_lastore, si_aastore, si_arraylength, si_new, si_newarray, si_anewarray, si_invokevirtual, si_invokespecial, si_invokestatic, si_ireturn, si_lreturn, si_areturn, si_return_, pI_e, pL_e, pR_e, pA_r, pA_n, pN_n, pN_r, oI_e, oL_e, oA_r, oA_n, lget_e, lrm1_0, lrm2_0, lrm1_i, lrm1_r, lrm1_n, lrm1_l, lrm2_i, lrm2_r, lrm2_n, lrm2_l, popN_0, popN_s, acat_i, acat_l, acat_r, acat_n, stw_0, stw_s, psh_s, psh_n, wgf_r, wgf_i, wgf_b, wgf_n, wgf_m, wpf_i, wpf_r, wpf_b, wnew_e, callE_e, rbk_0, rbk_1, tsw_0, tsw_s, lsw_0, lsw_s, wp_s, wq_t, wq_f, oV_e, pick_0, pick_s, oZ_e, oY_e, r_Twins_dropLone_0, r_Twins_dropLone_1, r_Twins_dropLone_2, r_Twins_dropLone_3, r_Twins_dropLone_4, r_Twins_dropLone_5, r_Twins_dropLone_6, r_Twins_dropLone_9, r_Twins_dropLone_12, r_Twins_dropLone_13, r_Twins_dropLone_16, r_Twins_dropLone_17, r_Twins_dropLone_18, r_Twins_dropLone_19, r_Twins_dropLone_22, r_Twins_dropLone_23, r_Twins_dropLone_26, r_Twins_dropLone_27, r_Twins_dropLone_28, r_Twins_dropLone_31, r_Twins_dropLone_32, r_Twins_dropLone_33, r_Twins_dropLone_34, r_Twins_dropLone_35, r_Twins_dropLone_38, r_Twins_dropLone_39, r_Twins_dropLone_40, r_Twins_dropLone_43, r_Twins_dropLone_44, r_Twins_dropLone_45, r_Twins_dropLone_46, r_Twins_dropLone_49, r_Twins_dropLone_52, r_Twins_dropLone_55, r_Twins_dropLone_56, r_Twins_dropLone_57, r_Twins_dropLone_60, xf_Twins_dropLone_9, xf_Twins_dropLone_15, xf_Twins_dropLone_21, xd_Twins_dropLone, xrb_Twins_dropLone, xin_Twins_dropLone, wh, wp0, wp1, wp2, wq0, wq1, wq2, Nat.reduceAdd, Nat.reduceMul, Nat.reduceEqDiff, reduceIte, Int.reduceNeg, Int.reduceLE, Int.reduceLT, Int.reduceAdd, Int.reduceSub, Int.reduceToNat, true_and, and_true, inR_e, Nat.reduceLT, Nat.reduceLeDiff, reduceCtorEq, Nat.add_zero, Nat.zero_add, or_false, false_or, or_true, true_or, not_true_eq_false, not_false_eq_true, Classical.not_not, Nat.add_eq_zero_iff, and_false, false_and, Int.reduceEq, List.mem_cons, List.not_mem_nil, forall_eq_or_imp, forall_eq, false_implies, implies_true, forall_const, aargs_0, aargs_i, aargs_r, aargs_l, aargs_n, nfT_e, eq_self, and_self, Nat.le_refl, fu_s, fu_fu, iu_iu, iu_s, fu_am, fu_a0, fu_0a, iu_l, Nat.reduceBEq, Int.reduceBEq, T_objInit_e]; clear wp0 wp1 wp2)
    refine ⟨fun h => ?_, fun h => ?_⟩
    · have e : N = (σ o 3).toNat := by omega
      subst e
      refine hT _ (g2.fu (by omega)) (by rw [fu_s, iu_s]) (fun i hi hq => ?_)
      rw [fu_0a (by decide), fu_0a (by decide)]
      exact g5 i (by omega) hq
    · obtain ⟨q1, q2⟩ := g4 N (by omega)
      rw [q1, q2]
      refine ⟨by omega, by omega, fun a => ⟨by omega, ?_, (by rw [hμ]; simp only [gI_e, List.getD_cons_succ, List.getD_cons_zero]; omega)⟩, fun a => ⟨by omega, by omega, by omega, by omega, by omega, by omega, by omega, by omega, by omega, by omega, ?_, (by rw [hμ]; simp only [gI_e, List.getD_cons_succ, List.getD_cons_zero]; omega)⟩⟩
      · rw [hJd]
        have nq : ¬ 2 ≤ σ (o + 2) N := by omega
        refine ⟨rfl, N + 1, σ1, by omega, g2, g3, fun j hj => g4 j (by omega), fun j hj hq => ?_, ?_, rfl⟩
        · by_cases e : j = N
          · subst e; exact absurd hq nq
          · exact g5 j (by omega) hq
        · rw [cntP_sf (P := fun i => 2 ≤ σ (o + 2) i) nq]; rfl
      · rw [hJd]
        have nq : 2 ≤ σ (o + 2) N := by omega
        refine ⟨rfl, N + 1, _, by omega, (g2.fu (by omega)).fu (by omega), by rw [fu_a0 (by decide), fu_a0 (by decide)]; exact g3, fun j hj => ?_, fun j hj hq => ?_, ?_, rfl⟩
        · rw [fu_am (by decide), fu_s, fu_s, iu_n (by omega), iu_n (by omega)]
          exact g4 j (by omega)
        · rw [fu_am (by decide), fu_s, fu_s]
          by_cases e : j = N
          · subst e; rw [iu_s, iu_s]; exact ⟨rfl, rfl⟩
          · have := cntP_lt (P := fun i => 2 ≤ σ (o + 2) i) (a := j) (b := N) (by omega) hq
            rw [iu_n (by omega), iu_n (by omega)]
            exact g5 j (by omega) hq
        · rw [cntP_st (P := fun i => 2 ≤ σ (o + 2) i) nq]; rfl

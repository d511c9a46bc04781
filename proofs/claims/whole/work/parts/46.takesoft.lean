theorem l2i_two {U : Int → Int} {x : Int} (hU : ∀ x, 0 ≤ U x ∧ U x < 256) : l2iZ (Int64.ofInt (two2 U x)) = two2 U x := l2iZ_o (by have := two2_R hU x; unfold inR; omega)
theorem vZ_5 {U A : Int → Int} {q k : Int} (h : sA U A q k = 5) : vZ U A q k = two2 U (vP U A q k) := by
  unfold vZ vS two2
  rw [h, if_pos (Or.inl rfl), wd_5]
  show (0 * 256 + U _) * 256 + U (_ + 1) = _
  omega
theorem TR.bd {σ σ1 : Nat → Int → Int} {τ τ1 : Nat → Int → Int64} {t : Nat} {U A T : Int → Int} {q n refs pl len : Int} {k : Nat} (h : TR σ τ t U A T n refs pl) (hK : KW U A) (hpl : 0 ≤ pl ∧ pl ≤ q) (hln : len ≤ 8000) (hn : 0 ≤ n) (hd : HdT U len A T n q) (a : ADg σ σ1 τ τ1 t U A q n k) (hk : (k : Int) < nV U A q) : (0 ≤ σ1 t 15 ∧ σ1 t 15 < 8000) ∧ (0 ≤ σ1 t 16 ∧ σ1 t 16 < 4000) ∧ (0 ≤ vP U A q k ∧ vP U A q k + wd (sA U A q k) ≤ len) ∧ (0 ≤ sA U A q k ∧ sA U A q k < 6) := by
  have tk := hd.2.2.1
  have v1 := tk.vb hK k (by omega)
  have v2 := tk.ve hK (k := k) (by omega)
  have v3 := tk.wdR hK (k := k) (by omega)
  have b := h.2.2.2.1 n (by omega)
  have he := hd.2.2.2.1
  have a2 := a.2.1
  have a3 := a.2.2.1
  have hdl : 3 ≤ hdL U q := by
    unfold hdL
    repeat' split
    all_goals omega
  exact ⟨by omega, by omega, by omega, tk.sa hK (by omega)⟩
theorem srt_83 {U : Int → Int} {q : Int} (e : U q = 83) : srt U q = 2 ∧ kdv U q = 0 := by
  unfold srt kdv
  rw [if_neg (by omega), if_neg (by omega), if_pos e]
  exact ⟨rfl, rfl⟩
theorem srt_82 {U : Int → Int} {q : Int} (e : U q = 82) : srt U q = 1 ∧ kdv U q = U (q + 3) := by
  unfold srt kdv
  rw [if_neg (by omega), if_pos e, if_neg (by omega)]
  exact ⟨rfl, rfl⟩
theorem srt_84 {U : Int → Int} {q : Int} (e : U q = 84) : srt U q = 0 ∧ kdv U q = U (q + 3) := by
  unfold srt kdv
  rw [if_pos e, if_neg (by omega)]
  exact ⟨rfl, rfl⟩
theorem szv_83 {U A : Int → Int} {q : Int} (e : U q = 83) : szv U A q = (12 + 7) / 8 * 8 := by
  unfold szv
  rw [if_pos e]
theorem szv_82 {U A : Int → Int} {q : Int} (e : U q = 82) : szv U A q = (6 + (vP U A q (nV U A q) - q) + 7) / 8 * 8 := by
  unfold szv
  rw [if_neg (by omega), if_pos e]
theorem szv_84 {U A : Int → Int} {q : Int} (e : U q = 84) : szv U A q = (4 + (vP U A q (nV U A q) - q) + 7) / 8 * 8 := by
  unfold szv
  rw [if_neg (by omega), if_neg (by omega)]
theorem co_X3_636 : CallOK RX3 (.invokevirtual 159) (2, 1, 0, 0, T_Tape_pairAt) := call_V S_Tape_pairAt (by decide) (ci := 6) rfl (by decide +kernel) (by decide +kernel) (by decide +kernel) (by decide +kernel) (by decide +kernel) (by decide +kernel) T_Tape_pairAt_r
theorem co_X3_672 : CallOK RX3 (.invokevirtual 168) (2, 3, 0, 0, T_Things_admits) := call_V S_Things_admits (by decide) (ci := 7) rfl (by decide +kernel) (by decide +kernel) (by decide +kernel) (by decide +kernel) (by decide +kernel) (by decide +kernel) T_Things_admits_r
theorem co_X3_680 : CallOK RX3 (.invokevirtual 170) (1, 0, 0, 0, T_Things_begin) := call_V S_Things_begin (by decide) (ci := 7) rfl (by decide +kernel) (by decide +kernel) (by decide +kernel) (by decide +kernel) (by decide +kernel) (by decide +kernel) T_Things_begin_r
theorem co_X3_712 : CallOK RX3 (.invokevirtual 178) (3, 2, 0, 0, T_Tape_valueAt) := call_V S_Tape_valueAt (by decide) (ci := 6) rfl (by decide +kernel) (by decide +kernel) (by decide +kernel) (by decide +kernel) (by decide +kernel) (by decide +kernel) T_Tape_valueAt_r
theorem co_X3_728 : CallOK RX3 (.invokevirtual 182) (3, 0, 0, 0, T_Things_addValue) := call_V S_Things_addValue (by decide) (ci := 7) rfl (by decide +kernel) (by decide +kernel) (by decide +kernel) (by decide +kernel) (by decide +kernel) (by decide +kernel) T_Things_addValue_r
theorem co_X3_756 : CallOK RX3 (.invokevirtual 189) (6, 3, 0, 0, T_Things_keep) := call_V S_Things_keep (by decide) (ci := 7) rfl (by decide +kernel) (by decide +kernel) (by decide +kernel) (by decide +kernel) (by decide +kernel) (by decide +kernel) T_Things_keep_r
def TF_Picture_takeSoft (o : Nat) (t : Nat) (p : Int) (sz sl : Nat) (lay : Nat → Nat × Int) (ρ : Nat → Int → Nat) (σ : Nat → Int → Int) (τ : Nat → Int → Int64) (k : Option AV → Mm → Prop) : Prop := LPicture lay ρ o ∧ LTape lay ρ t ∧ (0 ≤ σ t 1 ∧ σ t 1 ≤ 8000) ∧ (t + 2 ≤ o) ∧ Wd lay ρ σ ∧ (0 ≤ p ∧ p < σ t 1) ∧ tU σ t p = 83 ∧ ∃ (kk tt : Nat) (A T : Int → Int) (n refs : Int), o + 1 = kk ∧ o + 8 = tt ∧ LKinds lay ρ kk ∧ LThings lay ρ tt ∧ KW (tU σ t) A ∧ KR σ kk (tU σ t) A ∧ TR σ τ tt (tU σ t) A T n refs p ∧ (0 ≤ n ∧ n ≤ 600) ∧ (0 ≤ refs ∧ refs ≤ 3000) ∧ (¬ AccT (tU σ t) (σ t 1) A T n refs p → ∀ (σ2 : Nat → Int → Int) (τ2 : Nat → Int → Int64), Fr σ σ2 tt 12 → (∀ a, ¬ a = tt + 10 → τ2 a = τ a) → TR σ2 τ2 tt (tU σ t) A T n refs p → k (some (vI (0))) (sz, sl, lay, ρ, σ2, τ2)) ∧ (AccT (tU σ t) (σ t 1) A T n refs p → ∀ (σ2 : Nat → Int → Int) (τ2 : Nat → Int → Int64), Fr σ σ2 tt 12 → (∀ a, ¬ a = tt + 10 → τ2 a = τ a) → TR σ2 τ2 tt (tU σ t) A (iu T n p) (n + 1) (refs + rz (tU σ t) A p) (vP (tU σ t) A p (nV (tU σ t) A p)) → k (some (vI (vP (tU σ t) A p (nV (tU σ t) A p) - p))) (sz, sl, lay, ρ, σ2, τ2))
def T_Picture_takeSoft : Tr := mkT 3 fun o as M k => pR as fun t as => pI as fun p as => as = [] ∧ TF_Picture_takeSoft o t p M.1 M.2.1 M.2.2.1 M.2.2.2.1 M.2.2.2.2.1 M.2.2.2.2.2 k
theorem T_Picture_takeSoft_e {o : Nat} {t : Nat} {p : Int} {sz sl : Nat} {lay : Nat → Nat × Int} {ρ : Nat → Int → Nat} {σ : Nat → Int → Int} {τ : Nat → Int → Int64} {k : Option AV → Mm → Prop} : T_Picture_takeSoft [vR o, vR t, vI p] (sz, sl, lay, ρ, σ, τ) k = (lay o = (13, 0) ∧ TF_Picture_takeSoft o t p sz sl lay ρ σ τ k) := by simp [T_Picture_takeSoft, mkT_e, pI_e, pR_e, pL_e]
theorem T_Picture_takeSoft_r (as : List AV) (M : Mm) (k : Option AV → Mm → Prop) (h : T_Picture_takeSoft as M k) : ∃ b As, as = vR b :: As ∧ M.2.2.1 b = (10 + 3, 0) := by
  obtain ⟨b, As, h1, h2, -⟩ := mkT_r h
  exact ⟨b, As, h1, h2⟩
def tb_Picture_takeSoft : List (Nat × Option (List Nat) × Instr × List Nat) := [(0, none, .aload_n 1, []), (1, none, .iload_n 2, []), (2, none, .iconst 1, []), (3, none, .iadd, []), (4, none, .invokevirtual 159, []), (7, none, .istore_n 3, []), (8, none, .aload_n 0, []), (9, none, .getfield 21, []), (12, none, .iload_n 3, []), (13, none, .invokevirtual 168, []), (16, none, .ifCond .eq 13, [29]), (19, none, .aload_n 1, []), (20, none, .iload_n 2, []), (21, none, .iconst 5, []), (22, none, .iadd, []), (23, none, .invokevirtual 146, []), (26, none, .ifCond .ne 5, [31]), (29, none, .iconst 0, []), (30, none, .ireturn, []), (31, none, .aload_n 0, []), (32, none, .getfield 21, []), (35, none, .invokevirtual 170, []), (38, some [0, 1, 2, 3], .aload_n 0, []), (39, none, .getfield 21, []), (42, none, .iconst 5, []), (43, none, .aload_n 1, []), (44, none, .iload_n 2, []), (45, none, .iconst 3, []), (46, none, .iadd, []), (47, none, .iconst 5, []), (48, none, .invokevirtual 178, []), (51, none, .invokevirtual 182, []), (54, some [0, 1, 2, 3], .aload_n 0, []), (55, none, .getfield 21, []), (58, none, .iload_n 3, []), (59, none, .iconst 2, []), (60, none, .iconst 0, []), (61, none, .iload_n 2, []), (62, none, .bipush 12, []), (64, none, .invokevirtual 189, []), (67, none, .ifCond .eq 7, [74]), (70, none, .iconst 5, []), (71, none, .goto 4, [75]), (74, none, .iconst 0, []), (75, none, .ireturn, [])]
def P_Picture_takeSoft : Nat → Option (List Nat) × Instr × List Nat := plk tb_Picture_takeSoft
theorem r_Picture_takeSoft_0 : P_Picture_takeSoft 0 = (none, .aload_n 1, []) := by decide +kernel
theorem r_Picture_takeSoft_1 : P_Picture_takeSoft 1 = (none, .iload_n 2, []) := by decide +kernel
theorem r_Picture_takeSoft_2 : P_Picture_takeSoft 2 = (none, .iconst 1, []) := by decide +kernel
theorem r_Picture_takeSoft_3 : P_Picture_takeSoft 3 = (none, .iadd, []) := by decide +kernel
theorem r_Picture_takeSoft_4 : P_Picture_takeSoft 4 = (none, .invokevirtual 159, []) := by decide +kernel
theorem r_Picture_takeSoft_7 : P_Picture_takeSoft 7 = (none, .istore_n 3, []) := by decide +kernel
theorem r_Picture_takeSoft_8 : P_Picture_takeSoft 8 = (none, .aload_n 0, []) := by decide +kernel
theorem r_Picture_takeSoft_9 : P_Picture_takeSoft 9 = (none, .getfield 21, []) := by decide +kernel
theorem r_Picture_takeSoft_12 : P_Picture_takeSoft 12 = (none, .iload_n 3, []) := by decide +kernel
theorem r_Picture_takeSoft_13 : P_Picture_takeSoft 13 = (none, .invokevirtual 168, []) := by decide +kernel
theorem r_Picture_takeSoft_16 : P_Picture_takeSoft 16 = (none, .ifCond .eq 13, [29]) := by decide +kernel
theorem r_Picture_takeSoft_19 : P_Picture_takeSoft 19 = (none, .aload_n 1, []) := by decide +kernel
theorem r_Picture_takeSoft_20 : P_Picture_takeSoft 20 = (none, .iload_n 2, []) := by decide +kernel
theorem r_Picture_takeSoft_21 : P_Picture_takeSoft 21 = (none, .iconst 5, []) := by decide +kernel
theorem r_Picture_takeSoft_22 : P_Picture_takeSoft 22 = (none, .iadd, []) := by decide +kernel
theorem r_Picture_takeSoft_23 : P_Picture_takeSoft 23 = (none, .invokevirtual 146, []) := by decide +kernel
theorem r_Picture_takeSoft_26 : P_Picture_takeSoft 26 = (none, .ifCond .ne 5, [31]) := by decide +kernel
theorem r_Picture_takeSoft_29 : P_Picture_takeSoft 29 = (none, .iconst 0, []) := by decide +kernel
theorem r_Picture_takeSoft_30 : P_Picture_takeSoft 30 = (none, .ireturn, []) := by decide +kernel
theorem r_Picture_takeSoft_31 : P_Picture_takeSoft 31 = (none, .aload_n 0, []) := by decide +kernel
theorem r_Picture_takeSoft_32 : P_Picture_takeSoft 32 = (none, .getfield 21, []) := by decide +kernel
theorem r_Picture_takeSoft_35 : P_Picture_takeSoft 35 = (none, .invokevirtual 170, []) := by decide +kernel
theorem r_Picture_takeSoft_38 : P_Picture_takeSoft 38 = (some [0, 1, 2, 3], .aload_n 0, []) := by decide +kernel
theorem r_Picture_takeSoft_39 : P_Picture_takeSoft 39 = (none, .getfield 21, []) := by decide +kernel
theorem r_Picture_takeSoft_42 : P_Picture_takeSoft 42 = (none, .iconst 5, []) := by decide +kernel
theorem r_Picture_takeSoft_43 : P_Picture_takeSoft 43 = (none, .aload_n 1, []) := by decide +kernel
theorem r_Picture_takeSoft_44 : P_Picture_takeSoft 44 = (none, .iload_n 2, []) := by decide +kernel
theorem r_Picture_takeSoft_45 : P_Picture_takeSoft 45 = (none, .iconst 3, []) := by decide +kernel
theorem r_Picture_takeSoft_46 : P_Picture_takeSoft 46 = (none, .iadd, []) := by decide +kernel
theorem r_Picture_takeSoft_47 : P_Picture_takeSoft 47 = (none, .iconst 5, []) := by decide +kernel
theorem r_Picture_takeSoft_48 : P_Picture_takeSoft 48 = (none, .invokevirtual 178, []) := by decide +kernel
theorem r_Picture_takeSoft_51 : P_Picture_takeSoft 51 = (none, .invokevirtual 182, []) := by decide +kernel
theorem r_Picture_takeSoft_54 : P_Picture_takeSoft 54 = (some [0, 1, 2, 3], .aload_n 0, []) := by decide +kernel
theorem r_Picture_takeSoft_55 : P_Picture_takeSoft 55 = (none, .getfield 21, []) := by decide +kernel
theorem r_Picture_takeSoft_58 : P_Picture_takeSoft 58 = (none, .iload_n 3, []) := by decide +kernel
theorem r_Picture_takeSoft_59 : P_Picture_takeSoft 59 = (none, .iconst 2, []) := by decide +kernel
theorem r_Picture_takeSoft_60 : P_Picture_takeSoft 60 = (none, .iconst 0, []) := by decide +kernel
theorem r_Picture_takeSoft_61 : P_Picture_takeSoft 61 = (none, .iload_n 2, []) := by decide +kernel
theorem r_Picture_takeSoft_62 : P_Picture_takeSoft 62 = (none, .bipush 12, []) := by decide +kernel
theorem r_Picture_takeSoft_64 : P_Picture_takeSoft 64 = (none, .invokevirtual 189, []) := by decide +kernel
theorem r_Picture_takeSoft_67 : P_Picture_takeSoft 67 = (none, .ifCond .eq 7, [74]) := by decide +kernel
theorem r_Picture_takeSoft_70 : P_Picture_takeSoft 70 = (none, .iconst 5, []) := by decide +kernel
theorem r_Picture_takeSoft_71 : P_Picture_takeSoft 71 = (none, .goto 4, [75]) := by decide +kernel
theorem r_Picture_takeSoft_74 : P_Picture_takeSoft 74 = (none, .iconst 0, []) := by decide +kernel
theorem r_Picture_takeSoft_75 : P_Picture_takeSoft 75 = (none, .ireturn, []) := by decide +kernel
def E_Picture_takeSoft : List (Nat × Ent) := [(584, (2, 1, 0, 0, T_Tape_closesAt)), (636, (2, 1, 0, 0, T_Tape_pairAt)), (672, (2, 3, 0, 0, T_Things_admits)), (680, (1, 0, 0, 0, T_Things_begin)), (712, (3, 2, 0, 0, T_Tape_valueAt)), (728, (3, 0, 0, 0, T_Things_addValue)), (756, (6, 3, 0, 0, T_Things_keep))]
def X_Picture_takeSoft : Cx := (llk (0, 0, 9) ftX3, llk 99 ntX3, llk none kcX3, llk none klX3, llk dEnt E_Picture_takeSoft, 4, 0, false)
theorem xok_Picture_takeSoft : Xok RX3 X_Picture_takeSoft := xok_of ftX3_ok ntX3_ok kcX3_ok klX3_ok (E := E_Picture_takeSoft) (List.forall_mem_cons.mpr ⟨co_X3_584, List.forall_mem_cons.mpr ⟨co_X3_636, List.forall_mem_cons.mpr ⟨co_X3_672, List.forall_mem_cons.mpr ⟨co_X3_680, List.forall_mem_cons.mpr ⟨co_X3_712, List.forall_mem_cons.mpr ⟨co_X3_728, List.forall_mem_cons.mpr ⟨co_X3_756, fun _ h => absurd h List.not_mem_nil⟩⟩⟩⟩⟩⟩⟩)
theorem xf_Picture_takeSoft_21 : xfl X_Picture_takeSoft 21 = (3, 1, 1) := by decide +kernel
theorem xe_Picture_takeSoft_584 : xE X_Picture_takeSoft (4 * 146 + 0) = (2, 1, 0, 0, T_Tape_closesAt) := rfl
theorem xe_Picture_takeSoft_636 : xE X_Picture_takeSoft (4 * 159 + 0) = (2, 1, 0, 0, T_Tape_pairAt) := rfl
theorem xe_Picture_takeSoft_672 : xE X_Picture_takeSoft (4 * 168 + 0) = (2, 3, 0, 0, T_Things_admits) := rfl
theorem xe_Picture_takeSoft_680 : xE X_Picture_takeSoft (4 * 170 + 0) = (1, 0, 0, 0, T_Things_begin) := rfl
theorem xe_Picture_takeSoft_712 : xE X_Picture_takeSoft (4 * 178 + 0) = (3, 2, 0, 0, T_Tape_valueAt) := rfl
theorem xe_Picture_takeSoft_728 : xE X_Picture_takeSoft (4 * 182 + 0) = (3, 0, 0, 0, T_Things_addValue) := rfl
theorem xe_Picture_takeSoft_756 : xE X_Picture_takeSoft (4 * 189 + 0) = (6, 3, 0, 0, T_Things_keep) := rfl
theorem xd_Picture_takeSoft : xd X_Picture_takeSoft = 4 := rfl
theorem xrb_Picture_takeSoft : xrb X_Picture_takeSoft = 0 := rfl
theorem xin_Picture_takeSoft : xin X_Picture_takeSoft = false := rfl
set_option maxHeartbeats 4000000 in
set_option maxRecDepth 100000 in
theorem S_Picture_takeSoft : Snd yX3_takeSoft cX3_takeSoft 4 (some .int) T_Picture_takeSoft 4 0 0 := by
  refine snd_of (X := X_Picture_takeSoft) (P := P_Picture_takeSoft) (tb := tb_Picture_takeSoft) (own := RX3) (by decide) rfl rfl (by decide +kernel) xok_Picture_takeSoft rfl rk0 (fun h => by first | rfl | cases h) ?_
  intro as M k has hM hT0
  obtain ⟨sz, sl, lay, ρ, σ, τ⟩ := M
  obtain ⟨o, as1, e, hlo, hT1⟩ := mkT_r hT0
  clear hT0
  subst e
  obtain ⟨t, as2, e, hT2⟩ := pR_x hT1
  clear hT1
  subst e
  obtain ⟨p, as3, e, hT3⟩ := pI_x hT2
  clear hT2
  subst e
  obtain ⟨e, hT⟩ := hT3
  subst e
  replace hlo : lay o = (13, 0) := hlo
  have r_p : -2147483648 ≤ p ∧ p ≤ 2147483647 := has (vI p) (by simp)
  clear has
  replace hM : ∀ a i, -2147483648 ≤ σ a i ∧ σ a i ≤ 2147483647 := hM
  replace hT : TF_Picture_takeSoft o t p sz sl lay ρ σ τ k := hT
  unfold TF_Picture_takeSoft at hT
  obtain ⟨hP, hTp, hl, hto2, hW, hp, hb, kk, tt, A, T, n, refs, hkk, htt, hKd, hTh, hKW, hKR, hTR, hn, hrf, h0, h1⟩ := hT
  have hU : ∀ x, 0 ≤ tU σ t x ∧ tU σ t x < 256 := tU_R σ t
  have e12 : σ tt 12 = n := hTR.1.1
  obtain ⟨J, hJd⟩ : ∃ J : Nat → List AV → Mm → Prop, J = (fun c vs M1 => (c = 38 ∧ ∃ (σ1 : Nat → Int → Int) (τ1 : Nat → Int → Int64), HdT (tU σ t) (σ t 1) A T n p ∧ ADg σ σ1 τ τ1 tt (tU σ t) A p n 0 ∧ vs = [vR o, vR t, vI p, vI (two2 (tU σ t) (p + 1))] ∧ M1 = (sz, sl, lay, ρ, σ1, τ1)) ∨ (c = 54 ∧ ∃ (σ1 : Nat → Int → Int) (τ1 : Nat → Int → Int64), HdT (tU σ t) (σ t 1) A T n p ∧ ADg σ σ1 τ τ1 tt (tU σ t) A p n 1 ∧ vs = [vR o, vR t, vI p, vI (two2 (tU σ t) (p + 1))] ∧ M1 = (sz, sl, lay, ρ, σ1, τ1))) := ⟨_, rfl⟩
  obtain ⟨μ, hμ⟩ : ∃ μ : Nat → List AV → Mm → Nat, μ = (fun c _ _ => 100 - c) := ⟨_, rfl⟩
  refine ⟨Nat.le_of_ble_eq_true rfl, J, μ, 53, ?_, ?_⟩
  · obtain ⟨ph, pp0, pp1, pp2, pp3, pp4, pp5, pp6, pp7, pq0, pq1, pq2, pq3, pq4, pq5, pq6, pq7⟩ := (show LPicture lay ρ _ from hP)
    obtain ⟨kh, kp0, kp1, kp2, kp3, kp4, kp5, kq0, kq1, kq2, kq3, kq4, kq5⟩ := (show LKinds lay ρ _ from hKd)
    obtain ⟨lh, lp0, lp1, lp2, lp3, lp4, lp5, lp6, lp7, lp8, lp9, lp10, lp11, lq0, lq1, lq2, lq3, lq4, lq5, lq6, lq7, lq8, lq9, lq10, lq11⟩ := (show LThings lay ρ _ from hTh)
    obtain ⟨qh, qp0, qq0⟩ := (show LTape lay ρ _ from hTp)
    unfold wps
    simp only [si_iload_n0, si_iload_n1, si_iload_n2, si_iload_n3, si_iload, si_lload_n0, si_lload_n1, si_lload_n2, si_lload_n3, si_lload, si_aload_n0, si_aload_n1, si_aload_n2, si_aload_n3, si_aload, si_istore_n0, si_istore_n1, si_istore_n2, si_istore_n3, si_istore, si_astore_n0, si_astore_n1, si_astore_n2, si_astore_n3, si_astore, si_lstore_n0, si_lstore_n1, si_lstore_n2, si_lstore_n3, si_lstore, si_iconst, si_bipush, si_sipush, si_ldc, si_ldc2_w, si_lconst0, si_lconst1, si_aconst_null, si_iinc, si_dup, si_dup2, si_iadd, si_isub, si_imul, si_idiv, si_irem, si_iand, si_ior, si_ishl, si_ishr, si_ladd, si_lmul, si_lor, si_lxor, si_lshl, si_lushr, si_lcmp, si_i2b, si_i2l, si_l2i, si_icmp_eq, si_icmp_ne, si_icmp_lt, si_icmp_ge, si_icmp_gt, si_icmp_le, si_if_eq, si_if_ne, si_if_lt, si_if_ge, si_if_gt, si_if_le, si_ifnull, si_ifnonnull, si_goto, si_tableswitch, si_lookupswitch, si_getfield, si_putfield, si_getstatic, si_iaload, si_baload, si_laload, si_aaload, si_iastore, si_bastore, si_lastore, si_aastore, si_arraylength, si_new, si_newarray, si_anewarray, si_invokevirtual, si_invokespecial, si_invokestatic, si_ireturn, si_lreturn, si_areturn, si_return_, pI_e, pL_e, pR_e, pA_r, pA_n, pN_n, pN_r, oI_e, oL_e, oA_r, oA_n, lget_e, lrm1_0, lrm2_0, lrm1_i, lrm1_r, lrm1_n, lrm1_l, lrm2_i, lrm2_r, lrm2_n, lrm2_l, popN_0, popN_s, acat_i, acat_l, acat_r, acat_n, stw_0, stw_s, psh_s, psh_n, wgf_r, wgf_i, wgf_b, wgf_n, wgf_m, wpf_i, wpf_r, wpf_b, wnew_e, callE_e, rbk_0, rbk_1, tsw_0, tsw_s, lsw_0, lsw_s, wp_s, wq_t, wq_f, oV_e, pick_0, pick_s, oZ_e, oY_e, r_Picture_takeSoft_0, r_Picture_takeSoft_1, r_Picture_takeSoft_2, r_Picture_takeSoft_3, r_Picture_takeSoft_4, r_Picture_takeSoft_7, r_Picture_takeSoft_8, r_Picture_takeSoft_9, r_Picture_takeSoft_12, r_Picture_takeSoft_13, r_Picture_takeSoft_16, r_Picture_takeSoft_19, r_Picture_takeSoft_20, r_Picture_takeSoft_21, r_Picture_takeSoft_22, r_Picture_takeSoft_23, r_Picture_takeSoft_26, r_Picture_takeSoft_29, r_Picture_takeSoft_30, r_Picture_takeSoft_31, r_Picture_takeSoft_32, r_Picture_takeSoft_35, r_Picture_takeSoft_38, r_Picture_takeSoft_39, r_Picture_takeSoft_42, r_Picture_takeSoft_43, r_Picture_takeSoft_44, r_Picture_takeSoft_45, r_Picture_takeSoft_46, r_Picture_takeSoft_47, r_Picture_takeSoft_48, r_Picture_takeSoft_51, r_Picture_takeSoft_54, r_Picture_takeSoft_55, r_Picture_takeSoft_58, r_Picture_takeSoft_59, r_Picture_takeSoft_60, r_Picture_takeSoft_61, r_Picture_takeSoft_62, r_Picture_takeSoft_64, r_Picture_takeSoft_67, r_Picture_takeSoft_70, r_Picture_takeSoft_71, r_Picture_takeSoft_74, r_Picture_takeSoft_75, xf_Picture_takeSoft_21, xe_Picture_takeSoft_584, xe_Picture_takeSoft_636, xe_Picture_takeSoft_672, xe_Picture_takeSoft_680, xe_Picture_takeSoft_712, xe_Picture_takeSoft_728, xe_Picture_takeSoft_756, xd_Picture_takeSoft, xrb_Picture_takeSoft, xin_Picture_takeSoft, T_Tape_closesAt_e, TF_Tape_closesAt, T_Tape_pairAt_e, TF_Tape_pairAt, T_Things_admits_e, TF_Things_admits, T_Things_begin_e, TF_Things_begin, T_Tape_valueAt_e, TF_Tape_valueAt, T_Things_addValue_e, TF_Things_addValue, T_Things_keep_e, TF_Things_keep, hkk, htt, ph, pp0, pp1, pp2, pp3, pp4, pp5, pp6, pp7, pq0, pq1, pq2, pq3, pq4, pq5, pq6, pq7, kh, kp0, kp1, kp2, kp3, kp4, kp5, kq0, kq1, kq2, kq3, kq4, kq5, lh, lp0, lp1, lp2, lp3, lp4, lp5, lp6, lp7, lp8, lp9, lp10, lp11, lq0, lq1, lq2, lq3, lq4, lq5, lq6, lq7, lq8, lq9, lq10, lq11, qh, qp0, qq0, Nat.reduceAdd, Nat.reduceMul, Nat.reduceEqDiff, reduceIte, Int.reduceNeg, Int.reduceLE, Int.reduceLT, Int.reduceAdd, Int.reduceSub, Int.reduceToNat, true_and, and_true, inR_e, Nat.reduceLT, Nat.reduceLeDiff, reduceCtorEq, Nat.add_zero, Nat.zero_add, or_false, false_or, or_true, true_or, not_true_eq_false, not_false_eq_true, Classical.not_not, Nat.add_eq_zero_iff, and_false, false_and, Int.reduceEq, List.mem_cons, List.not_mem_nil, forall_eq_or_imp, forall_eq, false_implies, implies_true, forall_const, aargs_0, aargs_i, aargs_r, aargs_l, aargs_n, nfT_e, eq_self, and_self, Nat.le_refl, fu_s, fu_fu, iu_iu, iu_s, fu_am, fu_a0, fu_0a, iu_l, Nat.reduceBEq, Int.reduceBEq, T_objInit_e]
    clear pp0 pp1 pp2 pp3 pp4 pp5 pp6 pp7 kp0 kp1 kp2 kp3 kp4 kp5 lp0 lp1 lp2 lp3 lp4 lp5 lp6 lp7 lp8 lp9 lp10 lp11 qp0
    have hth := hTR.adm hn.1 (x := two2 (tU σ t) (p + 1))
    have u2 := two2_R hU (p + 1)
    have nacc : ¬ HdT (tU σ t) (σ t 1) A T n p → k (some (vI 0)) (sz, sl, lay, ρ, σ, τ) := fun z => h0 (fun w => z (AccT_e.mp w).1) σ τ Fr.rfl' (fun _ _ => rfl) hTR
    refine ⟨by omega, hTp, hl, by omega, fun a => ?_, fun a => ⟨by omega, hTh, by omega, hTR.2.1, nacc (fun z => by have := z.1; omega)⟩⟩
    rw [show p + 1 + 1 = (p + 1) + 1 from rfl, pair_e a, isE_t (show 0 ≤ p + 5 by omega), hth]
    have en : vP (tU σ t) A p (nV (tU σ t) A p) = p + 5 := by rw [nV_83 hb, vP_83 hb]; omega
    refine ⟨by omega, hTh, by omega, hTR.2.1, fun b => ⟨by omega, hTp, hl, fun c => ⟨by omega, hTh, by omega, ?_⟩, fun c => nacc (fun z => c (by rw [← en]; exact z.2.2.2.2.1))⟩, fun b => nacc (fun z => b ⟨by have := z.2.2.2.2.2.1; omega, by have := z.2.2.2.2.2.2.2; omega, z.2.2.2.2.2.2.1⟩)⟩
    rw [hJd]
    refine Or.inl ⟨rfl, _, τ, ⟨?_, fun z => by omega, Or.inr (Or.inr hb), ?_, by rw [en]; exact c, by omega, b.2.2, by omega⟩, ADg.begin (n := n), rfl, by rw [e12]⟩
    · rcases c with c | c <;> omega
    · rw [en]; rcases c with c | c <;> omega
  · intro cp vs M1 hvs hM1 hlen hJ
    rw [hJd] at hJ
    have en : vP (tU σ t) A p (nV (tU σ t) A p) = p + 5 := by rw [nV_83 hb, vP_83 hb]; omega
    have nv1 : nV (tU σ t) A p = 1 := nV_83 hb
    have s5 : sA (tU σ t) A p 0 = 5 := sA_83 hb
    rcases hJ with ⟨rfl, σ1, τ1, g1, g2, rfl, rfl⟩ | ⟨rfl, σ1, τ1, g1, g2, rfl, rfl⟩
    · have et : σ1 t = σ t := g2.fr.lo (by omega)
      have et1 : σ1 (t + 1) = σ (t + 1) := g2.fr.lo (by omega)
      have e1n : σ1 tt 12 = n := (g2.1.2.1 12 (by omega)).trans e12
      have ek : ∀ i, i ≤ 6 → σ1 (kk + i) = σ (kk + i) := fun i hi => g2.fr.lo (by omega)
      have hW1 : Wd lay ρ σ1 := hW.th g2.fr hTh
      obtain ⟨d1, d2, d3, d4⟩ := hTR.bd hKW (q := p) (by omega) hl.2 hn.1 g1 g2 (by omega)
      have hle := g1.2.2.2.1
      have vz : vZ (tU σ t) A p 0 = two2 (tU σ t) (p + 3) := by rw [vZ_5 s5, vP_83 hb, show p + 3 + 2 * 0 = p + 3 by omega]
      (obtain ⟨ph, pp0, pp1, pp2, pp3, pp4, pp5, pp6, pp7, pq0, pq1, pq2, pq3, pq4, pq5, pq6, pq7⟩ := (show LPicture lay ρ _ from hP); obtain ⟨kh, kp0, kp1, kp2, kp3, kp4, kp5, kq0, kq1, kq2, kq3, kq4, kq5⟩ := (show LKinds lay ρ _ from hKd); obtain ⟨lh, lp0, lp1, lp2, lp3, lp4, lp5, lp6, lp7, lp8, lp9, lp10, lp11, lq0, lq1, lq2, lq3, lq4, lq5, lq6, lq7, lq8, lq9, lq10, lq11⟩ := (show LThings lay ρ _ from hTh); obtain ⟨qh, qp0, qq0⟩ := (show LTape lay ρ _ from hTp); unfold wps; simp only [Option.getD_some, List.zip_cons_cons, List.zip_nil_left, List.zip_nil_right, List.zip_nil_right, et, et1, e1n, si_iload_n0, si_iload_n1, si_iload_n2, si_iload_n3, si_iload, si_lload_n0, si_lload_n1, si_lload_n2, si_lload_n3, si_lload, si_aload_n0, si_aload_n1, si_aload_n2, si_aload_n3, si_aload, si_istore_n0, si_istore_n1, si_istore_n2, si_istore_n3, si_istore, si_astore_n0, si_astore_n1, si_astore_n2, si_astore_n3, si_astore, si_lstore_n0, si_lstore_n1, si_lstore_n2, si_lstore_n3, si_lstore, si_iconst, si_bipush, si_sipush, si_ldc, si_ldc2_w, si_lconst0, si_lconst1, si_aconst_null, si_iinc, si_dup, si_dup2, si_iadd, si_isub, si_imul, si_idiv, si_irem, si_iand, si_ior, si_ishl, si_ishr, si_ladd, si_lmul, si_lor, si_lxor, si_lshl, si_lushr, si_lcmp, si_i2b, si_i2l, si_l2i, si_icmp_eq, si_icmp_ne, si_icmp_lt, si_icmp_ge, si_icmp_gt, si_icmp_le, si_if_eq, si_if_ne, si_if_lt, si_if_ge, si_if_gt, si_if_le, si_ifnull, si_ifnonnull, si_goto, si_tableswitch, si_lookupswitch, si_getfield, si_putfield, si_getstatic, si_iaload, si_baload, si_laload, si_aaload, si_iastore, si_bastore, si_lastore, si_aastore, si_arraylength, si_new, si_newarray, si_anewarray, si_invokevirtual, si_invokespecial, si_invokestatic, si_ireturn, si_lreturn, si_areturn, si_return_, pI_e, pL_e, pR_e, pA_r, pA_n, pN_n, pN_r, oI_e, oL_e, oA_r, oA_n, lget_e, lrm1_0, lrm2_0, lrm1_i, lrm1_r, lrm1_n, lrm1_l, lrm2_i, lrm2_r, lrm2_n, lrm2_l, popN_0, popN_s, acat_i, acat_l, acat_r, acat_n, stw_0, stw_s, psh_s, psh_n, wgf_r, wgf_i, wgf_b, wgf_n, wgf_m, wpf_i, wpf_r, wpf_b, wnew_e, callE_e, rbk_0, rbk_1, tsw_0, tsw_s, lsw_0, lsw_s, wp_s, wq_t, wq_f, oV_e, pick_0, pick_s, oZ_e, oY_e, r_Picture_takeSoft_0, r_Picture_takeSoft_1, r_Picture_takeSoft_2, r_Picture_takeSoft_3, r_Picture_takeSoft_4, r_Picture_takeSoft_7, r_Picture_takeSoft_8, r_Picture_takeSoft_9, r_Picture_takeSoft_12, r_Picture_takeSoft_13, r_Picture_takeSoft_16, r_Picture_takeSoft_19, r_Picture_takeSoft_20, r_Picture_takeSoft_21, r_Picture_takeSoft_22, r_Picture_takeSoft_23, r_Picture_takeSoft_26, r_Picture_takeSoft_29, r_Picture_takeSoft_30, r_Picture_takeSoft_31, r_Picture_takeSoft_32, r_Picture_takeSoft_35, r_Picture_takeSoft_38, r_Picture_takeSoft_39, r_Picture_takeSoft_42, r_Picture_takeSoft_43, r_Picture_takeSoft_44, r_Picture_takeSoft_45, r_Picture_takeSoft_46, r_Picture_takeSoft_47, r_Picture_takeSoft_48, r_Picture_takeSoft_51, r_Picture_takeSoft_54, r_Picture_takeSoft_55, r_Picture_takeSoft_58, r_Picture_takeSoft_59, r_Picture_takeSoft_60, r_Picture_takeSoft_61, r_Picture_takeSoft_62, r_Picture_takeSoft_64, r_Picture_takeSoft_67, r_Picture_takeSoft_70, r_Picture_takeSoft_71, r_Picture_takeSoft_74, r_Picture_takeSoft_75, xf_Picture_takeSoft_21, xe_Picture_takeSoft_584, xe_Picture_takeSoft_636, xe_Picture_takeSoft_672, xe_Picture_takeSoft_680, xe_Picture_takeSoft_712, xe_Picture_takeSoft_728, xe_Picture_takeSoft_756, xd_Picture_takeSoft, xrb_Picture_takeSoft, xin_Picture_takeSoft, T_Tape_closesAt_e, TF_Tape_closesAt, T_Tape_pairAt_e, TF_Tape_pairAt, T_Things_admits_e, TF_Things_admits, T_Things_begin_e, TF_Things_begin, T_Tape_valueAt_e, TF_Tape_valueAt, T_Things_addValue_e, TF_Things_addValue, T_Things_keep_e, TF_Things_keep, hkk, htt, ph, pp0, pp1, pp2, pp3, pp4, pp5, pp6, pp7, pq0, pq1, pq2, pq3, pq4, pq5, pq6, pq7, kh, kp0, kp1, kp2, kp3, kp4, kp5, kq0, kq1, kq2, kq3, kq4, kq5, lh, lp0, lp1, lp2, lp3, lp4, lp5, lp6, lp7, lp8, lp9, lp10, lp11, lq0, lq1, lq2, lq3, lq4, lq5, lq6, lq7, lq8, lq9, lq10, lq11, qh, qp0, qq0, Nat.reduceAdd, Nat.reduceMul, Nat.reduceEqDiff, reduceIte, Int.reduceNeg, Int.reduceLE, Int.reduceLT, Int.reduceAdd, Int.reduceSub, Int.reduceToNat, true_and, and_true, inR_e, Nat.reduceLT, Nat.reduceLeDiff, reduceCtorEq, Nat.add_zero, Nat.zero_add, or_false, false_or, or_true, true_or, not_true_eq_false, not_false_eq_true, Classical.not_not, Nat.add_eq_zero_iff, and_false, false_and, Int.reduceEq, List.mem_cons, List.not_mem_nil, forall_eq_or_imp, forall_eq, false_implies, implies_true, forall_const, aargs_0, aargs_i, aargs_r, aargs_l, aargs_n, nfT_e, eq_self, and_self, Nat.le_refl, fu_s, fu_fu, iu_iu, iu_s, fu_am, fu_a0, fu_0a, iu_l, Nat.reduceBEq, Int.reduceBEq, T_objInit_e]; clear pp0 pp1 pp2 pp3 pp4 pp5 pp6 pp7 kp0 kp1 kp2 kp3 kp4 kp5 lp0 lp1 lp2 lp3 lp4 lp5 lp6 lp7 lp8 lp9 lp10 lp11 qp0)
      rw [pair_e (x := p + 3) (by omega)]
      refine ⟨by omega, by omega, hTp, hl, hW1, by omega, by rw [wd_5]; omega, hTh, d1, d2, ?_, by rw [hμ]; show 100 - 54 < 100 - 38; decide⟩
      rw [hJd, l2i_two hU, ← vz]
      exact Or.inr ⟨rfl, _, _, g1, g2.ref s5, rfl, rfl⟩
    · have et : σ1 t = σ t := g2.fr.lo (by omega)
      have et1 : σ1 (t + 1) = σ (t + 1) := g2.fr.lo (by omega)
      have e1n : σ1 tt 12 = n := (g2.1.2.1 12 (by omega)).trans e12
      have ek : ∀ i, i ≤ 6 → σ1 (kk + i) = σ (kk + i) := fun i hi => g2.fr.lo (by omega)
      have hW1 : Wd lay ρ σ1 := hW.th g2.fr hTh
      obtain ⟨f1, f2, f3, f4⟩ := hTR.fin hKW (q := p) (by omega) hl.2 hn.1 hrf g1 g2 (by rw [nv1]; rfl)
      rw [e1n] at f2 f4
      (obtain ⟨ph, pp0, pp1, pp2, pp3, pp4, pp5, pp6, pp7, pq0, pq1, pq2, pq3, pq4, pq5, pq6, pq7⟩ := (show LPicture lay ρ _ from hP); obtain ⟨kh, kp0, kp1, kp2, kp3, kp4, kp5, kq0, kq1, kq2, kq3, kq4, kq5⟩ := (show LKinds lay ρ _ from hKd); obtain ⟨lh, lp0, lp1, lp2, lp3, lp4, lp5, lp6, lp7, lp8, lp9, lp10, lp11, lq0, lq1, lq2, lq3, lq4, lq5, lq6, lq7, lq8, lq9, lq10, lq11⟩ := (show LThings lay ρ _ from hTh); obtain ⟨qh, qp0, qq0⟩ := (show LTape lay ρ _ from hTp); unfold wps; simp only [Option.getD_some, List.zip_cons_cons, List.zip_nil_left, List.zip_nil_right, List.zip_nil_right, et, et1, e1n, si_iload_n0, si_iload_n1, si_iload_n2, si_iload_n3, si_iload, si_lload_n0, si_lload_n1, si_lload_n2, si_lload_n3, si_lload, si_aload_n0, si_aload_n1, si_aload_n2, si_aload_n3, si_aload, si_istore_n0, si_istore_n1, si_istore_n2, si_istore_n3, si_istore, si_astore_n0, si_astore_n1, si_astore_n2, si_astore_n3, si_astore, si_lstore_n0, si_lstore_n1, si_lstore_n2, si_lstore_n3, si_lstore, si_iconst, si_bipush, si_sipush, si_ldc, si_ldc2_w, si_lconst0, si_lconst1, si_aconst_null, si_iinc, si_dup, si_dup2, si_iadd, si_isub, si_imul, si_idiv, si_irem, si_iand, si_ior, si_ishl, si_ishr, si_ladd, si_lmul, si_lor, si_lxor, si_lshl, si_lushr, si_lcmp, si_i2b, si_i2l, si_l2i, si_icmp_eq, si_icmp_ne, si_icmp_lt, si_icmp_ge, si_icmp_gt, si_icmp_le, si_if_eq, si_if_ne, si_if_lt, si_if_ge, si_if_gt, si_if_le, si_ifnull, si_ifnonnull, si_goto, si_tableswitch, si_lookupswitch, si_getfield, si_putfield, si_getstatic, si_iaload, si_baload, si_laload, si_aaload, si_iastore, si_bastore, si_lastore, si_aastore, si_arraylength, si_new, si_newarray, si_anewarray, si_invokevirtual, si_invokespecial, si_invokestatic, si_ireturn, si_lreturn, si_areturn, si_return_, pI_e, pL_e, pR_e, pA_r, pA_n, pN_n, pN_r, oI_e, oL_e, oA_r, oA_n, lget_e, lrm1_0, lrm2_0, lrm1_i, lrm1_r, lrm1_n, lrm1_l, lrm2_i, lrm2_r, lrm2_n, lrm2_l, popN_0, popN_s, acat_i, acat_l, acat_r, acat_n, stw_0, stw_s, psh_s, psh_n, wgf_r, wgf_i, wgf_b, wgf_n, wgf_m, wpf_i, wpf_r, wpf_b, wnew_e, callE_e, rbk_0, rbk_1, tsw_0, tsw_s, lsw_0, lsw_s, wp_s, wq_t, wq_f, oV_e, pick_0, pick_s, oZ_e, oY_e, r_Picture_takeSoft_0, r_Picture_takeSoft_1, r_Picture_takeSoft_2, r_Picture_takeSoft_3, r_Picture_takeSoft_4, r_Picture_takeSoft_7, r_Picture_takeSoft_8, r_Picture_takeSoft_9, r_Picture_takeSoft_12, r_Picture_takeSoft_13, r_Picture_takeSoft_16, r_Picture_takeSoft_19, r_Picture_takeSoft_20, r_Picture_takeSoft_21, r_Picture_takeSoft_22, r_Picture_takeSoft_23, r_Picture_takeSoft_26, r_Picture_takeSoft_29, r_Picture_takeSoft_30, r_Picture_takeSoft_31, r_Picture_takeSoft_32, r_Picture_takeSoft_35, r_Picture_takeSoft_38, r_Picture_takeSoft_39, r_Picture_takeSoft_42, r_Picture_takeSoft_43, r_Picture_takeSoft_44, r_Picture_takeSoft_45, r_Picture_takeSoft_46, r_Picture_takeSoft_47, r_Picture_takeSoft_48, r_Picture_takeSoft_51, r_Picture_takeSoft_54, r_Picture_takeSoft_55, r_Picture_takeSoft_58, r_Picture_takeSoft_59, r_Picture_takeSoft_60, r_Picture_takeSoft_61, r_Picture_takeSoft_62, r_Picture_takeSoft_64, r_Picture_takeSoft_67, r_Picture_takeSoft_70, r_Picture_takeSoft_71, r_Picture_takeSoft_74, r_Picture_takeSoft_75, xf_Picture_takeSoft_21, xe_Picture_takeSoft_584, xe_Picture_takeSoft_636, xe_Picture_takeSoft_672, xe_Picture_takeSoft_680, xe_Picture_takeSoft_712, xe_Picture_takeSoft_728, xe_Picture_takeSoft_756, xd_Picture_takeSoft, xrb_Picture_takeSoft, xin_Picture_takeSoft, T_Tape_closesAt_e, TF_Tape_closesAt, T_Tape_pairAt_e, TF_Tape_pairAt, T_Things_admits_e, TF_Things_admits, T_Things_begin_e, TF_Things_begin, T_Tape_valueAt_e, TF_Tape_valueAt, T_Things_addValue_e, TF_Things_addValue, T_Things_keep_e, TF_Things_keep, hkk, htt, ph, pp0, pp1, pp2, pp3, pp4, pp5, pp6, pp7, pq0, pq1, pq2, pq3, pq4, pq5, pq6, pq7, kh, kp0, kp1, kp2, kp3, kp4, kp5, kq0, kq1, kq2, kq3, kq4, kq5, lh, lp0, lp1, lp2, lp3, lp4, lp5, lp6, lp7, lp8, lp9, lp10, lp11, lq0, lq1, lq2, lq3, lq4, lq5, lq6, lq7, lq8, lq9, lq10, lq11, qh, qp0, qq0, Nat.reduceAdd, Nat.reduceMul, Nat.reduceEqDiff, reduceIte, Int.reduceNeg, Int.reduceLE, Int.reduceLT, Int.reduceAdd, Int.reduceSub, Int.reduceToNat, true_and, and_true, inR_e, Nat.reduceLT, Nat.reduceLeDiff, reduceCtorEq, Nat.add_zero, Nat.zero_add, or_false, false_or, or_true, true_or, not_true_eq_false, not_false_eq_true, Classical.not_not, Nat.add_eq_zero_iff, and_false, false_and, Int.reduceEq, List.mem_cons, List.not_mem_nil, forall_eq_or_imp, forall_eq, false_implies, implies_true, forall_const, aargs_0, aargs_i, aargs_r, aargs_l, aargs_n, nfT_e, eq_self, and_self, Nat.le_refl, fu_s, fu_fu, iu_iu, iu_s, fu_am, fu_a0, fu_0a, iu_l, Nat.reduceBEq, Int.reduceBEq, T_objInit_e]; clear pp0 pp1 pp2 pp3 pp4 pp5 pp6 pp7 kp0 kp1 kp2 kp3 kp4 kp5 lp0 lp1 lp2 lp3 lp4 lp5 lp6 lp7 lp8 lp9 lp10 lp11 qp0)
      obtain ⟨w1, w2⟩ := f4 _ rfl
      refine ⟨by omega, hTh, hn, f1.2.1, f2, f3, fun z => h0 (w1 z) σ1 τ1 g2.fr g2.1.2.2.2.1 f1, fun z r r0 r1 r2 => ?_⟩
      obtain ⟨y1, y2⟩ := w2 z
      have y3 := y2 12 r (szv_83 hb).symm r0 r1 r2
      rw [(srt_83 hb).1, (srt_83 hb).2] at y3
      have y4 := h1 y1 _ τ1 (keepS_fr g2.fr) g2.1.2.2.2.1 y3
      rw [en, show p + 5 - p = 5 by omega] at y4
      exact y4

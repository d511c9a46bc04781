theorem ThB.inj {σ : Nat → Int → Int} {o : Nat} (h : ThB σ o) {i j : Int} (hi : 0 ≤ i ∧ i < σ o 12) (hj : 0 ≤ j ∧ j < σ o 12) (e : σ (o + 1) i = σ (o + 1) j) : i = j := by
  obtain ⟨r, hr, er⟩ := h.2.2 i hi
  obtain ⟨s, hs, es⟩ := h.2.2 j hj
  have q : r < s ∨ r = s ∨ s < r := by omega
  rcases q with q | q | q
  · have := h.2.1 r s (by omega)
    rw [er, es] at this; omega
  · rw [← er, ← es, q]
  · have := h.2.1 s r (by omega)
    rw [er, es] at this; omega
theorem ThB.fx {σ : Nat → Int → Int} {o : Nat} (h : ThB σ o) (hn : 0 ≤ σ o 12) {i x : Int} (hi : 0 ≤ i ∧ i < σ o 12) (e : σ (o + 1) i = x) : fxT σ o x = i := by
  rcases fxT_R σ o x hn with h1 | h1
  · exact absurd e (fxT_no h1 i hi)
  · exact h.inj h1.1 hi (h1.2.trans e.symm)
theorem fxT_none {σ : Nat → Int → Int} {o : Nat} {x : Int} (hn : 0 ≤ σ o 12) (h : ∀ i, 0 ≤ i ∧ i < σ o 12 → ¬ σ (o + 1) i = x) : fxT σ o x = -1 := by
  rcases fxT_R σ o x hn with h1 | h1
  · exact h1
  · exact absurd h1.2 (h _ h1.1)
/-- where ref t leads -/
def tgF (σ : Nat → Int → Int) (o : Nat) (t : Int) : Int := if σ (o + 11) t = 0 then -1 else fxT σ o (σ (o + 11) t)
theorem cntZ_t {q : Int → Bool} {n : Nat} (h : q n = true) : cntZ q (n + 1) = cntZ q n + 1 := by
  rw [show cntZ q (n + 1) = cntZ q n + (if q n = true then 1 else 0) from rfl, if_pos h]
theorem fu3a {σ : Nat → Int → Int} {o : Nat} {f g h f2 : Int → Int} : fu (fu (fu (fu σ (o + 12) f) (o + 6) g) o h) (o + 12) f2 = fu (fu (fu σ (o + 12) f2) (o + 6) g) o h := by
  funext b
  unfold fu
  repeat' split
  all_goals first | rfl | omega | (exfalso; omega)
theorem fu3b {σ : Nat → Int → Int} {o : Nat} {g h f2 : Int → Int} : fu (fu (fu σ (o + 6) g) (o + 12) f2) o h = fu (fu (fu σ (o + 12) f2) (o + 6) g) o h := by
  funext b
  unfold fu
  repeat' split
  all_goals first | rfl | omega | (exfalso; omega)
theorem fu3c {σ : Nat → Int → Int} {o : Nat} {f g h f2 g2 : Int → Int} : fu (fu (fu (fu (fu σ (o + 12) f) (o + 6) g) o h) (o + 12) f2) (o + 6) g2 = fu (fu (fu σ (o + 12) f2) (o + 6) g2) o h := by
  funext b
  unfold fu
  repeat' split
  all_goals first | rfl | omega | (exfalso; omega)
theorem cntZ_f {q : Int → Bool} {n : Nat} (h : ¬ q n = true) : cntZ q (n + 1) = cntZ q n := by
  rw [show cntZ q (n + 1) = cntZ q n + (if q n = true then 1 else 0) from rfl, if_neg h]
  omega
def TF_Things_connect (o : Nat) (sz sl : Nat) (lay : Nat → Nat × Int) (ρ : Nat → Int → Nat) (σ : Nat → Int → Int) (τ : Nat → Int → Int64) (k : Option AV → Mm → Prop) : Prop := LThings lay ρ o ∧ (0 ≤ σ o 12 ∧ σ o 12 ≤ 600) ∧ ThB σ o ∧ (0 ≤ σ (o + 9) (σ o 12) ∧ σ (o + 9) (σ o 12) ≤ 4000) ∧ (∀ i, 0 ≤ i ∧ i < σ o 12 → σ (o + 6) i = 0) ∧ σ o 14 = 0 ∧ (∀ (f g : Int → Int) (u : Int), (∀ t : Int, 0 ≤ t ∧ t < σ (o + 9) (σ o 12) → f t = tgF σ o t) → (∀ i : Int, 0 ≤ i ∧ i < σ o 12 → g i = cntZ (fun t => decide (tgF σ o t = i)) (σ (o + 9) (σ o 12)).toNat) → u = cntZ (fun t => decide (¬ σ (o + 11) t = 0 ∧ tgF σ o t = -1)) (σ (o + 9) (σ o 12)).toNat → k none (sz, sl, lay, ρ, fu (fu (fu σ (o + 12) f) (o + 6) g) o (iu (σ o) 14 u), τ))
def T_Things_connect : Tr := mkT 7 fun o as M k => as = [] ∧ TF_Things_connect o M.1 M.2.1 M.2.2.1 M.2.2.2.1 M.2.2.2.2.1 M.2.2.2.2.2 k
theorem T_Things_connect_e {o : Nat} {sz sl : Nat} {lay : Nat → Nat × Int} {ρ : Nat → Int → Nat} {σ : Nat → Int → Int} {τ : Nat → Int → Int64} {k : Option AV → Mm → Prop} : T_Things_connect [vR o] (sz, sl, lay, ρ, σ, τ) k = (lay o = (17, 0) ∧ TF_Things_connect o sz sl lay ρ σ τ k) := by simp [T_Things_connect, mkT_e, pI_e, pR_e, pL_e]
theorem T_Things_connect_r (as : List AV) (M : Mm) (k : Option AV → Mm → Prop) (h : T_Things_connect as M k) : ∃ b As, as = vR b :: As ∧ M.2.2.1 b = (10 + 7, 0) := by
  obtain ⟨b, As, h1, h2, -⟩ := mkT_r h
  exact ⟨b, As, h1, h2⟩
def tb_Things_connect : List (Nat × Option (List Nat) × Instr × List Nat) := [(0, none, .aload_n 0, []), (1, none, .getfield 36, []), (4, none, .aload_n 0, []), (5, none, .getfield 49, []), (8, none, .iaload, []), (9, none, .istore_n 1, []), (10, none, .iconst 0, []), (11, none, .istore_n 2, []), (12, some [0, 1, 2], .iload_n 2, []), (13, none, .iload_n 1, []), (14, none, .if_icmp .ge 80, [94]), (17, none, .aload_n 0, []), (18, none, .getfield 43, []), (21, none, .iload_n 2, []), (22, none, .iaload, []), (23, none, .ifCond .ne 7, [30]), (26, none, .iconst (-1), []), (27, none, .goto 13, [40]), (30, none, .aload_n 0, []), (31, none, .aload_n 0, []), (32, none, .getfield 43, []), (35, none, .iload_n 2, []), (36, none, .iaload, []), (37, none, .invokevirtual 69, []), (40, none, .istore_n 3, []), (41, none, .aload_n 0, []), (42, none, .getfield 46, []), (45, none, .iload_n 2, []), (46, none, .iload_n 3, []), (47, none, .iastore, []), (48, none, .aload_n 0, []), (49, none, .iload_n 3, []), (50, none, .invokevirtual 90, []), (53, none, .ifCond .eq 16, [69]), (56, none, .aload_n 0, []), (57, none, .getfield 27, []), (60, none, .iload_n 3, []), (61, none, .dup2, []), (62, none, .iaload, []), (63, none, .iconst 1, []), (64, none, .iadd, []), (65, none, .iastore, []), (66, none, .goto 22, [88]), (69, none, .aload_n 0, []), (70, none, .getfield 43, []), (73, none, .iload_n 2, []), (74, none, .iaload, []), (75, none, .ifCond .eq 13, [88]), (78, none, .aload_n 0, []), (79, none, .dup, []), (80, none, .getfield 56, []), (83, none, .iconst 1, []), (84, none, .iadd, []), (85, none, .putfield 56, []), (88, none, .iinc 2 1, []), (91, none, .goto (-79), [12]), (94, none, .return_, [])]
def P_Things_connect : Nat → Option (List Nat) × Instr × List Nat := plk tb_Things_connect
theorem r_Things_connect_0 : P_Things_connect 0 = (none, .aload_n 0, []) := by decide +kernel
theorem r_Things_connect_1 : P_Things_connect 1 = (none, .getfield 36, []) := by decide +kernel
theorem r_Things_connect_4 : P_Things_connect 4 = (none, .aload_n 0, []) := by decide +kernel
theorem r_Things_connect_5 : P_Things_connect 5 = (none, .getfield 49, []) := by decide +kernel
theorem r_Things_connect_8 : P_Things_connect 8 = (none, .iaload, []) := by decide +kernel
theorem r_Things_connect_9 : P_Things_connect 9 = (none, .istore_n 1, []) := by decide +kernel
theorem r_Things_connect_10 : P_Things_connect 10 = (none, .iconst 0, []) := by decide +kernel
theorem r_Things_connect_11 : P_Things_connect 11 = (none, .istore_n 2, []) := by decide +kernel
theorem r_Things_connect_12 : P_Things_connect 12 = (some [0, 1, 2], .iload_n 2, []) := by decide +kernel
theorem r_Things_connect_13 : P_Things_connect 13 = (none, .iload_n 1, []) := by decide +kernel
theorem r_Things_connect_14 : P_Things_connect 14 = (none, .if_icmp .ge 80, [94]) := by decide +kernel
theorem r_Things_connect_17 : P_Things_connect 17 = (none, .aload_n 0, []) := by decide +kernel
theorem r_Things_connect_18 : P_Things_connect 18 = (none, .getfield 43, []) := by decide +kernel
theorem r_Things_connect_21 : P_Things_connect 21 = (none, .iload_n 2, []) := by decide +kernel
theorem r_Things_connect_22 : P_Things_connect 22 = (none, .iaload, []) := by decide +kernel
theorem r_Things_connect_23 : P_Things_connect 23 = (none, .ifCond .ne 7, [30]) := by decide +kernel
theorem r_Things_connect_26 : P_Things_connect 26 = (none, .iconst (-1), []) := by decide +kernel
theorem r_Things_connect_27 : P_Things_connect 27 = (none, .goto 13, [40]) := by decide +kernel
theorem r_Things_connect_30 : P_Things_connect 30 = (none, .aload_n 0, []) := by decide +kernel
theorem r_Things_connect_31 : P_Things_connect 31 = (none, .aload_n 0, []) := by decide +kernel
theorem r_Things_connect_32 : P_Things_connect 32 = (none, .getfield 43, []) := by decide +kernel
theorem r_Things_connect_35 : P_Things_connect 35 = (none, .iload_n 2, []) := by decide +kernel
theorem r_Things_connect_36 : P_Things_connect 36 = (none, .iaload, []) := by decide +kernel
theorem r_Things_connect_37 : P_Things_connect 37 = (none, .invokevirtual 69, []) := by decide +kernel
theorem r_Things_connect_40 : P_Things_connect 40 = (none, .istore_n 3, []) := by decide +kernel
theorem r_Things_connect_41 : P_Things_connect 41 = (none, .aload_n 0, []) := by decide +kernel
theorem r_Things_connect_42 : P_Things_connect 42 = (none, .getfield 46, []) := by decide +kernel
theorem r_Things_connect_45 : P_Things_connect 45 = (none, .iload_n 2, []) := by decide +kernel
theorem r_Things_connect_46 : P_Things_connect 46 = (none, .iload_n 3, []) := by decide +kernel
theorem r_Things_connect_47 : P_Things_connect 47 = (none, .iastore, []) := by decide +kernel
theorem r_Things_connect_48 : P_Things_connect 48 = (none, .aload_n 0, []) := by decide +kernel
theorem r_Things_connect_49 : P_Things_connect 49 = (none, .iload_n 3, []) := by decide +kernel
theorem r_Things_connect_50 : P_Things_connect 50 = (none, .invokevirtual 90, []) := by decide +kernel
theorem r_Things_connect_53 : P_Things_connect 53 = (none, .ifCond .eq 16, [69]) := by decide +kernel
theorem r_Things_connect_56 : P_Things_connect 56 = (none, .aload_n 0, []) := by decide +kernel
theorem r_Things_connect_57 : P_Things_connect 57 = (none, .getfield 27, []) := by decide +kernel
theorem r_Things_connect_60 : P_Things_connect 60 = (none, .iload_n 3, []) := by decide +kernel
theorem r_Things_connect_61 : P_Things_connect 61 = (none, .dup2, []) := by decide +kernel
theorem r_Things_connect_62 : P_Things_connect 62 = (none, .iaload, []) := by decide +kernel
theorem r_Things_connect_63 : P_Things_connect 63 = (none, .iconst 1, []) := by decide +kernel
theorem r_Things_connect_64 : P_Things_connect 64 = (none, .iadd, []) := by decide +kernel
theorem r_Things_connect_65 : P_Things_connect 65 = (none, .iastore, []) := by decide +kernel
theorem r_Things_connect_66 : P_Things_connect 66 = (none, .goto 22, [88]) := by decide +kernel
theorem r_Things_connect_69 : P_Things_connect 69 = (none, .aload_n 0, []) := by decide +kernel
theorem r_Things_connect_70 : P_Things_connect 70 = (none, .getfield 43, []) := by decide +kernel
theorem r_Things_connect_73 : P_Things_connect 73 = (none, .iload_n 2, []) := by decide +kernel
theorem r_Things_connect_74 : P_Things_connect 74 = (none, .iaload, []) := by decide +kernel
theorem r_Things_connect_75 : P_Things_connect 75 = (none, .ifCond .eq 13, [88]) := by decide +kernel
theorem r_Things_connect_78 : P_Things_connect 78 = (none, .aload_n 0, []) := by decide +kernel
theorem r_Things_connect_79 : P_Things_connect 79 = (none, .dup, []) := by decide +kernel
theorem r_Things_connect_80 : P_Things_connect 80 = (none, .getfield 56, []) := by decide +kernel
theorem r_Things_connect_83 : P_Things_connect 83 = (none, .iconst 1, []) := by decide +kernel
theorem r_Things_connect_84 : P_Things_connect 84 = (none, .iadd, []) := by decide +kernel
theorem r_Things_connect_85 : P_Things_connect 85 = (none, .putfield 56, []) := by decide +kernel
theorem r_Things_connect_88 : P_Things_connect 88 = (none, .iinc 2 1, []) := by decide +kernel
theorem r_Things_connect_91 : P_Things_connect 91 = (none, .goto (-79), [12]) := by decide +kernel
theorem r_Things_connect_94 : P_Things_connect 94 = (none, .return_, []) := by decide +kernel
def E_Things_connect : List (Nat × Ent) := [(276, (2, 2, 0, 0, T_Things_find)), (360, (2, 0, 0, 0, T_Things_has))]
def X_Things_connect : Cx := (llk (0, 0, 9) ftX7, llk 99 ntX7, llk none kcX7, llk none klX7, llk dEnt E_Things_connect, 3, 3, false)
theorem xok_Things_connect : Xok RX7 X_Things_connect := xok_of ftX7_ok ntX7_ok kcX7_ok klX7_ok (E := E_Things_connect) (List.forall_mem_cons.mpr ⟨co_X7_276, List.forall_mem_cons.mpr ⟨co_X7_360, fun _ h => absurd h List.not_mem_nil⟩⟩)
theorem xf_Things_connect_27 : xfl X_Things_connect 27 = (7, 5, 1) := by decide +kernel
theorem xf_Things_connect_36 : xfl X_Things_connect 36 = (7, 8, 1) := by decide +kernel
theorem xf_Things_connect_43 : xfl X_Things_connect 43 = (7, 10, 1) := by decide +kernel
theorem xf_Things_connect_46 : xfl X_Things_connect 46 = (7, 11, 1) := by decide +kernel
theorem xf_Things_connect_49 : xfl X_Things_connect 49 = (7, 12, 0) := by decide +kernel
theorem xf_Things_connect_56 : xfl X_Things_connect 56 = (7, 14, 0) := by decide +kernel
theorem xe_Things_connect_276 : xE X_Things_connect (4 * 69 + 0) = (2, 2, 0, 0, T_Things_find) := rfl
theorem xe_Things_connect_360 : xE X_Things_connect (4 * 90 + 0) = (2, 0, 0, 0, T_Things_has) := rfl
theorem xd_Things_connect : xd X_Things_connect = 3 := rfl
theorem xrb_Things_connect : xrb X_Things_connect = 3 := rfl
theorem xin_Things_connect : xin X_Things_connect = false := rfl
set_option maxHeartbeats 4000000 in
set_option maxRecDepth 100000 in
theorem S_Things_connect : Snd yX7_connect cX7_connect 4 none T_Things_connect 3 0 0 := by
  refine snd_of (X := X_Things_connect) (P := P_Things_connect) (tb := tb_Things_connect) (own := RX7) (by decide) rfl rfl (by decide +kernel) xok_Things_connect rfl rk3 (fun h => by first | rfl | cases h) ?_
  intro as M k has hM hT0
  obtain ⟨sz, sl, lay, ρ, σ, τ⟩ := M
  obtain ⟨o, as1, e, hlo, hT1⟩ := mkT_r hT0
  clear hT0
  subst e
  obtain ⟨e, hT⟩ := hT1
  subst e
  replace hlo : lay o = (17, 0) := hlo
  clear has
  replace hM : ∀ a i, -2147483648 ≤ σ a i ∧ σ a i ≤ 2147483647 := hM
  replace hT : TF_Things_connect o sz sl lay ρ σ τ k := hT
  unfold TF_Things_connect at hT
  obtain ⟨hL, hn, hB, hl, hp, hu, hT⟩ := hT
  obtain ⟨lh, lp0, lp1, lp2, lp3, lp4, lp5, lp6, lp7, lp8, lp9, lp10, lp11, lq0, lq1, lq2, lq3, lq4, lq5, lq6, lq7, lq8, lq9, lq10, lq11⟩ := (show LThings lay ρ _ from hL)
  obtain ⟨J, hJd⟩ : ∃ J : Nat → List AV → Mm → Prop, J = (fun c vs M1 => c = 12 ∧ ∃ (n : Nat) (f g : Int → Int) (u : Int), n ≤ σ (o + 9) (σ o 12) ∧ (∀ t : Int, 0 ≤ t ∧ t < n → f t = tgF σ o t) ∧ (∀ i : Int, 0 ≤ i ∧ i < σ o 12 → g i = cntZ (fun t => decide (tgF σ o t = i)) n) ∧ u = cntZ (fun t => decide (¬ σ (o + 11) t = 0 ∧ tgF σ o t = -1)) n ∧ vs = [vR o, vI (σ (o + 9) (σ o 12)), vI n] ∧ M1 = (sz, sl, lay, ρ, fu (fu (fu σ (o + 12) f) (o + 6) g) o (iu (σ o) 14 u), τ)) := ⟨_, rfl⟩
  obtain ⟨μ, hμ⟩ : ∃ μ : Nat → List AV → Mm → Nat, μ = (fun _ vs _ => (σ (o + 9) (σ o 12) - gI (vs.getD 2 vN)).toNat) := ⟨_, rfl⟩
  refine ⟨Nat.le_of_ble_eq_true rfl, J, μ, 65, ?_, ?_⟩
  · unfold wps
    simp only [si_iload_n0, si_iload_n1, si_iload_n2, si_iload_n3, si_iload, si_lload_n0, si_lload_n1, si_lload_n2, si_lload_n3, si_lload, si_aload_n0, si_aload_n1, si_aload_n2, si_aload_n3, si_aload, si_istore_n0, si_istore_n1, si_istore_n2, si_istore_n3, si_istore, si_astore_n0, si_astore_n1, si_astore_n2, si_astore_n3, si_astore, si_lstore_n0, si_lstore_n1, si_lstore_n2, si_lstore_n3, si_lstore, si_iconst, si_bipush, si_sipush, si_ldc, si_ldc2_w, si_lconst0, si_lconst1, si_aconst_null, si_iinc, si_dup, si_dup2, si_iadd, si_isub, si_imul, si_idiv, si_irem, si_iand, si_ior, si_ishl, si_ishr, si_ladd, si_lmul, si_lor, si_lxor, si_lshl, si_lushr, si_lcmp, si_i2b, si_i2l, si_l2i, si_icmp_eq, si_icmp_ne, si_icmp_lt, si_icmp_ge, si_icmp_gt, si_icmp_le, si_if_eq, si_if_ne, si_if_lt, si_if_ge, si_if_gt, si_if_le, si_ifnull, si_ifnonnull, si_goto, si_tableswitch, si_lookupswitch, si_getfield, si_putfield, si_getstatic, si_iaload, si_baload, si_laload, si_aaload, si_iastore, si_bastore, si_lastore, si_aastore, si_arraylength, si_new, si_newarray, si_anewarray, si_invokevirtual, si_invokespecial, si_invokestatic, si_ireturn, si_lreturn, si_areturn, si_return_, pI_e, pL_e, pR_e, pA_r, pA_n, pN_n, pN_r, oI_e, oL_e, oA_r, oA_n, lget_e, lrm1_0, lrm2_0, lrm1_i, lrm1_r, lrm1_n, lrm1_l, lrm2_i, lrm2_r, lrm2_n, lrm2_l, popN_0, popN_s, acat_i, acat_l, acat_r, acat_n, stw_0, stw_s, psh_s, psh_n, wgf_r, wgf_i, wgf_b, wgf_n, wgf_m, wpf_i, wpf_r, wpf_b, wnew_e, callE_e, rbk_0, rbk_1, tsw_0, tsw_s, lsw_0, lsw_s, wp_s, wq_t, wq_f, oV_e, pick_0, pick_s, oZ_e, oY_e, r_Things_connect_0, r_Things_connect_1, r_Things_connect_4, r_Things_connect_5, r_Things_connect_8, r_Things_connect_9, r_Things_connect_10, r_Things_connect_11, r_Things_connect_12, r_Things_connect_13, r_Things_connect_14, r_Things_connect_17, r_Things_connect_18, r_Things_connect_21, r_Things_connect_22, r_Things_connect_23, r_Things_connect_26, r_Things_connect_27, r_Things_connect_30, r_Things_connect_31, r_Things_connect_32, r_Things_connect_35, r_Things_connect_36, r_Things_connect_37, r_Things_connect_40, r_Things_connect_41, r_Things_connect_42, r_Things_connect_45, r_Things_connect_46, r_Things_connect_47, r_Things_connect_48, r_Things_connect_49, r_Things_connect_50, r_Things_connect_53, r_Things_connect_56, r_Things_connect_57, r_Things_connect_60, r_Things_connect_61, r_Things_connect_62, r_Things_connect_63, r_Things_connect_64, r_Things_connect_65, r_Things_connect_66, r_Things_connect_69, r_Things_connect_70, r_Things_connect_73, r_Things_connect_74, r_Things_connect_75, r_Things_connect_78, r_Things_connect_79, r_Things_connect_80, r_Things_connect_83, r_Things_connect_84, r_Things_connect_85, r_Things_connect_88, r_Things_connect_91, r_Things_connect_94, xf_Things_connect_27, xf_Things_connect_36, xf_Things_connect_43, xf_Things_connect_46, xf_Things_connect_49, xf_Things_connect_56, xe_Things_connect_276, xe_Things_connect_360, xd_Things_connect, xrb_Things_connect, xin_Things_connect, T_Things_find_e, TF_Things_find, T_Things_has_e, TF_Things_has, lh, lp0, lp1, lp2, lp3, lp4, lp5, lp6, lp7, lp8, lp9, lp10, lp11, lq0, lq1, lq2, lq3, lq4, lq5, lq6, lq7, lq8, lq9, lq10, lq11, fu_skip, Nat.reduceAdd, Nat.reduceMul, Nat.reduceEqDiff, reduceIte, Int.reduceNeg, Int.reduceLE, Int.reduceLT, Int.reduceAdd, Int.reduceSub, Int.reduceToNat, true_and, and_true, inR_e, Nat.reduceLT, Nat.reduceLeDiff, reduceCtorEq, Nat.add_zero, Nat.zero_add, or_false, false_or, or_true, true_or, not_true_eq_false, not_false_eq_true, Classical.not_not, Nat.add_eq_zero_iff, and_false, false_and, Int.reduceEq, List.mem_cons, List.not_mem_nil, forall_eq_or_imp, forall_eq, false_implies, implies_true, forall_const, aargs_0, aargs_i, aargs_r, aargs_l, aargs_n, nfT_e, eq_self, and_self, Nat.le_refl, fu_s, fu_fu, iu_iu, iu_s, fu_am, fu_a0, fu_0a, iu_l, Nat.reduceBEq, Int.reduceBEq, T_objInit_e]
    refine ⟨by omega, by omega, ?_⟩
    rw [hJd]
    refine ⟨rfl, 0, σ (o + 12), σ (o + 6), 0, by omega, (fun t ht => by omega), (fun i hi => by rw [hp i hi]; rfl), rfl, rfl, ?_⟩
    rw [fu_self, fu_self]
    have e : iu (σ o) 14 0 = σ o := by
      funext i
      by_cases e : i = 14
      · rw [e, iu_s, hu]
      · rw [iu_n e]
    rw [e, fu_self]
  · intro cp vs M1 hvs hM1 hlen hJ
    rw [hJd] at hJ
    obtain ⟨rfl, n, f, g, u, h1, h2, h3, h4, rfl, rfl⟩ := hJ
    have hB2 : ThB (fu (fu (fu σ (o + 12) f) (o + 6) g) o (iu (σ o) 14 u)) o := hB.cong (by simp only [fu_s, iu_l, Int.reduceBEq]) (by simp only [fu_0a, fu_am, Nat.reduceBEq]) (fun i hi => by simp only [fu_0a, fu_am, Nat.reduceBEq])
    have hu1 := cntZ_R (fun t => decide (¬ σ (o + 11) t = 0 ∧ tgF σ o t = -1)) n
    have stepF : ∀ v, v = tgF σ o n → ∀ t, 0 ≤ t ∧ t < ((n + 1 : Nat) : Int) → iu f n v t = tgF σ o t := by
      intro v hv t ht
      by_cases e : t = n
      · rw [e, iu_s, hv]
      · rw [iu_n e]; exact h2 t (by omega)
    have stepG0 : tgF σ o n = -1 → ∀ i, 0 ≤ i ∧ i < σ o 12 → g i = cntZ (fun t => decide (tgF σ o t = i)) (n + 1) := by
      intro hv i hi
      rw [cntZ_f (by simp [hv]; omega)]
      exact h3 i hi
    have stepG1 : ∀ j, tgF σ o n = j → ∀ i, 0 ≤ i ∧ i < σ o 12 → iu g j (g j + 1) i = cntZ (fun t => decide (tgF σ o t = i)) (n + 1) := by
      intro j hv i hi
      by_cases e : i = j
      · subst e
        rw [iu_s, cntZ_t (by simp [hv]), h3 i hi]
      · rw [iu_n e, cntZ_f (by simp [hv]; omega)]
        exact h3 i hi
    unfold wps
    simp only [Option.getD_some, List.zip_cons_cons, List.zip_nil_left, List.zip_nil_right, List.zip_nil_right, si_iload_n0, si_iload_n1, si_iload_n2, si_iload_n3, si_iload, si_lload_n0, si_lload_n1, si_lload_n2, si_lload_n3, si_lload, si_aload_n0, si_aload_n1, si_aload_n2, si_aload_n3, si_aload, si_istore_n0, si_istore_n1, si_istore_n2, si_istore_n3, si_istore, si_astore_n0, si_astore_n1, si_astore_n2, si_astore_n3, si_astore, si_lstore_n0, si_lstore_n1, si_lstore_n2, si_lstore_n3, si_lstore, si_iconst, si_bipush, si_sipush, si_ldc, si_ldc2_w, si_lconst0, si_lconst1, si_aconst_null, si_iinc, si_dup, si_dup2, si_iadd, si_isub, si_imul, si_idiv, si_irem, si_iand, si_ior, si_ishl, si_ishr, si_ladd, si_lmul, si_lor, si_lxor, si_lshl, si_lushr, si_lcmp, si_i2b, si_i2l, si_l2i, si_icmp_eq, si_icmp_ne, si_icmp_lt, si_icmp_ge, si_icmp_gt, si_icmp_le, si_if_eq, si_if_ne, si_if_lt, si_if_ge, si_if_gt, si_if_le, si_ifnull, si_ifnonnull, si_goto, si_tableswitch, si_lookupswitch, si_getfield, si_putfield, si_getstatic, si_iaload, si_baload, si_laload, si_aaload, si_iastore, si_bastore, si_lastore, si_aastore, si_arraylength, si_new, si_newarray, si_anewarray, si_invokevirtual, si_invokespecial, si_invokestatic, si_ireturn, si_lreturn, si_areturn, si_return_, pI_e, pL_e, pR_e, pA_r, pA_n, pN_n, pN_r, oI_e, oL_e, oA_r, oA_n, lget_e, lrm1_0, lrm2_0, lrm1_i, lrm1_r, lrm1_n, lrm1_l, lrm2_i, lrm2_r, lrm2_n, lrm2_l, popN_0, popN_s, acat_i, acat_l, acat_r, acat_n, stw_0, stw_s, psh_s, psh_n, wgf_r, wgf_i, wgf_b, wgf_n, wgf_m, wpf_i, wpf_r, wpf_b, wnew_e, callE_e, rbk_0, rbk_1, tsw_0, tsw_s, lsw_0, lsw_s, wp_s, wq_t, wq_f, oV_e, pick_0, pick_s, oZ_e, oY_e, r_Things_connect_0, r_Things_connect_1, r_Things_connect_4, r_Things_connect_5, r_Things_connect_8, r_Things_connect_9, r_Things_connect_10, r_Things_connect_11, r_Things_connect_12, r_Things_connect_13, r_Things_connect_14, r_Things_connect_17, r_Things_connect_18, r_Things_connect_21, r_Things_connect_22, r_Things_connect_23, r_Things_connect_26, r_Things_connect_27, r_Things_connect_30, r_Things_connect_31, r_Things_connect_32, r_Things_connect_35, r_Things_connect_36, r_Things_connect_37, r_Things_connect_40, r_Things_connect_41, r_Things_connect_42, r_Things_connect_45, r_Things_connect_46, r_Things_connect_47, r_Things_connect_48, r_Things_connect_49, r_Things_connect_50, r_Things_connect_53, r_Things_connect_56, r_Things_connect_57, r_Things_connect_60, r_Things_connect_61, r_Things_connect_62, r_Things_connect_63, r_Things_connect_64, r_Things_connect_65, r_Things_connect_66, r_Things_connect_69, r_Things_connect_70, r_Things_connect_73, r_Things_connect_74, r_Things_connect_75, r_Things_connect_78, r_Things_connect_79, r_Things_connect_80, r_Things_connect_83, r_Things_connect_84, r_Things_connect_85, r_Things_connect_88, r_Things_connect_91, r_Things_connect_94, xf_Things_connect_27, xf_Things_connect_36, xf_Things_connect_43, xf_Things_connect_46, xf_Things_connect_49, xf_Things_connect_56, xe_Things_connect_276, xe_Things_connect_360, xd_Things_connect, xrb_Things_connect, xin_Things_connect, T_Things_find_e, TF_Things_find, T_Things_has_e, TF_Things_has, lh, lp0, lp1, lp2, lp3, lp4, lp5, lp6, lp7, lp8, lp9, lp10, lp11, lq0, lq1, lq2, lq3, lq4, lq5, lq6, lq7, lq8, lq9, lq10, lq11, fu_skip, Nat.reduceAdd, Nat.reduceMul, Nat.reduceEqDiff, reduceIte, Int.reduceNeg, Int.reduceLE, Int.reduceLT, Int.reduceAdd, Int.reduceSub, Int.reduceToNat, true_and, and_true, inR_e, Nat.reduceLT, Nat.reduceLeDiff, reduceCtorEq, Nat.add_zero, Nat.zero_add, or_false, false_or, or_true, true_or, not_true_eq_false, not_false_eq_true, Classical.not_not, Nat.add_eq_zero_iff, and_false, false_and, Int.reduceEq, List.mem_cons, List.not_mem_nil, forall_eq_or_imp, forall_eq, false_implies, implies_true, forall_const, aargs_0, aargs_i, aargs_r, aargs_l, aargs_n, nfT_e, eq_self, and_self, Nat.le_refl, fu_s, fu_fu, iu_iu, iu_s, fu_am, fu_a0, fu_0a, iu_l, Nat.reduceBEq, Int.reduceBEq, T_objInit_e]
    refine ⟨fun h => ?_, fun h => ⟨by omega, by omega, fun a => ⟨by omega, by omega, hL, hn, hB2, fun i hi => ⟨by omega, by omega, fun b => ?_, fun b => absurd hi.1 b⟩, fun hno => ?_⟩, fun a => ?_⟩⟩
    · refine hT f g u (fun t ht => h2 t (by omega)) (fun i hi => ?_) ?_
      · rw [show (σ (o + 9) (σ o 12)).toNat = n by omega]; exact h3 i hi
      · rw [show (σ (o + 9) (σ o 12)).toNat = n by omega]; exact h4
    · have hg := h3 i hi.1
      have hg2 := cntZ_R (fun t => decide (tgF σ o t = i)) n
      have ht : tgF σ o n = i := by unfold tgF; rw [if_neg a]; exact hB.fx hn.1 hi.1 hi.2
      refine ⟨by omega, by omega, by omega, by omega, by omega, by omega, ?_, (by rw [hμ]; simp only [gI_e, List.getD_cons_succ, List.getD_cons_zero]; omega)⟩
      rw [hJd]
      refine ⟨rfl, n + 1, iu f n i, iu g i (g i + 1), u, by omega, stepF i ht.symm, stepG1 i ht, ?_, rfl, by rw [fu3c]⟩
      rw [cntZ_f (by simp [ht]; omega)]
      exact h4
    · have ht : tgF σ o n = -1 := by unfold tgF; rw [if_neg a]; exact fxT_none hn.1 hno
      refine ⟨by omega, by omega, by omega, by omega, fun b => absurd b a, fun b => ⟨by omega, by omega, ?_, (by rw [hμ]; simp only [gI_e, List.getD_cons_succ, List.getD_cons_zero]; omega)⟩⟩
      rw [hJd]
      refine ⟨rfl, n + 1, iu f n (-1), g, u + 1, by omega, stepF (-1) ht.symm, stepG0 ht, ?_, rfl, by rw [fu3b]⟩
      rw [cntZ_t (by simp [ht, a]), h4]
    · have ht : tgF σ o n = -1 := by unfold tgF; rw [if_pos a]
      refine ⟨by omega, by omega, by omega, by omega, fun b => ⟨by omega, ?_, (by rw [hμ]; simp only [gI_e, List.getD_cons_succ, List.getD_cons_zero]; omega)⟩, fun b => absurd a b⟩
      rw [hJd]
      refine ⟨rfl, n + 1, iu f n (-1), g, u, by omega, stepF (-1) ht.symm, stepG0 ht, ?_, rfl, by rw [fu3a]⟩
      rw [cntZ_f (by simp [a])]
      exact h4

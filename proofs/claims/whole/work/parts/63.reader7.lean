theorem SpI.cgn {n : Int} {num num2 : Int → Int} {E : Int → Int → Prop} {line dist bef bp : Int → Int} {c : Int} (h : SpF n num E line dist bef bp c) (e : ∀ x, 0 ≤ x ∧ x < n → num2 x = num x) : SpF n num2 E line dist bef bp c := by
  obtain ⟨h1, h2, h3, h4⟩ := h
  refine ⟨h1, h2, fun p q hpq => ?_, h4⟩
  rw [e _ (h2 p (by omega)).1, e _ (h2 q (by omega)).1]
  exact h3 p q hpq
theorem PR.spf {σ : Nat → Int → Int} {τ : Nat → Int → Int64} {P w : Nat} {U : Int → Int} {len s : Int} {st : Nat → Int → Int} (h : PR σ τ P U len st) (hn : 0 ≤ st 0 7) (g : pW σ (P + 8) w s) : ∃ bp, SpF (st 0 7) (numA U (st 2)) (edg U st s) (σ (w + 1)) (σ (w + 2)) (σ (w + 3)) bp (σ w 3) := by
  obtain ⟨bp, hb⟩ := g
  have v3 := h.1.2.2.1
  have v4 := h.1.2.2.2.1
  refine ⟨bp, ?_⟩
  unfold SpW at hb
  rw [gX_e v3 v4 hn, v3.1] at hb
  exact hb.cgn (fun x hx => ((v3.2.2.2.2.2.1 x hx).1.1).symm)
theorem edg_nn {U : Int → Int} {st : Nat → Int → Int} {s u x : Int} (h : edg U st s u x) : 0 ≤ x := by
  rcases h with h | h
  · exact h.2.1
  · exact h.2.1
theorem co_X10_520 : CallOK RX10 (.invokevirtual 130) (4, 2, 0, 0, T_Trail_follow) := call_V S_Trail_follow (by decide) (ci := 8) rfl (by decide +kernel) (by decide +kernel) (by decide +kernel) (by decide +kernel) (by decide +kernel) (by decide +kernel) T_Trail_follow_r
def TF_PR_way (o : Nat) (p : Int) (x : Int) (s : Int) (sz sl : Nat) (lay : Nat → Nat × Int) (ρ : Nat → Int → Nat) (σ : Nat → Int → Int) (τ : Nat → Int → Int64) (k : Option AV → Mm → Prop) : Prop := ∃ (U : Int → Int) (len : Int) (st : Nat → Int → Int), RdP lay ρ σ τ o p U len st ∧ (0 ≤ p ∧ p < 3 → (¬ ((0 ≤ s ∧ s ≤ 1) ∧ 0 ≤ fn U st x) → k (some (vI (-1))) (sz, sl, lay, ρ, σ, τ)) ∧ ((0 ≤ s ∧ s ≤ 1) → 0 ≤ fn U st x → (∀ z j, edg U st s (-1) z → ¬ wkN (edg U st s) (fn U st x) j z) → k (some (vI (0))) (sz, sl, lay, ρ, σ, τ)) ∧ ((0 ≤ s ∧ s ≤ 1) → 0 ≤ fn U st x → ∀ (D : Nat) (q : Int → Int), WyR (edg U st s) (numA U (st 2)) (fn U st x) D q → D ≤ 600 → ∀ σ2 : Nat → Int → Int, Fr σ σ2 (o + 3) 1 → σ2 (o + 3) 1 = D → (∀ j : Nat, j < D → σ2 (o + 3 + 1) j = numA U (st 2) (q j)) → k (some (vI ((D : Int)))) (sz, sl, lay, ρ, σ2, τ))) ∧ (¬ (0 ≤ p ∧ p < 3) → k (some (vI (-1))) (sz, sl, lay, ρ, σ, τ))
def T_PR_way : Tr := mkT 10 fun o as M k => pI as fun p as => pI as fun x as => pI as fun s as => as = [] ∧ TF_PR_way o p x s M.1 M.2.1 M.2.2.1 M.2.2.2.1 M.2.2.2.2.1 M.2.2.2.2.2 k
theorem T_PR_way_e {o : Nat} {p : Int} {x : Int} {s : Int} {sz sl : Nat} {lay : Nat → Nat × Int} {ρ : Nat → Int → Nat} {σ : Nat → Int → Int} {τ : Nat → Int → Int64} {k : Option AV → Mm → Prop} : T_PR_way [vR o, vI p, vI x, vI s] (sz, sl, lay, ρ, σ, τ) k = (lay o = (20, 0) ∧ TF_PR_way o p x s sz sl lay ρ σ τ k) := by simp [T_PR_way, mkT_e, pI_e, pR_e, pL_e]
theorem T_PR_way_r (as : List AV) (M : Mm) (k : Option AV → Mm → Prop) (h : T_PR_way as M k) : ∃ b As, as = vR b :: As ∧ M.2.2.1 b = (10 + 10, 0) := by
  obtain ⟨b, As, h1, h2, -⟩ := mkT_r h
  exact ⟨b, As, h1, h2⟩
def tb_PR_way : List (Nat × Option (List Nat) × Instr × List Nat) := [(0, none, .aload_n 0, []), (1, none, .iload_n 1, []), (2, none, .invokevirtual 45, []), (5, none, .astore 4, []), (7, none, .aload 4, []), (9, none, .ifnull 12, [21]), (12, none, .iload_n 3, []), (13, none, .ifCond .lt 8, [21]), (16, none, .iload_n 3, []), (17, none, .iconst 1, []), (18, none, .if_icmp .le 5, [23]), (21, none, .iconst (-1), []), (22, none, .ireturn, []), (23, none, .aload 4, []), (25, none, .getfield 71, []), (28, none, .iload_n 2, []), (29, none, .invokevirtual 80, []), (32, none, .istore 5, []), (34, none, .iload 5, []), (36, none, .iconst (-1), []), (37, none, .if_icmp .ne 5, [42]), (40, none, .iconst (-1), []), (41, none, .ireturn, []), (42, none, .aload_n 0, []), (43, none, .getfield 19, []), (46, none, .aload 4, []), (48, none, .getfield 71, []), (51, none, .iload_n 3, []), (52, none, .iconst 1, []), (53, none, .if_icmp .ne 11, [64]), (56, none, .aload 4, []), (58, none, .getfield 123, []), (61, none, .goto 8, [69]), (64, none, .aload 4, []), (66, none, .getfield 127, []), (69, none, .iload 5, []), (71, none, .invokevirtual 130, []), (74, none, .ireturn, [])]
def P_PR_way : Nat → Option (List Nat) × Instr × List Nat := plk tb_PR_way
theorem r_PR_way_0 : P_PR_way 0 = (none, .aload_n 0, []) := by decide +kernel
theorem r_PR_way_1 : P_PR_way 1 = (none, .iload_n 1, []) := by decide +kernel
theorem r_PR_way_2 : P_PR_way 2 = (none, .invokevirtual 45, []) := by decide +kernel
theorem r_PR_way_5 : P_PR_way 5 = (none, .astore 4, []) := by decide +kernel
theorem r_PR_way_7 : P_PR_way 7 = (none, .aload 4, []) := by decide +kernel
theorem r_PR_way_9 : P_PR_way 9 = (none, .ifnull 12, [21]) := by decide +kernel
theorem r_PR_way_12 : P_PR_way 12 = (none, .iload_n 3, []) := by decide +kernel
theorem r_PR_way_13 : P_PR_way 13 = (none, .ifCond .lt 8, [21]) := by decide +kernel
theorem r_PR_way_16 : P_PR_way 16 = (none, .iload_n 3, []) := by decide +kernel
theorem r_PR_way_17 : P_PR_way 17 = (none, .iconst 1, []) := by decide +kernel
theorem r_PR_way_18 : P_PR_way 18 = (none, .if_icmp .le 5, [23]) := by decide +kernel
theorem r_PR_way_21 : P_PR_way 21 = (none, .iconst (-1), []) := by decide +kernel
theorem r_PR_way_22 : P_PR_way 22 = (none, .ireturn, []) := by decide +kernel
theorem r_PR_way_23 : P_PR_way 23 = (none, .aload 4, []) := by decide +kernel
theorem r_PR_way_25 : P_PR_way 25 = (none, .getfield 71, []) := by decide +kernel
theorem r_PR_way_28 : P_PR_way 28 = (none, .iload_n 2, []) := by decide +kernel
theorem r_PR_way_29 : P_PR_way 29 = (none, .invokevirtual 80, []) := by decide +kernel
theorem r_PR_way_32 : P_PR_way 32 = (none, .istore 5, []) := by decide +kernel
theorem r_PR_way_34 : P_PR_way 34 = (none, .iload 5, []) := by decide +kernel
theorem r_PR_way_36 : P_PR_way 36 = (none, .iconst (-1), []) := by decide +kernel
theorem r_PR_way_37 : P_PR_way 37 = (none, .if_icmp .ne 5, [42]) := by decide +kernel
theorem r_PR_way_40 : P_PR_way 40 = (none, .iconst (-1), []) := by decide +kernel
theorem r_PR_way_41 : P_PR_way 41 = (none, .ireturn, []) := by decide +kernel
theorem r_PR_way_42 : P_PR_way 42 = (none, .aload_n 0, []) := by decide +kernel
theorem r_PR_way_43 : P_PR_way 43 = (none, .getfield 19, []) := by decide +kernel
theorem r_PR_way_46 : P_PR_way 46 = (none, .aload 4, []) := by decide +kernel
theorem r_PR_way_48 : P_PR_way 48 = (none, .getfield 71, []) := by decide +kernel
theorem r_PR_way_51 : P_PR_way 51 = (none, .iload_n 3, []) := by decide +kernel
theorem r_PR_way_52 : P_PR_way 52 = (none, .iconst 1, []) := by decide +kernel
theorem r_PR_way_53 : P_PR_way 53 = (none, .if_icmp .ne 11, [64]) := by decide +kernel
theorem r_PR_way_56 : P_PR_way 56 = (none, .aload 4, []) := by decide +kernel
theorem r_PR_way_58 : P_PR_way 58 = (none, .getfield 123, []) := by decide +kernel
theorem r_PR_way_61 : P_PR_way 61 = (none, .goto 8, [69]) := by decide +kernel
theorem r_PR_way_64 : P_PR_way 64 = (none, .aload 4, []) := by decide +kernel
theorem r_PR_way_66 : P_PR_way 66 = (none, .getfield 127, []) := by decide +kernel
theorem r_PR_way_69 : P_PR_way 69 = (none, .iload 5, []) := by decide +kernel
theorem r_PR_way_71 : P_PR_way 71 = (none, .invokevirtual 130, []) := by decide +kernel
theorem r_PR_way_74 : P_PR_way 74 = (none, .ireturn, []) := by decide +kernel
def E_PR_way : List (Nat × Ent) := [(520, (4, 2, 0, 0, T_Trail_follow)), (180, (2, 0, 0, 0, T_PR_pictureAt)), (320, (2, 2, 0, 0, T_Things_find))]
def X_PR_way : Cx := (llk (0, 0, 9) ftX10, llk 99 ntX10, llk none kcX10, llk none klX10, llk dEnt E_PR_way, 3, 0, false)
theorem xok_PR_way : Xok RX10 X_PR_way := xok_of ftX10_ok ntX10_ok kcX10_ok klX10_ok (E := E_PR_way) (List.forall_mem_cons.mpr ⟨co_X10_520, List.forall_mem_cons.mpr ⟨co_X10_180, List.forall_mem_cons.mpr ⟨co_X10_320, fun _ h => absurd h List.not_mem_nil⟩⟩⟩)
theorem xf_PR_way_19 : xfl X_PR_way 19 = (10, 2, 1) := by decide +kernel
theorem xf_PR_way_71 : xfl X_PR_way 71 = (3, 1, 3) := by decide +kernel
theorem xf_PR_way_123 : xfl X_PR_way 123 = (3, 5, 3) := by decide +kernel
theorem xf_PR_way_127 : xfl X_PR_way 127 = (3, 4, 3) := by decide +kernel
theorem xe_PR_way_520 : xE X_PR_way (4 * 130 + 0) = (4, 2, 0, 0, T_Trail_follow) := rfl
theorem xe_PR_way_180 : xE X_PR_way (4 * 45 + 0) = (2, 0, 0, 0, T_PR_pictureAt) := rfl
theorem xe_PR_way_320 : xE X_PR_way (4 * 80 + 0) = (2, 2, 0, 0, T_Things_find) := rfl
theorem xd_PR_way : xd X_PR_way = 3 := rfl
theorem xrb_PR_way : xrb X_PR_way = 0 := rfl
theorem xin_PR_way : xin X_PR_way = false := rfl
set_option maxHeartbeats 4000000 in
set_option maxRecDepth 100000 in
theorem S_PR_way : Snd yX10_way cX10_way 6 (some .int) T_PR_way 3 0 0 := by
  refine snd_of (X := X_PR_way) (P := P_PR_way) (tb := tb_PR_way) (own := RX10) (by decide) rfl rfl (by decide +kernel) xok_PR_way rfl rk0 (fun h => by first | rfl | cases h) ?_
  intro as M k has hM hT0
  obtain ⟨sz, sl, lay, ρ, σ, τ⟩ := M
  obtain ⟨o, as1, e, hlo, hT1⟩ := mkT_r hT0
  clear hT0
  subst e
  obtain ⟨p, as2, e, hT2⟩ := pI_x hT1
  clear hT1
  subst e
  obtain ⟨x, as3, e, hT3⟩ := pI_x hT2
  clear hT2
  subst e
  obtain ⟨s, as4, e, hT4⟩ := pI_x hT3
  clear hT3
  subst e
  obtain ⟨e, hT⟩ := hT4
  subst e
  replace hlo : lay o = (20, 0) := hlo
  have r_p : -2147483648 ≤ p ∧ p ≤ 2147483647 := has (vI p) (by simp)
  have r_x : -2147483648 ≤ x ∧ x ≤ 2147483647 := has (vI x) (by simp)
  have r_s : -2147483648 ≤ s ∧ s ≤ 2147483647 := has (vI s) (by simp)
  clear has
  replace hM : ∀ a i, -2147483648 ≤ σ a i ∧ σ a i ≤ 2147483647 := hM
  replace hT : TF_PR_way o p x s sz sl lay ρ σ τ k := hT
  unfold TF_PR_way at hT
  obtain ⟨U, len, st, hRP, h1, h0⟩ := hT
  obtain ⟨hR, hPR⟩ := (show RdP lay ρ σ τ o p U len st from hRP)
  obtain ⟨r0, ⟨r1, r2, r3⟩, r4, r5, r6, r7, r8, r9⟩ := (show LRd lay ρ o from hR)
  refine ⟨Nat.le_of_ble_eq_true rfl, fun _ _ _ => False, fun _ _ _ => 0, 46, ?_, fun _ _ _ _ _ _ h => h.elim⟩
  by_cases hp : 0 ≤ p ∧ p < 3
  · have hpE : (0 ≤ p ∧ p < 3) = True := eq_true hp
    obtain ⟨h1, h2, h3⟩ := h1 hp
    obtain ⟨P, eP, -, hPc, hP0⟩ := hR.pic hp
    have hPe : o + 6 + 44 * p.toNat = P := eP.symm
    obtain ⟨hS, hV⟩ := hPR hp
    rw [hPe] at hV
    obtain ⟨hP, hKd, hTh, hRt, hHo, hWy, hSy, hLf, hTw⟩ := (show LPic lay ρ P from hPc)
    obtain ⟨w0, w1, w2, w3, w4, w5, w6, w7, w8, w9, w10, w11, w12, w13, w14⟩ := (show SW U len st from hS)
    obtain ⟨⟨v1, v2, v3, v4, v5⟩, v6, v7, v8, v9⟩ := (show PR σ τ P U len st from hV)
    have n12 := v3.1
    have fol : (0 ≤ s ∧ s ≤ 1) → ∀ w : Nat, pW σ (P + 8) w s → ∀ i, (0 ≤ i ∧ i < st 0 7) ∧ σ (P + 8 + 1) i = x → ∃ (num : Int → Int) (E : Int → Int → Prop) (bp : Int → Int), SpF (st 0 7) num E (σ (w + 1)) (σ (w + 2)) (σ (w + 3)) bp (σ w 3) ∧ (σ (w + 2) i = 0 → k (some (vI 0)) (sz, sl, lay, ρ, σ, τ)) ∧ (0 < σ (w + 2) i → ∀ σ2 : Nat → Int → Int, Fr σ σ2 (o + 3) 1 → σ2 (o + 3) 1 = σ (w + 2) i → (∀ j : Int, 0 ≤ j ∧ j < σ (w + 2) i → σ2 (o + 3 + 1) j = σ (P + 8 + 1) (itB (σ (w + 3)) (σ (w + 2) i - 1 - j).toNat i)) → k (some (vI (σ (w + 2) i))) (sz, sl, lay, ρ, σ2, τ)) := by
      intro hs w hw i hi
      have e := v3.fn1 w9.1 (by rw [n12]; exact hi)
      rw [e] at h2 h3
      obtain ⟨bp, hI⟩ := hV.spf w9.1 hw
      have hcn := hI.cn w9.1
      refine ⟨_, _, bp, hI, fun z => h2 hs hi.1.1 (fun y j hy hk => ?_), fun z σ2 f1 f2 f3 => ?_⟩
      · obtain ⟨a, b⟩ := hI.wdist j y (hI.go (u := -1) (Lw.m1 (by have := hI.ha; omega)) hy).w hk
        have := (hI.dvw a).2.2 hi.1.1
        rw [dv_p hi.1.1] at this
        omega
      · have lv : Lv (σ (w + 1)) (σ w 3) i := by
          rcases hI.hd i (by omega) with g | g
          · omega
          · exact g
        have wy := hI.way (fun _ _ => edg_nn) lv
        have d6 := hI.dvw lv.w
        rw [dv_p hi.1.1] at d6
        have := h3 hs hi.1.1 (σ (w + 2) i).toNat _ wy (by omega) σ2 f1 (by omega) (fun j hj => ?_)
        · rw [show (((σ (w + 2) i).toNat : Nat) : Int) = σ (w + 2) i by omega] at this
          exact this
        · rw [f3 j (by omega)]
          have lj := (hI.itb lv (σ (w + 2) i - 1 - (j : Int)).toNat (by omega)).1
          exact (v3.2.2.2.2.2.1 _ (hI.lv_R lj)).1.1
    have nf : (∀ i, 0 ≤ i ∧ i < st 0 7 → ¬ σ (P + 8 + 1) i = x) → k (some (vI (-1))) (sz, sl, lay, ρ, σ, τ) := fun hi => h1 (fun z => by have := v3.fn0 w9.1 (x := x) (by rw [n12]; exact hi); omega)
    (obtain ⟨ph, pp0, pp1, pp2, pp3, pp4, pp5, pp6, pp7, pq0, pq1, pq2, pq3, pq4, pq5, pq6, pq7⟩ := (show LPicture lay ρ _ from hP); unfold wps; simp only [hpE, hPe, si_iload_n0, si_iload_n1, si_iload_n2, si_iload_n3, si_iload, si_lload_n0, si_lload_n1, si_lload_n2, si_lload_n3, si_lload, si_aload_n0, si_aload_n1, si_aload_n2, si_aload_n3, si_aload, si_istore_n0, si_istore_n1, si_istore_n2, si_istore_n3, si_istore, si_astore_n0, si_astore_n1, si_astore_n2, si_astore_n3, si_astore, si_lstore_n0, si_lstore_n1, si_lstore_n2, si_lstore_n3, si_lstore, si_iconst, si_bipush, si_sipush, si_ldc, si_ldc2_w, si_lconst0, si_lconst1, si_aconst_null, si_iinc, si_dup, si_dup2, si_iadd, si_isub, si_imul, si_idiv, si_irem, si_iand, si_ior, si_ishl, si_ishr, si_ladd, si_lmul, si_lor, si_lxor, si_lshl, si_lushr, si_lcmp, si_i2b, si_i2l, si_l2i, si_icmp_eq, si_icmp_ne, si_icmp_lt, si_icmp_ge, si_icmp_gt, si_icmp_le, si_if_eq, si_if_ne, si_if_lt, si_if_ge, si_if_gt, si_if_le, si_ifnull, si_ifnonnull, si_goto, si_tableswitch, si_lookupswitch, si_getfield, si_putfield, si_getstatic, si_iaload, si_baload, si_laload, si_aaload, si_iastore, si_bastore, si_lastore, si_aastore, si_arraylength, si_new, si_newarray, si_anewarray, si_invokevirtual, si_invokespecial, si_invokestatic, si_ireturn, si_lreturn, si_areturn, si_return_, pI_e, pL_e, pR_e, pA_r, pA_n, pN_n, pN_r, oI_e, oL_e, oA_r, oA_n, lget_e, lrm1_0, lrm2_0, lrm1_i, lrm1_r, lrm1_n, lrm1_l, lrm2_i, lrm2_r, lrm2_n, lrm2_l, popN_0, popN_s, acat_i, acat_l, acat_r, acat_n, stw_0, stw_s, psh_s, psh_n, wgf_r, wgf_i, wgf_b, wgf_n, wgf_m, wpf_i, wpf_r, wpf_b, wnew_e, callE_e, rbk_0, rbk_1, tsw_0, tsw_s, lsw_0, lsw_s, wp_s, wq_t, wq_f, oV_e, pick_0, pick_s, oZ_e, oY_e, r_PR_way_0, r_PR_way_1, r_PR_way_2, r_PR_way_5, r_PR_way_7, r_PR_way_9, r_PR_way_12, r_PR_way_13, r_PR_way_16, r_PR_way_17, r_PR_way_18, r_PR_way_21, r_PR_way_22, r_PR_way_23, r_PR_way_25, r_PR_way_28, r_PR_way_29, r_PR_way_32, r_PR_way_34, r_PR_way_36, r_PR_way_37, r_PR_way_40, r_PR_way_41, r_PR_way_42, r_PR_way_43, r_PR_way_46, r_PR_way_48, r_PR_way_51, r_PR_way_52, r_PR_way_53, r_PR_way_56, r_PR_way_58, r_PR_way_61, r_PR_way_64, r_PR_way_66, r_PR_way_69, r_PR_way_71, r_PR_way_74, xf_PR_way_19, xf_PR_way_71, xf_PR_way_123, xf_PR_way_127, xe_PR_way_520, xe_PR_way_180, xe_PR_way_320, xd_PR_way, xrb_PR_way, xin_PR_way, T_Trail_follow_e, TF_Trail_follow, T_PR_pictureAt_e, TF_PR_pictureAt, T_Things_find_e, TF_Things_find, r0, r1, r2, r3, r4, r5, ph, pp0, pp1, pp2, pp3, pp4, pp5, pp6, pp7, pq0, pq1, pq2, pq3, pq4, pq5, pq6, pq7, Nat.reduceAdd, Nat.reduceMul, Nat.reduceEqDiff, reduceIte, Int.reduceNeg, Int.reduceLE, Int.reduceLT, Int.reduceAdd, Int.reduceSub, Int.reduceToNat, true_and, and_true, inR_e, Nat.reduceLT, Nat.reduceLeDiff, reduceCtorEq, Nat.add_zero, Nat.zero_add, or_false, false_or, or_true, true_or, not_true_eq_false, not_false_eq_true, Classical.not_not, Nat.add_eq_zero_iff, and_false, false_and, Int.reduceEq, List.mem_cons, List.not_mem_nil, forall_eq_or_imp, forall_eq, false_implies, implies_true, forall_const, aargs_0, aargs_i, aargs_r, aargs_l, aargs_n, nfT_e, eq_self, and_self, Nat.le_refl, fu_s, fu_fu, iu_iu, iu_s, fu_am, fu_a0, fu_0a, iu_l, Nat.reduceBEq, Int.reduceBEq, T_objInit_e]; clear pp0 pp1 pp2 pp3 pp4 pp5 pp6 pp7)
    rw [n12]
    refine ⟨hR, fun a => h1 (by omega), fun a => ⟨fun b => ⟨hTh, w9, v3.2.1, fun i hi => ⟨fun _ => ⟨fun c => ⟨r8, hWy, hTh, w9, by omega, by omega, hi.1, fol ⟨by omega, b⟩ (P + 27) (by rw [show s = 0 by omega]; exact v6) i hi⟩, fun c => ⟨r8, hSy, hTh, w9, by omega, by omega, hi.1, fol ⟨by omega, b⟩ (P + 31) (by rw [c]; exact v7) i hi⟩⟩, fun z => by omega⟩, nf⟩, fun b => h1 (by omega)⟩⟩
  · have hpE : (0 ≤ p ∧ p < 3) = False := eq_false hp
    (unfold wps; simp only [hpE, si_iload_n0, si_iload_n1, si_iload_n2, si_iload_n3, si_iload, si_lload_n0, si_lload_n1, si_lload_n2, si_lload_n3, si_lload, si_aload_n0, si_aload_n1, si_aload_n2, si_aload_n3, si_aload, si_istore_n0, si_istore_n1, si_istore_n2, si_istore_n3, si_istore, si_astore_n0, si_astore_n1, si_astore_n2, si_astore_n3, si_astore, si_lstore_n0, si_lstore_n1, si_lstore_n2, si_lstore_n3, si_lstore, si_iconst, si_bipush, si_sipush, si_ldc, si_ldc2_w, si_lconst0, si_lconst1, si_aconst_null, si_iinc, si_dup, si_dup2, si_iadd, si_isub, si_imul, si_idiv, si_irem, si_iand, si_ior, si_ishl, si_ishr, si_ladd, si_lmul, si_lor, si_lxor, si_lshl, si_lushr, si_lcmp, si_i2b, si_i2l, si_l2i, si_icmp_eq, si_icmp_ne, si_icmp_lt, si_icmp_ge, si_icmp_gt, si_icmp_le, si_if_eq, si_if_ne, si_if_lt, si_if_ge, si_if_gt, si_if_le, si_ifnull, si_ifnonnull, si_goto, si_tableswitch, si_lookupswitch, si_getfield, si_putfield, si_getstatic, si_iaload, si_baload, si_laload, si_aaload, si_iastore, si_bastore, si_lastore, si_aastore, si_arraylength, si_new, si_newarray, si_anewarray, si_invokevirtual, si_invokespecial, si_invokestatic, si_ireturn, si_lreturn, si_areturn, si_return_, pI_e, pL_e, pR_e, pA_r, pA_n, pN_n, pN_r, oI_e, oL_e, oA_r, oA_n, lget_e, lrm1_0, lrm2_0, lrm1_i, lrm1_r, lrm1_n, lrm1_l, lrm2_i, lrm2_r, lrm2_n, lrm2_l, popN_0, popN_s, acat_i, acat_l, acat_r, acat_n, stw_0, stw_s, psh_s, psh_n, wgf_r, wgf_i, wgf_b, wgf_n, wgf_m, wpf_i, wpf_r, wpf_b, wnew_e, callE_e, rbk_0, rbk_1, tsw_0, tsw_s, lsw_0, lsw_s, wp_s, wq_t, wq_f, oV_e, pick_0, pick_s, oZ_e, oY_e, r_PR_way_0, r_PR_way_1, r_PR_way_2, r_PR_way_5, r_PR_way_7, r_PR_way_9, r_PR_way_12, r_PR_way_13, r_PR_way_16, r_PR_way_17, r_PR_way_18, r_PR_way_21, r_PR_way_22, r_PR_way_23, r_PR_way_25, r_PR_way_28, r_PR_way_29, r_PR_way_32, r_PR_way_34, r_PR_way_36, r_PR_way_37, r_PR_way_40, r_PR_way_41, r_PR_way_42, r_PR_way_43, r_PR_way_46, r_PR_way_48, r_PR_way_51, r_PR_way_52, r_PR_way_53, r_PR_way_56, r_PR_way_58, r_PR_way_61, r_PR_way_64, r_PR_way_66, r_PR_way_69, r_PR_way_71, r_PR_way_74, xf_PR_way_19, xf_PR_way_71, xf_PR_way_123, xf_PR_way_127, xe_PR_way_520, xe_PR_way_180, xe_PR_way_320, xd_PR_way, xrb_PR_way, xin_PR_way, T_Trail_follow_e, TF_Trail_follow, T_PR_pictureAt_e, TF_PR_pictureAt, T_Things_find_e, TF_Things_find, r0, r1, r2, r3, r4, r5, Nat.reduceAdd, Nat.reduceMul, Nat.reduceEqDiff, reduceIte, Int.reduceNeg, Int.reduceLE, Int.reduceLT, Int.reduceAdd, Int.reduceSub, Int.reduceToNat, true_and, and_true, inR_e, Nat.reduceLT, Nat.reduceLeDiff, reduceCtorEq, Nat.add_zero, Nat.zero_add, or_false, false_or, or_true, true_or, not_true_eq_false, not_false_eq_true, Classical.not_not, Nat.add_eq_zero_iff, and_false, false_and, Int.reduceEq, List.mem_cons, List.not_mem_nil, forall_eq_or_imp, forall_eq, false_implies, implies_true, forall_const, aargs_0, aargs_i, aargs_r, aargs_l, aargs_n, nfT_e, eq_self, and_self, Nat.le_refl, fu_s, fu_fu, iu_iu, iu_s, fu_am, fu_a0, fu_0a, iu_l, Nat.reduceBEq, Int.reduceBEq, T_objInit_e])
    exact ⟨hR, h0 hp⟩

theorem edg_m {U : Int → Int} {st : Nat → Int → Int} {s x v : Int} (hx : 0 ≤ x ∧ x < st 0 7) (hs : s = 0 ∨ s = 1) : edg U st s x v ↔ 0 ≤ v ∧ ∃ j, (0 ≤ j ∧ j < mny U st s x) ∧ tgt U st x j = v := by
  unfold edg mny
  constructor
  · intro h
    rcases h with ⟨h, _⟩ | ⟨_, h0, hs2, j, hj, e⟩
    · omega
    · refine ⟨h0, j, ?_, e⟩
      rw [if_neg (by omega)]
      exact hj
  · intro ⟨h0, j, hj, e⟩
    by_cases g : srt U (st 2 x) = 2 ∧ s = 0
    · rw [if_pos g] at hj; omega
    · rw [if_neg g] at hj
      exact Or.inr ⟨hx, h0, by omega, j, hj, e⟩
/-- the first by its number that is n away -/
def LdP (E : Int → Int → Prop) (num f : Int → Int) (x n b : Int) : Prop := (b = -1 ∧ ∀ v, E x v → ¬ f v = n) ∨ (0 ≤ b ∧ E x b ∧ f b = n ∧ ∀ v, E x v → f v = n → num b ≤ num v)
/-- how far all are -/
def Far (E : Int → Int → Prop) (w N : Int) (f : Int → Int) : Prop := ∀ x, 0 ≤ x ∧ x < N → (f x = -1 ∧ ∀ k, ¬ wkN E w k x) ∨ ((0 ≤ f x ∧ f x < N) ∧ farN E w (f x).toNat x)
def TF_Model_leads (o : Nat) (p : Int) (x : Int) (n : Int) (s : Int) (sz sl : Nat) (lay : Nat → Nat × Int) (ρ : Nat → Int → Nat) (σ : Nat → Int → Int) (τ : Nat → Int → Int64) (k : Option AV → Mm → Prop) : Prop := LModel lay ρ o ∧ ∃ (U : Int → Int) (len : Int) (st : Nat → Int → Int), SW U len st ∧ MR σ o p U len st ∧ (0 ≤ x ∧ x < st 0 7) ∧ (s = 0 ∨ s = 1) ∧ (∀ b, LdP (edg U st s) (numA U (st 2)) (σ (o + 21)) x n b → ∀ c : Int → Int, k (some (vI (b))) (sz, sl, lay, ρ, fu σ (o + 23) c, τ))
def T_Model_leads : Tr := mkT 11 fun o as M k => pI as fun p as => pI as fun x as => pI as fun n as => pI as fun s as => as = [] ∧ TF_Model_leads o p x n s M.1 M.2.1 M.2.2.1 M.2.2.2.1 M.2.2.2.2.1 M.2.2.2.2.2 k
theorem T_Model_leads_e {o : Nat} {p : Int} {x : Int} {n : Int} {s : Int} {sz sl : Nat} {lay : Nat → Nat × Int} {ρ : Nat → Int → Nat} {σ : Nat → Int → Int} {τ : Nat → Int → Int64} {k : Option AV → Mm → Prop} : T_Model_leads [vR o, vI p, vI x, vI n, vI s] (sz, sl, lay, ρ, σ, τ) k = (lay o = (21, 0) ∧ TF_Model_leads o p x n s sz sl lay ρ σ τ k) := by simp [T_Model_leads, mkT_e, pI_e, pR_e, pL_e]
theorem T_Model_leads_r (as : List AV) (M : Mm) (k : Option AV → Mm → Prop) (h : T_Model_leads as M k) : ∃ b As, as = vR b :: As ∧ M.2.2.1 b = (10 + 11, 0) := by
  obtain ⟨b, As, h1, h2, -⟩ := mkT_r h
  exact ⟨b, As, h1, h2⟩
def tb_Model_leads : List (Nat × Option (List Nat) × Instr × List Nat) := [(0, none, .aload_n 0, []), (1, none, .iload_n 1, []), (2, none, .iload_n 2, []), (3, none, .invokevirtual 134, []), (6, none, .iconst 2, []), (7, none, .if_icmp .ne 12, [19]), (10, none, .iload 4, []), (12, none, .ifCond .ne 7, [19]), (15, none, .iconst 0, []), (16, none, .goto 20, [36]), (19, none, .aload_n 0, []), (20, none, .iload_n 1, []), (21, none, .aload_n 0, []), (22, none, .getfield 47, []), (25, none, .sipush 600, []), (28, none, .iload_n 1, []), (29, none, .imul, []), (30, none, .iload_n 2, []), (31, none, .iadd, []), (32, none, .iaload, []), (33, none, .invokevirtual 131, []), (36, none, .istore 5, []), (38, none, .iconst (-1), []), (39, none, .istore 6, []), (41, none, .iconst 0, []), (42, none, .istore 7, []), (44, some [0, 1, 2, 3, 4, 5, 6, 7], .iload 7, []), (46, none, .iload 5, []), (48, none, .if_icmp .ge 61, [109]), (51, none, .aload_n 0, []), (52, none, .iload_n 1, []), (53, none, .iload_n 2, []), (54, none, .iload 7, []), (56, none, .invokevirtual 175, []), (59, none, .istore 8, []), (61, none, .iload 8, []), (63, none, .ifCond .lt 40, [103]), (66, none, .aload_n 0, []), (67, none, .getfield 72, []), (70, none, .iload 8, []), (72, none, .iaload, []), (73, none, .iload_n 3, []), (74, none, .if_icmp .ne 29, [103]), (77, none, .iload 6, []), (79, none, .ifCond .lt 20, [99]), (82, none, .aload_n 0, []), (83, none, .iload_n 1, []), (84, none, .iload 8, []), (86, none, .invokevirtual 165, []), (89, none, .aload_n 0, []), (90, none, .iload_n 1, []), (91, none, .iload 6, []), (93, none, .invokevirtual 165, []), (96, none, .if_icmp .ge 7, [103]), (99, none, .iload 8, []), (101, none, .istore 6, []), (103, none, .iinc 7 1, []), (106, none, .goto (-62), [44]), (109, none, .iload 6, []), (111, none, .ireturn, [])]
def P_Model_leads : Nat → Option (List Nat) × Instr × List Nat := plk tb_Model_leads
theorem r_Model_leads_0 : P_Model_leads 0 = (none, .aload_n 0, []) := by decide +kernel
theorem r_Model_leads_1 : P_Model_leads 1 = (none, .iload_n 1, []) := by decide +kernel
theorem r_Model_leads_2 : P_Model_leads 2 = (none, .iload_n 2, []) := by decide +kernel
theorem r_Model_leads_3 : P_Model_leads 3 = (none, .invokevirtual 134, []) := by decide +kernel
theorem r_Model_leads_6 : P_Model_leads 6 = (none, .iconst 2, []) := by decide +kernel
theorem r_Model_leads_7 : P_Model_leads 7 = (none, .if_icmp .ne 12, [19]) := by decide +kernel
theorem r_Model_leads_10 : P_Model_leads 10 = (none, .iload 4, []) := by decide +kernel
theorem r_Model_leads_12 : P_Model_leads 12 = (none, .ifCond .ne 7, [19]) := by decide +kernel
theorem r_Model_leads_15 : P_Model_leads 15 = (none, .iconst 0, []) := by decide +kernel
theorem r_Model_leads_16 : P_Model_leads 16 = (none, .goto 20, [36]) := by decide +kernel
theorem r_Model_leads_19 : P_Model_leads 19 = (none, .aload_n 0, []) := by decide +kernel
theorem r_Model_leads_20 : P_Model_leads 20 = (none, .iload_n 1, []) := by decide +kernel
theorem r_Model_leads_21 : P_Model_leads 21 = (none, .aload_n 0, []) := by decide +kernel
theorem r_Model_leads_22 : P_Model_leads 22 = (none, .getfield 47, []) := by decide +kernel
theorem r_Model_leads_25 : P_Model_leads 25 = (none, .sipush 600, []) := by decide +kernel
theorem r_Model_leads_28 : P_Model_leads 28 = (none, .iload_n 1, []) := by decide +kernel
theorem r_Model_leads_29 : P_Model_leads 29 = (none, .imul, []) := by decide +kernel
theorem r_Model_leads_30 : P_Model_leads 30 = (none, .iload_n 2, []) := by decide +kernel
theorem r_Model_leads_31 : P_Model_leads 31 = (none, .iadd, []) := by decide +kernel
theorem r_Model_leads_32 : P_Model_leads 32 = (none, .iaload, []) := by decide +kernel
theorem r_Model_leads_33 : P_Model_leads 33 = (none, .invokevirtual 131, []) := by decide +kernel
theorem r_Model_leads_36 : P_Model_leads 36 = (none, .istore 5, []) := by decide +kernel
theorem r_Model_leads_38 : P_Model_leads 38 = (none, .iconst (-1), []) := by decide +kernel
theorem r_Model_leads_39 : P_Model_leads 39 = (none, .istore 6, []) := by decide +kernel
theorem r_Model_leads_41 : P_Model_leads 41 = (none, .iconst 0, []) := by decide +kernel
theorem r_Model_leads_42 : P_Model_leads 42 = (none, .istore 7, []) := by decide +kernel
theorem r_Model_leads_44 : P_Model_leads 44 = (some [0, 1, 2, 3, 4, 5, 6, 7], .iload 7, []) := by decide +kernel
theorem r_Model_leads_46 : P_Model_leads 46 = (none, .iload 5, []) := by decide +kernel
theorem r_Model_leads_48 : P_Model_leads 48 = (none, .if_icmp .ge 61, [109]) := by decide +kernel
theorem r_Model_leads_51 : P_Model_leads 51 = (none, .aload_n 0, []) := by decide +kernel
theorem r_Model_leads_52 : P_Model_leads 52 = (none, .iload_n 1, []) := by decide +kernel
theorem r_Model_leads_53 : P_Model_leads 53 = (none, .iload_n 2, []) := by decide +kernel
theorem r_Model_leads_54 : P_Model_leads 54 = (none, .iload 7, []) := by decide +kernel
theorem r_Model_leads_56 : P_Model_leads 56 = (none, .invokevirtual 175, []) := by decide +kernel
theorem r_Model_leads_59 : P_Model_leads 59 = (none, .istore 8, []) := by decide +kernel
theorem r_Model_leads_61 : P_Model_leads 61 = (none, .iload 8, []) := by decide +kernel
theorem r_Model_leads_63 : P_Model_leads 63 = (none, .ifCond .lt 40, [103]) := by decide +kernel
theorem r_Model_leads_66 : P_Model_leads 66 = (none, .aload_n 0, []) := by decide +kernel
theorem r_Model_leads_67 : P_Model_leads 67 = (none, .getfield 72, []) := by decide +kernel
theorem r_Model_leads_70 : P_Model_leads 70 = (none, .iload 8, []) := by decide +kernel
theorem r_Model_leads_72 : P_Model_leads 72 = (none, .iaload, []) := by decide +kernel
theorem r_Model_leads_73 : P_Model_leads 73 = (none, .iload_n 3, []) := by decide +kernel
theorem r_Model_leads_74 : P_Model_leads 74 = (none, .if_icmp .ne 29, [103]) := by decide +kernel
theorem r_Model_leads_77 : P_Model_leads 77 = (none, .iload 6, []) := by decide +kernel
theorem r_Model_leads_79 : P_Model_leads 79 = (none, .ifCond .lt 20, [99]) := by decide +kernel
theorem r_Model_leads_82 : P_Model_leads 82 = (none, .aload_n 0, []) := by decide +kernel
theorem r_Model_leads_83 : P_Model_leads 83 = (none, .iload_n 1, []) := by decide +kernel
theorem r_Model_leads_84 : P_Model_leads 84 = (none, .iload 8, []) := by decide +kernel
theorem r_Model_leads_86 : P_Model_leads 86 = (none, .invokevirtual 165, []) := by decide +kernel
theorem r_Model_leads_89 : P_Model_leads 89 = (none, .aload_n 0, []) := by decide +kernel
theorem r_Model_leads_90 : P_Model_leads 90 = (none, .iload_n 1, []) := by decide +kernel
theorem r_Model_leads_91 : P_Model_leads 91 = (none, .iload 6, []) := by decide +kernel
theorem r_Model_leads_93 : P_Model_leads 93 = (none, .invokevirtual 165, []) := by decide +kernel
theorem r_Model_leads_96 : P_Model_leads 96 = (none, .if_icmp .ge 7, [103]) := by decide +kernel
theorem r_Model_leads_99 : P_Model_leads 99 = (none, .iload 8, []) := by decide +kernel
theorem r_Model_leads_101 : P_Model_leads 101 = (none, .istore 6, []) := by decide +kernel
theorem r_Model_leads_103 : P_Model_leads 103 = (none, .iinc 7 1, []) := by decide +kernel
theorem r_Model_leads_106 : P_Model_leads 106 = (none, .goto (-62), [44]) := by decide +kernel
theorem r_Model_leads_109 : P_Model_leads 109 = (none, .iload 6, []) := by decide +kernel
theorem r_Model_leads_111 : P_Model_leads 111 = (none, .ireturn, []) := by decide +kernel
def E_Model_leads : List (Nat × Ent) := [(524, (3, 3, 0, 0, T_Model_valuesAt)), (536, (3, 1, 0, 0, T_Model_sort)), (660, (3, 2, 0, 0, T_Model_numberOf)), (700, (4, 6, 0, 0, T_Model_target))]
def X_Model_leads : Cx := (llk (0, 0, 9) ftX11, llk 99 ntX11, llk none kcX11, llk none klX11, llk dEnt E_Model_leads, 7, 0, false)
theorem xok_Model_leads : Xok RX11 X_Model_leads := xok_of ftX11_ok ntX11_ok kcX11_ok klX11_ok (E := E_Model_leads) (List.forall_mem_cons.mpr ⟨co_X11_524, List.forall_mem_cons.mpr ⟨co_X11_536, List.forall_mem_cons.mpr ⟨co_X11_660, List.forall_mem_cons.mpr ⟨co_X11_700, fun _ h => absurd h List.not_mem_nil⟩⟩⟩⟩)
theorem xf_Model_leads_47 : xfl X_Model_leads 47 = (11, 13, 1) := by decide +kernel
theorem xf_Model_leads_72 : xfl X_Model_leads 72 = (11, 21, 1) := by decide +kernel
theorem xe_Model_leads_524 : xE X_Model_leads (4 * 131 + 0) = (3, 3, 0, 0, T_Model_valuesAt) := rfl
theorem xe_Model_leads_536 : xE X_Model_leads (4 * 134 + 0) = (3, 1, 0, 0, T_Model_sort) := rfl
theorem xe_Model_leads_660 : xE X_Model_leads (4 * 165 + 0) = (3, 2, 0, 0, T_Model_numberOf) := rfl
theorem xe_Model_leads_700 : xE X_Model_leads (4 * 175 + 0) = (4, 6, 0, 0, T_Model_target) := rfl
theorem xd_Model_leads : xd X_Model_leads = 7 := rfl
theorem xrb_Model_leads : xrb X_Model_leads = 0 := rfl
theorem xin_Model_leads : xin X_Model_leads = false := rfl
set_option maxHeartbeats 4000000 in
set_option maxRecDepth 100000 in
theorem S_Model_leads : Snd yX11_leads cX11_leads 9 (some .int) T_Model_leads 7 0 0 := by
  refine snd_of (X := X_Model_leads) (P := P_Model_leads) (tb := tb_Model_leads) (own := RX11) (by decide) rfl rfl (by decide +kernel) xok_Model_leads rfl rk0 (fun h => by first | rfl | cases h) ?_
  intro as M k has hM hT0
  obtain ⟨sz, sl, lay, ρ, σ, τ⟩ := M
  obtain ⟨o, as1, e, hlo, hT1⟩ := mkT_r hT0
  clear hT0
  subst e
  obtain ⟨p, as2, e, hT2⟩ := pI_x hT1
  clear hT1
  subst e
  obtain ⟨x, as3, e, hT3⟩ := pI_x hT2
  clear hT2
  subst e
  obtain ⟨n, as4, e, hT4⟩ := pI_x hT3
  clear hT3
  subst e
  obtain ⟨s, as5, e, hT5⟩ := pI_x hT4
  clear hT4
  subst e
  obtain ⟨e, hT⟩ := hT5
  subst e
  replace hlo : lay o = (21, 0) := hlo
  have r_p : -2147483648 ≤ p ∧ p ≤ 2147483647 := has (vI p) (by simp)
  have r_x : -2147483648 ≤ x ∧ x ≤ 2147483647 := has (vI x) (by simp)
  have r_n : -2147483648 ≤ n ∧ n ≤ 2147483647 := has (vI n) (by simp)
  have r_s : -2147483648 ≤ s ∧ s ≤ 2147483647 := has (vI s) (by simp)
  clear has
  replace hM : ∀ a i, -2147483648 ≤ σ a i ∧ σ a i ≤ 2147483647 := hM
  replace hT : TF_Model_leads o p x n s sz sl lay ρ σ τ k := hT
  unfold TF_Model_leads at hT
  obtain ⟨hL, U, len, st, hS, hR, hx, hs, hT⟩ := hT
  obtain ⟨hB, hl3, ⟨m4, m5, m6⟩, ⟨m7, m8, m9⟩, m12, ⟨m14, m13⟩, m15, ⟨m17, m16⟩, m26⟩ := (show MR σ o p U len st from hR)
  obtain ⟨b1, b2, b3, b4, b5, b6, b7⟩ := (show MB σ o p U len (st 1) from hB)
  obtain ⟨w0, w1, w2, w3, w4, w5, w6, w7, w8, w9, w10, w11, w12, w13, w14⟩ := (show SW U len st from hS)
  obtain ⟨J, hJd⟩ : ∃ J : Nat → List AV → Mm → Prop, J = (fun c vs M1 => c = 44 ∧ ∃ (c : Int → Int) (i b : Int), (0 ≤ i ∧ i ≤ mny U st s x) ∧ ((b = -1 ∧ ∀ j, 0 ≤ j ∧ j < i → 0 ≤ tgt U st x j → ¬ σ (o + 21) (tgt U st x j) = n) ∨ ((0 ≤ b ∧ b < st 0 7) ∧ (∃ j, (0 ≤ j ∧ j < i) ∧ tgt U st x j = b) ∧ σ (o + 21) b = n ∧ ∀ j, 0 ≤ j ∧ j < i → 0 ≤ tgt U st x j → σ (o + 21) (tgt U st x j) = n → numA U (st 2) b ≤ numA U (st 2) (tgt U st x j))) ∧ vs = [vR o, vI p, vI x, vI n, vI s, vI (mny U st s x), vI b, vI i] ∧ M1 = (sz, sl, lay, ρ, fu σ (o + 23) c, τ)) := ⟨_, rfl⟩
  obtain ⟨μ, hμ⟩ : ∃ μ : Nat → List AV → Mm → Nat, μ = (fun _ vs _ => (1500 - gI (vs.getD 7 vN)).toNat) := ⟨_, rfl⟩
  refine ⟨Nat.le_of_ble_eq_true rfl, J, μ, 68, ?_, ?_⟩
  · obtain ⟨mh, mp0, mp2, mp3, mp4, mp5, mp6, mp7, mp8, mp9, mp10, mp11, mp12, mp13, mp14, mp15, mp16, mp17, mp18, mp19, mp20, mp21, mp22, mp24, mp25, mp26, mp27, mq0, mq2, mq3, mq4, mq5, mq6, mq7, mq8, mq9, mq10, mq11, mq12, mq13, mq14, mq15, mq16, mq17, mq18, mq19, mq20, mq21, mq22, mq24, mq25, mq26, mq27⟩ := (show LModel lay ρ _ from hL)
    unfold wps
    simp only [si_iload_n0, si_iload_n1, si_iload_n2, si_iload_n3, si_iload, si_lload_n0, si_lload_n1, si_lload_n2, si_lload_n3, si_lload, si_aload_n0, si_aload_n1, si_aload_n2, si_aload_n3, si_aload, si_istore_n0, si_istore_n1, si_istore_n2, si_istore_n3, si_istore, si_astore_n0, si_astore_n1, si_astore_n2, si_astore_n3, si_astore, si_lstore_n0, si_lstore_n1, si_lstore_n2, si_lstore_n3, si_lstore, si_iconst, si_bipush, si_sipush, si_ldc, si_ldc2_w, si_lconst0, si_lconst1, si_aconst_null, si_iinc, si_dup, si_dup2, si_iadd, si_isub, si_imul, si_idiv, si_irem, si_iand, si_ior, si_ishl, si_ishr, si_ladd, si_lmul, si_lor, si_lxor, si_lshl, si_lushr, si_lcmp, si_i2b, si_i2l, si_l2i, si_icmp_eq, si_icmp_ne, si_icmp_lt, si_icmp_ge, si_icmp_gt, si_icmp_le, si_if_eq, si_if_ne, si_if_lt, si_if_ge, si_if_gt, si_if_le, si_ifnull, si_ifnonnull, si_goto, si_tableswitch, si_lookupswitch, si_getfield, si_putfield, si_getstatic, si_iaload, si_baload, si_laload, si_aaload, si_iastore, si_bastore, si_lastore, si_aastore, si_arraylength, si_new, si_newarray, si_anewarray, si_invokevirtual, si_invokespecial, si_invokestatic, si_ireturn, si_lreturn, si_areturn, si_return_, pI_e, pL_e, pR_e, pA_r, pA_n, pN_n, pN_r, oI_e, oL_e, oA_r, oA_n, lget_e, lrm1_0, lrm2_0, lrm1_i, lrm1_r, lrm1_n, lrm1_l, lrm2_i, lrm2_r, lrm2_n, lrm2_l, popN_0, popN_s, acat_i, acat_l, acat_r, acat_n, stw_0, stw_s, psh_s, psh_n, wgf_r, wgf_i, wgf_b, wgf_n, wgf_m, wpf_i, wpf_r, wpf_b, wnew_e, callE_e, rbk_0, rbk_1, tsw_0, tsw_s, lsw_0, lsw_s, wp_s, wq_t, wq_f, oV_e, pick_0, pick_s, oZ_e, oY_e, r_Model_leads_0, r_Model_leads_1, r_Model_leads_2, r_Model_leads_3, r_Model_leads_6, r_Model_leads_7, r_Model_leads_10, r_Model_leads_12, r_Model_leads_15, r_Model_leads_16, r_Model_leads_19, r_Model_leads_20, r_Model_leads_21, r_Model_leads_22, r_Model_leads_25, r_Model_leads_28, r_Model_leads_29, r_Model_leads_30, r_Model_leads_31, r_Model_leads_32, r_Model_leads_33, r_Model_leads_36, r_Model_leads_38, r_Model_leads_39, r_Model_leads_41, r_Model_leads_42, r_Model_leads_44, r_Model_leads_46, r_Model_leads_48, r_Model_leads_51, r_Model_leads_52, r_Model_leads_53, r_Model_leads_54, r_Model_leads_56, r_Model_leads_59, r_Model_leads_61, r_Model_leads_63, r_Model_leads_66, r_Model_leads_67, r_Model_leads_70, r_Model_leads_72, r_Model_leads_73, r_Model_leads_74, r_Model_leads_77, r_Model_leads_79, r_Model_leads_82, r_Model_leads_83, r_Model_leads_84, r_Model_leads_86, r_Model_leads_89, r_Model_leads_90, r_Model_leads_91, r_Model_leads_93, r_Model_leads_96, r_Model_leads_99, r_Model_leads_101, r_Model_leads_103, r_Model_leads_106, r_Model_leads_109, r_Model_leads_111, xf_Model_leads_47, xf_Model_leads_72, xe_Model_leads_524, xe_Model_leads_536, xe_Model_leads_660, xe_Model_leads_700, xd_Model_leads, xrb_Model_leads, xin_Model_leads, T_Model_valuesAt_e, TF_Model_valuesAt, T_Model_sort_e, TF_Model_sort, T_Model_numberOf_e, TF_Model_numberOf, T_Model_target_e, TF_Model_target, mh, mp0, mp2, mp3, mp4, mp5, mp6, mp7, mp8, mp9, mp10, mp11, mp12, mp13, mp14, mp15, mp16, mp17, mp18, mp19, mp20, mp21, mp22, mp24, mp25, mp26, mp27, mq0, mq2, mq3, mq4, mq5, mq6, mq7, mq8, mq9, mq10, mq11, mq12, mq13, mq14, mq15, mq16, mq17, mq18, mq19, mq20, mq21, mq22, mq24, mq25, mq26, mq27, Nat.reduceAdd, Nat.reduceMul, Nat.reduceEqDiff, reduceIte, Int.reduceNeg, Int.reduceLE, Int.reduceLT, Int.reduceAdd, Int.reduceSub, Int.reduceToNat, true_and, and_true, inR_e, Nat.reduceLT, Nat.reduceLeDiff, reduceCtorEq, Nat.add_zero, Nat.zero_add, or_false, false_or, or_true, true_or, not_true_eq_false, not_false_eq_true, Classical.not_not, Nat.add_eq_zero_iff, and_false, false_and, Int.reduceEq, List.mem_cons, List.not_mem_nil, forall_eq_or_imp, forall_eq, false_implies, implies_true, forall_const, aargs_0, aargs_i, aargs_r, aargs_l, aargs_n, nfT_e, eq_self, and_self, Nat.le_refl, fu_s, fu_fu, iu_iu, iu_s, fu_am, fu_a0, fu_0a, iu_l, Nat.reduceBEq, Int.reduceBEq, T_objInit_e]
    clear mp0 mp2 mp3 mp4 mp5 mp6 mp7 mp8 mp9 mp10 mp11 mp12 mp13 mp14 mp15 mp16 mp17 mp18 mp19 mp20 mp21 mp22 mp24 mp25 mp26 mp27
    have tv := hS.tv hx
    have t0 := tv.1.2.1
    have t4 := tv.1.2.2.1
    have nv := tv.1.1.nv b5
    have mx := m13 x hx
    rw [mx]
    have jn : ∀ c : Int → Int, J 44 [vR o, vI p, vI x, vI n, vI s, vI (mny U st s x), vI (-1), vI 0] (sz, sl, lay, ρ, fu σ (o + 23) c, τ) := fun c => by
      rw [hJd]
      exact ⟨rfl, c, 0, -1, ⟨by omega, by unfold mny; split <;> omega⟩, Or.inl ⟨rfl, fun j hj => by omega⟩, rfl, rfl⟩
    have e1 : ¬ (srt U (st 2 x) = 2 ∧ s = 0) → mny U st s x = nV U (st 1) (st 2 x) := fun h => by unfold mny; rw [if_neg h]
    refine ⟨hL, U, len, st 1, hB, by omega, by omega, fun e => ⟨by omega, by omega, by omega, by omega, hL, U, len, st 1, hB, tv.1, fun c => ?_⟩, fun e => ⟨fun e0 => ⟨by omega, by omega, by omega, by omega, hL, U, len, st 1, hB, tv.1, fun c => ?_⟩, fun e0 => ?_⟩⟩
    · rw [← e1 (fun h => e h.1)]; exact jn c
    · rw [← e1 (fun h => e0 h.2)]; exact jn c
    · have := jn (σ (o + 23))
      rw [fu_self] at this
      unfold mny at this
      rw [if_pos ⟨e, e0⟩] at this
      exact this
  · intro cp vs M1 hvs hM1 hlen hJ
    rw [hJd] at hJ
    obtain ⟨rfl, c, i, b, g1, g2, rfl, rfl⟩ := hJ
    have tv := hS.tv hx
    have nv := tv.1.1.nv b5
    have tR := tgt_R (U := U) (st := st) w9.1 x i
    have mR : mny U st s x ≤ nV U (st 1) (st 2 x) := by unfold mny; split <;> omega
    (obtain ⟨mh, mp0, mp2, mp3, mp4, mp5, mp6, mp7, mp8, mp9, mp10, mp11, mp12, mp13, mp14, mp15, mp16, mp17, mp18, mp19, mp20, mp21, mp22, mp24, mp25, mp26, mp27, mq0, mq2, mq3, mq4, mq5, mq6, mq7, mq8, mq9, mq10, mq11, mq12, mq13, mq14, mq15, mq16, mq17, mq18, mq19, mq20, mq21, mq22, mq24, mq25, mq26, mq27⟩ := (show LModel lay ρ _ from hL); unfold wps; simp only [Option.getD_some, List.zip_cons_cons, List.zip_nil_left, List.zip_nil_right, List.zip_nil_right, MB_fu, MR_fu, si_iload_n0, si_iload_n1, si_iload_n2, si_iload_n3, si_iload, si_lload_n0, si_lload_n1, si_lload_n2, si_lload_n3, si_lload, si_aload_n0, si_aload_n1, si_aload_n2, si_aload_n3, si_aload, si_istore_n0, si_istore_n1, si_istore_n2, si_istore_n3, si_istore, si_astore_n0, si_astore_n1, si_astore_n2, si_astore_n3, si_astore, si_lstore_n0, si_lstore_n1, si_lstore_n2, si_lstore_n3, si_lstore, si_iconst, si_bipush, si_sipush, si_ldc, si_ldc2_w, si_lconst0, si_lconst1, si_aconst_null, si_iinc, si_dup, si_dup2, si_iadd, si_isub, si_imul, si_idiv, si_irem, si_iand, si_ior, si_ishl, si_ishr, si_ladd, si_lmul, si_lor, si_lxor, si_lshl, si_lushr, si_lcmp, si_i2b, si_i2l, si_l2i, si_icmp_eq, si_icmp_ne, si_icmp_lt, si_icmp_ge, si_icmp_gt, si_icmp_le, si_if_eq, si_if_ne, si_if_lt, si_if_ge, si_if_gt, si_if_le, si_ifnull, si_ifnonnull, si_goto, si_tableswitch, si_lookupswitch, si_getfield, si_putfield, si_getstatic, si_iaload, si_baload, si_laload, si_aaload, si_iastore, si_bastore, si_lastore, si_aastore, si_arraylength, si_new, si_newarray, si_anewarray, si_invokevirtual, si_invokespecial, si_invokestatic, si_ireturn, si_lreturn, si_areturn, si_return_, pI_e, pL_e, pR_e, pA_r, pA_n, pN_n, pN_r, oI_e, oL_e, oA_r, oA_n, lget_e, lrm1_0, lrm2_0, lrm1_i, lrm1_r, lrm1_n, lrm1_l, lrm2_i, lrm2_r, lrm2_n, lrm2_l, popN_0, popN_s, acat_i, acat_l, acat_r, acat_n, stw_0, stw_s, psh_s, psh_n, wgf_r, wgf_i, wgf_b, wgf_n, wgf_m, wpf_i, wpf_r, wpf_b, wnew_e, callE_e, rbk_0, rbk_1, tsw_0, tsw_s, lsw_0, lsw_s, wp_s, wq_t, wq_f, oV_e, pick_0, pick_s, oZ_e, oY_e, r_Model_leads_0, r_Model_leads_1, r_Model_leads_2, r_Model_leads_3, r_Model_leads_6, r_Model_leads_7, r_Model_leads_10, r_Model_leads_12, r_Model_leads_15, r_Model_leads_16, r_Model_leads_19, r_Model_leads_20, r_Model_leads_21, r_Model_leads_22, r_Model_leads_25, r_Model_leads_28, r_Model_leads_29, r_Model_leads_30, r_Model_leads_31, r_Model_leads_32, r_Model_leads_33, r_Model_leads_36, r_Model_leads_38, r_Model_leads_39, r_Model_leads_41, r_Model_leads_42, r_Model_leads_44, r_Model_leads_46, r_Model_leads_48, r_Model_leads_51, r_Model_leads_52, r_Model_leads_53, r_Model_leads_54, r_Model_leads_56, r_Model_leads_59, r_Model_leads_61, r_Model_leads_63, r_Model_leads_66, r_Model_leads_67, r_Model_leads_70, r_Model_leads_72, r_Model_leads_73, r_Model_leads_74, r_Model_leads_77, r_Model_leads_79, r_Model_leads_82, r_Model_leads_83, r_Model_leads_84, r_Model_leads_86, r_Model_leads_89, r_Model_leads_90, r_Model_leads_91, r_Model_leads_93, r_Model_leads_96, r_Model_leads_99, r_Model_leads_101, r_Model_leads_103, r_Model_leads_106, r_Model_leads_109, r_Model_leads_111, xf_Model_leads_47, xf_Model_leads_72, xe_Model_leads_524, xe_Model_leads_536, xe_Model_leads_660, xe_Model_leads_700, xd_Model_leads, xrb_Model_leads, xin_Model_leads, T_Model_valuesAt_e, TF_Model_valuesAt, T_Model_sort_e, TF_Model_sort, T_Model_numberOf_e, TF_Model_numberOf, T_Model_target_e, TF_Model_target, mh, mp0, mp2, mp3, mp4, mp5, mp6, mp7, mp8, mp9, mp10, mp11, mp12, mp13, mp14, mp15, mp16, mp17, mp18, mp19, mp20, mp21, mp22, mp24, mp25, mp26, mp27, mq0, mq2, mq3, mq4, mq5, mq6, mq7, mq8, mq9, mq10, mq11, mq12, mq13, mq14, mq15, mq16, mq17, mq18, mq19, mq20, mq21, mq22, mq24, mq25, mq26, mq27, Nat.reduceAdd, Nat.reduceMul, Nat.reduceEqDiff, reduceIte, Int.reduceNeg, Int.reduceLE, Int.reduceLT, Int.reduceAdd, Int.reduceSub, Int.reduceToNat, true_and, and_true, inR_e, Nat.reduceLT, Nat.reduceLeDiff, reduceCtorEq, Nat.add_zero, Nat.zero_add, or_false, false_or, or_true, true_or, not_true_eq_false, not_false_eq_true, Classical.not_not, Nat.add_eq_zero_iff, and_false, false_and, Int.reduceEq, List.mem_cons, List.not_mem_nil, forall_eq_or_imp, forall_eq, false_implies, implies_true, forall_const, aargs_0, aargs_i, aargs_r, aargs_l, aargs_n, nfT_e, eq_self, and_self, Nat.le_refl, fu_s, fu_fu, iu_iu, iu_s, fu_am, fu_a0, fu_0a, iu_l, Nat.reduceBEq, Int.reduceBEq, T_objInit_e]; clear mp0 mp2 mp3 mp4 mp5 mp6 mp7 mp8 mp9 mp10 mp11 mp12 mp13 mp14 mp15 mp16 mp17 mp18 mp19 mp20 mp21 mp22 mp24 mp25 mp26 mp27)
    refine ⟨fun h => hT b ?_ c, fun h => ⟨hL, U, len, st, hS, hR, hx, by omega, fun d => ?_⟩⟩
    · rcases g2 with ⟨q1, q2⟩ | ⟨q1, ⟨j, hj, ej⟩, q3, q4⟩
      · refine Or.inl ⟨q1, fun v hv => ?_⟩
        obtain ⟨h0, j, hj, ej⟩ := (edg_m hx hs).mp hv
        rw [← ej]
        exact q2 j (by omega) (by omega)
      · refine Or.inr ⟨q1.1, (edg_m hx hs).mpr ⟨q1.1, j, by omega, ej⟩, q3, fun v hv hf => ?_⟩
        obtain ⟨h0, j, hj, ej⟩ := (edg_m hx hs).mp hv
        rw [← ej] at hf ⊢
        exact q4 j (by omega) (by omega) hf
    · have keep : (0 ≤ tgt U st x i → σ (o + 21) (tgt U st x i) = n → 0 ≤ b ∧ numA U (st 2) b ≤ numA U (st 2) (tgt U st x i)) → J 44 [vR o, vI p, vI x, vI n, vI s, vI (mny U st s x), vI b, vI (i + 1)] (sz, sl, lay, ρ, fu σ (o + 23) d, τ) := by
        intro hk
        rw [hJd]
        refine ⟨rfl, d, i + 1, b, by omega, ?_, rfl, rfl⟩
        rcases g2 with ⟨q1, q2⟩ | ⟨q1, ⟨j, hj, ej⟩, q3, q4⟩
        · refine Or.inl ⟨q1, fun j hj h0 hf => ?_⟩
          by_cases e : j = i
          · rw [e] at h0 hf
            have := (hk h0 hf).1
            omega
          · exact q2 j (by omega) h0 hf
        · refine Or.inr ⟨q1, ⟨j, by omega, ej⟩, q3, fun j hj h0 hf => ?_⟩
          by_cases e : j = i
          · rw [e] at h0 hf ⊢
            exact (hk h0 hf).2
          · exact q4 j (by omega) h0 hf
      have take : 0 ≤ tgt U st x i → σ (o + 21) (tgt U st x i) = n → (b < 0 ∨ numA U (st 2) (tgt U st x i) < numA U (st 2) b) → J 44 [vR o, vI p, vI x, vI n, vI s, vI (mny U st s x), vI (tgt U st x i), vI (i + 1)] (sz, sl, lay, ρ, fu σ (o + 23) d, τ) := by
        intro h0 hf hb
        rw [hJd]
        refine ⟨rfl, d, i + 1, _, by omega, Or.inr ⟨by omega, ⟨i, by omega, rfl⟩, hf, fun j hj h0 hf => ?_⟩, rfl, rfl⟩
        by_cases e : j = i
        · rw [e]; exact Int.le_refl _
        · rcases g2 with ⟨q1, q2⟩ | ⟨q1, ⟨j2, hj2, ej⟩, q3, q4⟩
          · exact absurd hf (q2 j (by omega) h0)
          · have := q4 j (by omega) h0 hf
            omega
      refine ⟨fun a => ⟨by omega, keep (fun z => by omega), (by rw [hμ]; simp only [gI_e, List.getD_cons_succ, List.getD_cons_zero]; omega)⟩, fun a => ⟨by omega, by omega, fun a2 => ⟨by omega, keep (fun _ z => absurd z a2), (by rw [hμ]; simp only [gI_e, List.getD_cons_succ, List.getD_cons_zero]; omega)⟩, fun a2 => ⟨fun a3 => ⟨by omega, take (by omega) a2 (Or.inl a3), (by rw [hμ]; simp only [gI_e, List.getD_cons_succ, List.getD_cons_zero]; omega)⟩, fun a3 => ?_⟩⟩⟩
      have hbR : 0 ≤ b ∧ b < st 0 7 := by
        rcases g2 with q | q
        · omega
        · exact q.1
      have tb := hS.tv hbR
      have tt := hS.tv (i := tgt U st x i) (by omega)
      have tb0 := tb.1.2.1
      have tb4 := tb.1.2.2.1
      have tt0 := tt.1.2.1
      have tt4 := tt.1.2.2.1
      rw [m13 b hbR, m13 (tgt U st x i) (by omega)]
      refine ⟨hL, U, len, st 1, hB, by omega, by omega, hL, U, len, st 1, hB, by omega, by omega, fun a4 => ⟨by omega, keep (fun _ _ => ⟨hbR.1, a4⟩), (by rw [hμ]; simp only [gI_e, List.getD_cons_succ, List.getD_cons_zero]; omega)⟩, fun a4 => ⟨by omega, take (by omega) a2 (Or.inr ?_), (by rw [hμ]; simp only [gI_e, List.getD_cons_succ, List.getD_cons_zero]; omega)⟩⟩
      unfold numA
      omega

theorem co_X3_45 : CallOK RX3 (.invokespecial 11) (1, 1, 6, 680, T_Kinds_init) := call_I S_Kinds_init (by decide) rfl (by decide +kernel) (by decide +kernel) (by decide +kernel) (by decide +kernel) (by decide +kernel) (fun as M k h => by obtain ⟨b, As, h1, -⟩ := T_Kinds_init_r as M k h; exact ⟨b, As, h1⟩)
theorem co_X3_81 : CallOK RX3 (.invokespecial 20) (1, 1, 12, 21402, T_Things_init) := call_I S_Things_init (by decide) rfl (by decide +kernel) (by decide +kernel) (by decide +kernel) (by decide +kernel) (by decide +kernel) (fun as M k h => by obtain ⟨b, As, h1, -⟩ := T_Things_init_r as M k h; exact ⟨b, As, h1⟩)
theorem co_X3_109 : CallOK RX3 (.invokespecial 27) (1, 1, 2, 200, T_Roots_init) := call_I S_Roots_init (by decide) rfl (by decide +kernel) (by decide +kernel) (by decide +kernel) (by decide +kernel) (by decide +kernel) (fun as M k h => by obtain ⟨b, As, h1, -⟩ := T_Roots_init_r as M k h; exact ⟨b, As, h1⟩)
theorem co_X3_13 : CallOK RX3 (.invokespecial 3) (1, 0, 0, 0, T_objInit) := call_objInit (by decide +kernel) (by decide +kernel) (by decide +kernel)
theorem co_X3_137 : CallOK RX3 (.invokespecial 34) (1, 1, 2, 8000, T_Holes_init) := call_I S_Holes_init (by decide) rfl (by decide +kernel) (by decide +kernel) (by decide +kernel) (by decide +kernel) (by decide +kernel) (fun as M k h => by obtain ⟨b, As, h1, -⟩ := T_Holes_init_r as M k h; exact ⟨b, As, h1⟩)
theorem co_X3_165 : CallOK RX3 (.invokespecial 41) (1, 1, 3, 1800, T_Spread_init) := call_I S_Spread_init (by decide) rfl (by decide +kernel) (by decide +kernel) (by decide +kernel) (by decide +kernel) (by decide +kernel) (fun as M k h => by obtain ⟨b, As, h1, -⟩ := T_Spread_init_r as M k h; exact ⟨b, As, h1⟩)
theorem co_X3_205 : CallOK RX3 (.invokespecial 51) (1, 1, 4, 2400, T_Life_init) := call_I S_Life_init (by decide) rfl (by decide +kernel) (by decide +kernel) (by decide +kernel) (by decide +kernel) (by decide +kernel) (fun as M k h => by obtain ⟨b, As, h1, -⟩ := T_Life_init_r as M k h; exact ⟨b, As, h1⟩)
theorem co_X3_233 : CallOK RX3 (.invokespecial 58) (1, 1, 3, 1800, T_Twins_init) := call_I S_Twins_init (by decide) rfl (by decide +kernel) (by decide +kernel) (by decide +kernel) (by decide +kernel) (by decide +kernel) (fun as M k h => by obtain ⟨b, As, h1, -⟩ := T_Twins_init_r as M k h; exact ⟨b, As, h1⟩)
def TF_Picture_init (o : Nat) (sz sl : Nat) (lay : Nat → Nat × Int) (ρ : Nat → Int → Nat) (σ : Nat → Int → Int) (τ : Nat → Int → Int64) (k : Option AV → Mm → Prop) : Prop := (sz = o + 1 ∧ 1 ≤ o ∧ ∀ i, σ o i = 0) ∧ (∀ (lay2 : Nat → Nat × Int) (ρ2 : Nat → Int → Nat) (σ2 : Nat → Int → Int) (τ2 : Nat → Int → Int64), NF lay lay2 ρ ρ2 σ σ2 τ τ2 o → LPic lay2 ρ2 o → Zr σ2 o 43 → k none (o + 44, sl + 38133, lay2, ρ2, σ2, τ2))
def T_Picture_init : Tr := mkT 3 fun o as M k => as = [] ∧ TF_Picture_init o M.1 M.2.1 M.2.2.1 M.2.2.2.1 M.2.2.2.2.1 M.2.2.2.2.2 k
theorem T_Picture_init_e {o : Nat} {sz sl : Nat} {lay : Nat → Nat × Int} {ρ : Nat → Int → Nat} {σ : Nat → Int → Int} {τ : Nat → Int → Int64} {k : Option AV → Mm → Prop} : T_Picture_init [vR o] (sz, sl, lay, ρ, σ, τ) k = (lay o = (13, 0) ∧ TF_Picture_init o sz sl lay ρ σ τ k) := by simp [T_Picture_init, mkT_e, pI_e, pR_e, pL_e]
theorem T_Picture_init_r (as : List AV) (M : Mm) (k : Option AV → Mm → Prop) (h : T_Picture_init as M k) : ∃ b As, as = vR b :: As ∧ M.2.2.1 b = (10 + 3, 0) := by
  obtain ⟨b, As, h1, h2, -⟩ := mkT_r h
  exact ⟨b, As, h1, h2⟩
def tb_Picture_init : List (Nat × Option (List Nat) × Instr × List Nat) := [(0, none, .aload_n 0, []), (1, none, .invokespecial 3, []), (4, none, .aload_n 0, []), (5, none, .new 9, []), (8, none, .dup, []), (9, none, .invokespecial 11, []), (12, none, .putfield 12, []), (15, none, .aload_n 0, []), (16, none, .new 18, []), (19, none, .dup, []), (20, none, .invokespecial 20, []), (23, none, .putfield 21, []), (26, none, .aload_n 0, []), (27, none, .new 25, []), (30, none, .dup, []), (31, none, .invokespecial 27, []), (34, none, .putfield 28, []), (37, none, .aload_n 0, []), (38, none, .new 32, []), (41, none, .dup, []), (42, none, .invokespecial 34, []), (45, none, .putfield 35, []), (48, none, .aload_n 0, []), (49, none, .new 39, []), (52, none, .dup, []), (53, none, .invokespecial 41, []), (56, none, .putfield 42, []), (59, none, .aload_n 0, []), (60, none, .new 39, []), (63, none, .dup, []), (64, none, .invokespecial 41, []), (67, none, .putfield 46, []), (70, none, .aload_n 0, []), (71, none, .new 49, []), (74, none, .dup, []), (75, none, .invokespecial 51, []), (78, none, .putfield 52, []), (81, none, .aload_n 0, []), (82, none, .new 56, []), (85, none, .dup, []), (86, none, .invokespecial 58, []), (89, none, .putfield 59, []), (92, none, .aload_n 0, []), (93, none, .iconst 0, []), (94, none, .putfield 63, []), (97, none, .aload_n 0, []), (98, none, .iconst 0, []), (99, none, .putfield 67, []), (102, none, .aload_n 0, []), (103, none, .iconst 0, []), (104, none, .putfield 70, []), (107, none, .aload_n 0, []), (108, none, .iconst 0, []), (109, none, .putfield 73, []), (112, none, .return_, [])]
def P_Picture_init : Nat → Option (List Nat) × Instr × List Nat := plk tb_Picture_init
theorem r_Picture_init_0 : P_Picture_init 0 = (none, .aload_n 0, []) := by decide +kernel
theorem r_Picture_init_1 : P_Picture_init 1 = (none, .invokespecial 3, []) := by decide +kernel
theorem r_Picture_init_4 : P_Picture_init 4 = (none, .aload_n 0, []) := by decide +kernel
theorem r_Picture_init_5 : P_Picture_init 5 = (none, .new 9, []) := by decide +kernel
theorem r_Picture_init_8 : P_Picture_init 8 = (none, .dup, []) := by decide +kernel
theorem r_Picture_init_9 : P_Picture_init 9 = (none, .invokespecial 11, []) := by decide +kernel
theorem r_Picture_init_12 : P_Picture_init 12 = (none, .putfield 12, []) := by decide +kernel
theorem r_Picture_init_15 : P_Picture_init 15 = (none, .aload_n 0, []) := by decide +kernel
theorem r_Picture_init_16 : P_Picture_init 16 = (none, .new 18, []) := by decide +kernel
theorem r_Picture_init_19 : P_Picture_init 19 = (none, .dup, []) := by decide +kernel
theorem r_Picture_init_20 : P_Picture_init 20 = (none, .invokespecial 20, []) := by decide +kernel
theorem r_Picture_init_23 : P_Picture_init 23 = (none, .putfield 21, []) := by decide +kernel
theorem r_Picture_init_26 : P_Picture_init 26 = (none, .aload_n 0, []) := by decide +kernel
theorem r_Picture_init_27 : P_Picture_init 27 = (none, .new 25, []) := by decide +kernel
theorem r_Picture_init_30 : P_Picture_init 30 = (none, .dup, []) := by decide +kernel
theorem r_Picture_init_31 : P_Picture_init 31 = (none, .invokespecial 27, []) := by decide +kernel
theorem r_Picture_init_34 : P_Picture_init 34 = (none, .putfield 28, []) := by decide +kernel
theorem r_Picture_init_37 : P_Picture_init 37 = (none, .aload_n 0, []) := by decide +kernel
theorem r_Picture_init_38 : P_Picture_init 38 = (none, .new 32, []) := by decide +kernel
theorem r_Picture_init_41 : P_Picture_init 41 = (none, .dup, []) := by decide +kernel
theorem r_Picture_init_42 : P_Picture_init 42 = (none, .invokespecial 34, []) := by decide +kernel
theorem r_Picture_init_45 : P_Picture_init 45 = (none, .putfield 35, []) := by decide +kernel
theorem r_Picture_init_48 : P_Picture_init 48 = (none, .aload_n 0, []) := by decide +kernel
theorem r_Picture_init_49 : P_Picture_init 49 = (none, .new 39, []) := by decide +kernel
theorem r_Picture_init_52 : P_Picture_init 52 = (none, .dup, []) := by decide +kernel
theorem r_Picture_init_53 : P_Picture_init 53 = (none, .invokespecial 41, []) := by decide +kernel
theorem r_Picture_init_56 : P_Picture_init 56 = (none, .putfield 42, []) := by decide +kernel
theorem r_Picture_init_59 : P_Picture_init 59 = (none, .aload_n 0, []) := by decide +kernel
theorem r_Picture_init_60 : P_Picture_init 60 = (none, .new 39, []) := by decide +kernel
theorem r_Picture_init_63 : P_Picture_init 63 = (none, .dup, []) := by decide +kernel
theorem r_Picture_init_64 : P_Picture_init 64 = (none, .invokespecial 41, []) := by decide +kernel
theorem r_Picture_init_67 : P_Picture_init 67 = (none, .putfield 46, []) := by decide +kernel
theorem r_Picture_init_70 : P_Picture_init 70 = (none, .aload_n 0, []) := by decide +kernel
theorem r_Picture_init_71 : P_Picture_init 71 = (none, .new 49, []) := by decide +kernel
theorem r_Picture_init_74 : P_Picture_init 74 = (none, .dup, []) := by decide +kernel
theorem r_Picture_init_75 : P_Picture_init 75 = (none, .invokespecial 51, []) := by decide +kernel
theorem r_Picture_init_78 : P_Picture_init 78 = (none, .putfield 52, []) := by decide +kernel
theorem r_Picture_init_81 : P_Picture_init 81 = (none, .aload_n 0, []) := by decide +kernel
theorem r_Picture_init_82 : P_Picture_init 82 = (none, .new 56, []) := by decide +kernel
theorem r_Picture_init_85 : P_Picture_init 85 = (none, .dup, []) := by decide +kernel
theorem r_Picture_init_86 : P_Picture_init 86 = (none, .invokespecial 58, []) := by decide +kernel
theorem r_Picture_init_89 : P_Picture_init 89 = (none, .putfield 59, []) := by decide +kernel
theorem r_Picture_init_92 : P_Picture_init 92 = (none, .aload_n 0, []) := by decide +kernel
theorem r_Picture_init_93 : P_Picture_init 93 = (none, .iconst 0, []) := by decide +kernel
theorem r_Picture_init_94 : P_Picture_init 94 = (none, .putfield 63, []) := by decide +kernel
theorem r_Picture_init_97 : P_Picture_init 97 = (none, .aload_n 0, []) := by decide +kernel
theorem r_Picture_init_98 : P_Picture_init 98 = (none, .iconst 0, []) := by decide +kernel
theorem r_Picture_init_99 : P_Picture_init 99 = (none, .putfield 67, []) := by decide +kernel
theorem r_Picture_init_102 : P_Picture_init 102 = (none, .aload_n 0, []) := by decide +kernel
theorem r_Picture_init_103 : P_Picture_init 103 = (none, .iconst 0, []) := by decide +kernel
theorem r_Picture_init_104 : P_Picture_init 104 = (none, .putfield 70, []) := by decide +kernel
theorem r_Picture_init_107 : P_Picture_init 107 = (none, .aload_n 0, []) := by decide +kernel
theorem r_Picture_init_108 : P_Picture_init 108 = (none, .iconst 0, []) := by decide +kernel
theorem r_Picture_init_109 : P_Picture_init 109 = (none, .putfield 73, []) := by decide +kernel
theorem r_Picture_init_112 : P_Picture_init 112 = (none, .return_, []) := by decide +kernel
def E_Picture_init : List (Nat × Ent) := [(45, (1, 1, 6, 680, T_Kinds_init)), (81, (1, 1, 12, 21402, T_Things_init)), (109, (1, 1, 2, 200, T_Roots_init)), (13, (1, 0, 0, 0, T_objInit)), (137, (1, 1, 2, 8000, T_Holes_init)), (165, (1, 1, 3, 1800, T_Spread_init)), (205, (1, 1, 4, 2400, T_Life_init)), (233, (1, 1, 3, 1800, T_Twins_init))]
def X_Picture_init : Cx := (llk (0, 0, 9) ftX3, llk 99 ntX3, llk none kcX3, llk none klX3, llk dEnt E_Picture_init, 2, 3, true)
theorem xok_Picture_init : Xok RX3 X_Picture_init := xok_of ftX3_ok ntX3_ok kcX3_ok klX3_ok (E := E_Picture_init) (List.forall_mem_cons.mpr ⟨co_X3_45, List.forall_mem_cons.mpr ⟨co_X3_81, List.forall_mem_cons.mpr ⟨co_X3_109, List.forall_mem_cons.mpr ⟨co_X3_13, List.forall_mem_cons.mpr ⟨co_X3_137, List.forall_mem_cons.mpr ⟨co_X3_165, List.forall_mem_cons.mpr ⟨co_X3_205, List.forall_mem_cons.mpr ⟨co_X3_233, fun _ h => absurd h List.not_mem_nil⟩⟩⟩⟩⟩⟩⟩⟩)
theorem xf_Picture_init_12 : xfl X_Picture_init 12 = (3, 0, 1) := by decide +kernel
theorem xf_Picture_init_21 : xfl X_Picture_init 21 = (3, 1, 1) := by decide +kernel
theorem xf_Picture_init_28 : xfl X_Picture_init 28 = (3, 2, 1) := by decide +kernel
theorem xf_Picture_init_35 : xfl X_Picture_init 35 = (3, 3, 1) := by decide +kernel
theorem xf_Picture_init_42 : xfl X_Picture_init 42 = (3, 4, 1) := by decide +kernel
theorem xf_Picture_init_46 : xfl X_Picture_init 46 = (3, 5, 1) := by decide +kernel
theorem xf_Picture_init_52 : xfl X_Picture_init 52 = (3, 6, 1) := by decide +kernel
theorem xf_Picture_init_59 : xfl X_Picture_init 59 = (3, 7, 1) := by decide +kernel
theorem xf_Picture_init_63 : xfl X_Picture_init 63 = (3, 8, 0) := by decide +kernel
theorem xf_Picture_init_67 : xfl X_Picture_init 67 = (3, 9, 0) := by decide +kernel
theorem xf_Picture_init_70 : xfl X_Picture_init 70 = (3, 10, 0) := by decide +kernel
theorem xf_Picture_init_73 : xfl X_Picture_init 73 = (3, 11, 0) := by decide +kernel
theorem xn_Picture_init_9 : xnc X_Picture_init 9 = 1 := by decide +kernel
theorem xn_Picture_init_18 : xnc X_Picture_init 18 = 7 := by decide +kernel
theorem xn_Picture_init_25 : xnc X_Picture_init 25 = 4 := by decide +kernel
theorem xn_Picture_init_32 : xnc X_Picture_init 32 = 0 := by decide +kernel
theorem xn_Picture_init_39 : xnc X_Picture_init 39 = 5 := by decide +kernel
theorem xn_Picture_init_49 : xnc X_Picture_init 49 = 2 := by decide +kernel
theorem xn_Picture_init_56 : xnc X_Picture_init 56 = 9 := by decide +kernel
theorem xe_Picture_init_45 : xE X_Picture_init (4 * 11 + 1) = (1, 1, 6, 680, T_Kinds_init) := rfl
theorem xe_Picture_init_81 : xE X_Picture_init (4 * 20 + 1) = (1, 1, 12, 21402, T_Things_init) := rfl
theorem xe_Picture_init_109 : xE X_Picture_init (4 * 27 + 1) = (1, 1, 2, 200, T_Roots_init) := rfl
theorem xe_Picture_init_13 : xE X_Picture_init (4 * 3 + 1) = (1, 0, 0, 0, T_objInit) := rfl
theorem xe_Picture_init_137 : xE X_Picture_init (4 * 34 + 1) = (1, 1, 2, 8000, T_Holes_init) := rfl
theorem xe_Picture_init_165 : xE X_Picture_init (4 * 41 + 1) = (1, 1, 3, 1800, T_Spread_init) := rfl
theorem xe_Picture_init_205 : xE X_Picture_init (4 * 51 + 1) = (1, 1, 4, 2400, T_Life_init) := rfl
theorem xe_Picture_init_233 : xE X_Picture_init (4 * 58 + 1) = (1, 1, 3, 1800, T_Twins_init) := rfl
theorem xd_Picture_init : xd X_Picture_init = 2 := rfl
theorem xrb_Picture_init : xrb X_Picture_init = 3 := rfl
theorem xin_Picture_init : xin X_Picture_init = true := rfl
set_option maxHeartbeats 4000000 in
set_option maxRecDepth 100000 in
theorem S_Picture_init : Snd yX3_init cX3_init 1 none T_Picture_init 2 43 38133 := by
  refine snd_of (X := X_Picture_init) (P := P_Picture_init) (tb := tb_Picture_init) (own := RX3) (by decide) rfl rfl (by decide +kernel) xok_Picture_init rfl rk3 (fun h => by first | rfl | cases h) ?_
  intro as M k has hM hT0
  obtain ⟨sz, sl, lay, ρ, σ, τ⟩ := M
  obtain ⟨o, as1, e, hlo, hT1⟩ := mkT_r hT0
  clear hT0
  subst e
  obtain ⟨e, hT⟩ := hT1
  subst e
  replace hlo : lay o = (13, 0) := hlo
  clear has
  replace hM : ∀ a i, -2147483648 ≤ σ a i ∧ σ a i ≤ 2147483647 := hM
  replace hT : TF_Picture_init o sz sl lay ρ σ τ k := hT
  unfold TF_Picture_init at hT
  obtain ⟨⟨hsz, ho, hz⟩, hT⟩ := hT
  subst hsz
  refine ⟨Nat.le_of_ble_eq_true rfl, fun _ _ _ => False, fun _ _ _ => 0, 63, ?_, fun _ _ _ _ _ _ h => h.elim⟩
  unfold wps
  simp only [si_iload_n0, si_iload_n1, si_iload_n2, si_iload_n3, si_iload, si_lload_n0, si_lload_n1, si_lload_n2, si_lload_n3, si_lload, si_aload_n0, si_aload_n1, si_aload_n2, si_aload_n3, si_aload, si_istore_n0, si_istore_n1, si_istore_n2, si_istore_n3, si_istore, si_astore_n0, si_astore_n1, si_astore_n2, si_astore_n3, si_astore, si_lstore_n0, si_lstore_n1, si_lstore_n2, si_lstore_n3, si_lstore, si_iconst, si_bipush, si_sipush, si_ldc, si_ldc2_w, si_lconst0, si_lconst1, si_aconst_null, si_iinc, si_dup, si_dup2, si_iadd, si_isub, si_imul, si_idiv, si_irem, si_iand, si_ior, si_ishl, si_ishr, si_ladd, si_lmul, si_lor, si_lxor, si_lshl, si_lushr, si_lcmp, si_i2b, si_i2l, si_l2i, si_icmp_eq, si_icmp_ne, si_icmp_lt, si_icmp_ge, si_icmp_gt, si_icmp_le, si_if_eq, si_if_ne, si_if_lt, si_if_ge, si_if_gt, si_if_le, si_ifnull, si_ifnonnull, si_goto, si_tableswitch, si_lookupswitch, si_getfield, si_putfield, si_getstatic, si_iaload, si_baload, si_laload, si_aaload, si_iastore, si_bastore, si_lastore, si_aastore, si_arraylength, si_new, si_newarray, si_anewarray, si_invokevirtual, si_invokespecial, si_invokestatic, si_ireturn, si_lreturn, si_areturn, si_return_, pI_e, pL_e, pR_e, pA_r, pA_n, pN_n, pN_r, oI_e, oL_e, oA_r, oA_n, lget_e, lrm1_0, lrm2_0, lrm1_i, lrm1_r, lrm1_n, lrm1_l, lrm2_i, lrm2_r, lrm2_n, lrm2_l, popN_0, popN_s, acat_i, acat_l, acat_r, acat_n, stw_0, stw_s, psh_s, psh_n, wgf_r, wgf_i, wgf_b, wgf_n, wgf_m, wpf_i, wpf_r, wpf_b, wnew_e, callE_e, rbk_0, rbk_1, tsw_0, tsw_s, lsw_0, lsw_s, wp_s, wq_t, wq_f, oV_e, pick_0, pick_s, oZ_e, oY_e, r_Picture_init_0, r_Picture_init_1, r_Picture_init_4, r_Picture_init_5, r_Picture_init_8, r_Picture_init_9, r_Picture_init_12, r_Picture_init_15, r_Picture_init_16, r_Picture_init_19, r_Picture_init_20, r_Picture_init_23, r_Picture_init_26, r_Picture_init_27, r_Picture_init_30, r_Picture_init_31, r_Picture_init_34, r_Picture_init_37, r_Picture_init_38, r_Picture_init_41, r_Picture_init_42, r_Picture_init_45, r_Picture_init_48, r_Picture_init_49, r_Picture_init_52, r_Picture_init_53, r_Picture_init_56, r_Picture_init_59, r_Picture_init_60, r_Picture_init_63, r_Picture_init_64, r_Picture_init_67, r_Picture_init_70, r_Picture_init_71, r_Picture_init_74, r_Picture_init_75, r_Picture_init_78, r_Picture_init_81, r_Picture_init_82, r_Picture_init_85, r_Picture_init_86, r_Picture_init_89, r_Picture_init_92, r_Picture_init_93, r_Picture_init_94, r_Picture_init_97, r_Picture_init_98, r_Picture_init_99, r_Picture_init_102, r_Picture_init_103, r_Picture_init_104, r_Picture_init_107, r_Picture_init_108, r_Picture_init_109, r_Picture_init_112, xf_Picture_init_12, xf_Picture_init_21, xf_Picture_init_28, xf_Picture_init_35, xf_Picture_init_42, xf_Picture_init_46, xf_Picture_init_52, xf_Picture_init_59, xf_Picture_init_63, xf_Picture_init_67, xf_Picture_init_70, xf_Picture_init_73, xn_Picture_init_9, xn_Picture_init_18, xn_Picture_init_25, xn_Picture_init_32, xn_Picture_init_39, xn_Picture_init_49, xn_Picture_init_56, xe_Picture_init_45, xe_Picture_init_81, xe_Picture_init_109, xe_Picture_init_13, xe_Picture_init_137, xe_Picture_init_165, xe_Picture_init_205, xe_Picture_init_233, xd_Picture_init, xrb_Picture_init, xin_Picture_init, T_Kinds_init_e, TF_Kinds_init, T_Things_init_e, TF_Things_init, T_Roots_init_e, TF_Roots_init, T_Holes_init_e, TF_Holes_init, T_Spread_init_e, TF_Spread_init, T_Life_init_e, TF_Life_init, T_Twins_init_e, TF_Twins_init, akd_i, akd_b, akd_z, akd_l, Nat.add_assoc, Nat.le_add_right, nfA_0, nfA_1, nfA_2, nfA_3, nfA_4, nfA_5, nfA_6, nfA_7, nfA_8, nfA_9, nfA_10, nfA_11, hlo, Nat.reduceAdd, Nat.reduceMul, Nat.reduceEqDiff, reduceIte, Int.reduceNeg, Int.reduceLE, Int.reduceLT, Int.reduceAdd, Int.reduceSub, Int.reduceToNat, true_and, and_true, inR_e, Nat.reduceLT, Nat.reduceLeDiff, reduceCtorEq, Nat.add_zero, Nat.zero_add, or_false, false_or, or_true, true_or, not_true_eq_false, not_false_eq_true, Classical.not_not, Nat.add_eq_zero_iff, and_false, false_and, Int.reduceEq, List.mem_cons, List.not_mem_nil, forall_eq_or_imp, forall_eq, false_implies, implies_true, forall_const, aargs_0, aargs_i, aargs_r, aargs_l, aargs_n, nfT_e, eq_self, and_self, Nat.le_refl, fu_s, fu_fu, iu_iu, iu_s, fu_am, fu_a0, fu_0a, iu_l, Nat.reduceBEq, Int.reduceBEq, T_objInit_e]
  have A0 : ∀ a, a < o → lay a = lay a ∧ ρ a = ρ a ∧ σ a = σ a ∧ τ a = τ a := fun a _ => ⟨rfl, rfl, rfl, rfl⟩
  have Z0 : Zr σ o 0 := fun a ha i => by rw [show a = o by omega]; exact hz i
  have lo0 : lay o = (13, 0) := hlo
  intro lay1 ρ1 σ1 τ1 n1 l1_1 z1
  have b1 : ∀ a, a < o + 1 → ¬ a = o → lay1 a = lay a ∧ ρ1 a = ρ a ∧ σ1 a = σ a ∧ τ1 a = τ a := fun a ha ho => by
    have h := n1 a ha
    simp only [fu_n ho, fu_n (show ¬ a = o + 1 by omega)] at h
    exact h
  have c1 := n1 o (by omega)
  simp only [fu_a0, fu_s, Nat.reduceBEq] at c1
  have A1 : ∀ a, a < o → lay1 a = lay a ∧ ρ1 a = ρ a ∧ σ1 a = σ a ∧ τ1 a = τ a := fun a ha => by
    obtain ⟨e1, e2, e3, e4⟩ := b1 a (by omega) (by omega)
    obtain ⟨f1, f2, f3, f4⟩ := A0 a ha
    exact ⟨e1.trans f1, e2.trans f2, e3.trans f3, e4.trans f4⟩
  have lo1 : lay1 o = (13, 0) := c1.1.trans lo0
  have Z1 : Zr σ1 o 7 := fun a ha x => by
    by_cases h : o + 1 ≤ a
    · exact z1 a (by omega) x
    · by_cases h2 : a = o
      · rw [h2, c1.2.2.1]; exact Z0 o (by omega) x
      · rw [(b1 a (by omega) h2).2.2.1]; exact Z0 a (by omega) x
  refine ⟨lo1, ?_⟩
  intro lay2 ρ2 σ2 τ2 n2 l2_2 z2
  have b2 : ∀ a, a < o + 8 → ¬ a = o → lay2 a = lay1 a ∧ ρ2 a = ρ1 a ∧ σ2 a = σ1 a ∧ τ2 a = τ1 a := fun a ha ho => by
    have h := n2 a ha
    simp only [fu_n ho, fu_n (show ¬ a = o + 8 by omega)] at h
    exact h
  have c2 := n2 o (by omega)
  simp only [fu_a0, fu_s, Nat.reduceBEq] at c2
  have A2 : ∀ a, a < o → lay2 a = lay a ∧ ρ2 a = ρ a ∧ σ2 a = σ a ∧ τ2 a = τ a := fun a ha => by
    obtain ⟨e1, e2, e3, e4⟩ := b2 a (by omega) (by omega)
    obtain ⟨f1, f2, f3, f4⟩ := A1 a ha
    exact ⟨e1.trans f1, e2.trans f2, e3.trans f3, e4.trans f4⟩
  have lo2 : lay2 o = (13, 0) := c2.1.trans lo1
  have Z2 : Zr σ2 o 20 := fun a ha x => by
    by_cases h : o + 8 ≤ a
    · exact z2 a (by omega) x
    · by_cases h2 : a = o
      · rw [h2, c2.2.2.1]; exact Z1 o (by omega) x
      · rw [(b2 a (by omega) h2).2.2.1]; exact Z1 a (by omega) x
  have l2_1 := l1_1.cg (lay2 := lay2) (ρ2 := ρ2) (fun a ha => (b2 a (by omega) (by omega)).1) (b2 (o + 1) (by omega) (by omega)).2.1
  refine ⟨lo2, ?_⟩
  intro lay3 ρ3 σ3 τ3 n3 l3_3 z3
  have b3 : ∀ a, a < o + 21 → ¬ a = o → lay3 a = lay2 a ∧ ρ3 a = ρ2 a ∧ σ3 a = σ2 a ∧ τ3 a = τ2 a := fun a ha ho => by
    have h := n3 a ha
    simp only [fu_n ho, fu_n (show ¬ a = o + 21 by omega)] at h
    exact h
  have c3 := n3 o (by omega)
  simp only [fu_a0, fu_s, Nat.reduceBEq] at c3
  have A3 : ∀ a, a < o → lay3 a = lay a ∧ ρ3 a = ρ a ∧ σ3 a = σ a ∧ τ3 a = τ a := fun a ha => by
    obtain ⟨e1, e2, e3, e4⟩ := b3 a (by omega) (by omega)
    obtain ⟨f1, f2, f3, f4⟩ := A2 a ha
    exact ⟨e1.trans f1, e2.trans f2, e3.trans f3, e4.trans f4⟩
  have lo3 : lay3 o = (13, 0) := c3.1.trans lo2
  have Z3 : Zr σ3 o 23 := fun a ha x => by
    by_cases h : o + 21 ≤ a
    · exact z3 a (by omega) x
    · by_cases h2 : a = o
      · rw [h2, c3.2.2.1]; exact Z2 o (by omega) x
      · rw [(b3 a (by omega) h2).2.2.1]; exact Z2 a (by omega) x
  have l3_1 := l2_1.cg (lay2 := lay3) (ρ2 := ρ3) (fun a ha => (b3 a (by omega) (by omega)).1) (b3 (o + 1) (by omega) (by omega)).2.1
  have l3_2 := l2_2.cg (lay2 := lay3) (ρ2 := ρ3) (fun a ha => (b3 a (by omega) (by omega)).1) (b3 (o + 8) (by omega) (by omega)).2.1
  refine ⟨lo3, ?_⟩
  intro lay4 ρ4 σ4 τ4 n4 l4_4 z4
  have b4 : ∀ a, a < o + 24 → ¬ a = o → lay4 a = lay3 a ∧ ρ4 a = ρ3 a ∧ σ4 a = σ3 a ∧ τ4 a = τ3 a := fun a ha ho => by
    have h := n4 a ha
    simp only [fu_n ho, fu_n (show ¬ a = o + 24 by omega)] at h
    exact h
  have c4 := n4 o (by omega)
  simp only [fu_a0, fu_s, Nat.reduceBEq] at c4
  have A4 : ∀ a, a < o → lay4 a = lay a ∧ ρ4 a = ρ a ∧ σ4 a = σ a ∧ τ4 a = τ a := fun a ha => by
    obtain ⟨e1, e2, e3, e4⟩ := b4 a (by omega) (by omega)
    obtain ⟨f1, f2, f3, f4⟩ := A3 a ha
    exact ⟨e1.trans f1, e2.trans f2, e3.trans f3, e4.trans f4⟩
  have lo4 : lay4 o = (13, 0) := c4.1.trans lo3
  have Z4 : Zr σ4 o 26 := fun a ha x => by
    by_cases h : o + 24 ≤ a
    · exact z4 a (by omega) x
    · by_cases h2 : a = o
      · rw [h2, c4.2.2.1]; exact Z3 o (by omega) x
      · rw [(b4 a (by omega) h2).2.2.1]; exact Z3 a (by omega) x
  have l4_1 := l3_1.cg (lay2 := lay4) (ρ2 := ρ4) (fun a ha => (b4 a (by omega) (by omega)).1) (b4 (o + 1) (by omega) (by omega)).2.1
  have l4_2 := l3_2.cg (lay2 := lay4) (ρ2 := ρ4) (fun a ha => (b4 a (by omega) (by omega)).1) (b4 (o + 8) (by omega) (by omega)).2.1
  have l4_3 := l3_3.cg (lay2 := lay4) (ρ2 := ρ4) (fun a ha => (b4 a (by omega) (by omega)).1) (b4 (o + 21) (by omega) (by omega)).2.1
  refine ⟨lo4, ?_⟩
  intro lay5 ρ5 σ5 τ5 n5 l5_5 z5
  have b5 : ∀ a, a < o + 27 → ¬ a = o → lay5 a = lay4 a ∧ ρ5 a = ρ4 a ∧ σ5 a = σ4 a ∧ τ5 a = τ4 a := fun a ha ho => by
    have h := n5 a ha
    simp only [fu_n ho, fu_n (show ¬ a = o + 27 by omega)] at h
    exact h
  have c5 := n5 o (by omega)
  simp only [fu_a0, fu_s, Nat.reduceBEq] at c5
  have A5 : ∀ a, a < o → lay5 a = lay a ∧ ρ5 a = ρ a ∧ σ5 a = σ a ∧ τ5 a = τ a := fun a ha => by
    obtain ⟨e1, e2, e3, e4⟩ := b5 a (by omega) (by omega)
    obtain ⟨f1, f2, f3, f4⟩ := A4 a ha
    exact ⟨e1.trans f1, e2.trans f2, e3.trans f3, e4.trans f4⟩
  have lo5 : lay5 o = (13, 0) := c5.1.trans lo4
  have Z5 : Zr σ5 o 30 := fun a ha x => by
    by_cases h : o + 27 ≤ a
    · exact z5 a (by omega) x
    · by_cases h2 : a = o
      · rw [h2, c5.2.2.1]; exact Z4 o (by omega) x
      · rw [(b5 a (by omega) h2).2.2.1]; exact Z4 a (by omega) x
  have l5_1 := l4_1.cg (lay2 := lay5) (ρ2 := ρ5) (fun a ha => (b5 a (by omega) (by omega)).1) (b5 (o + 1) (by omega) (by omega)).2.1
  have l5_2 := l4_2.cg (lay2 := lay5) (ρ2 := ρ5) (fun a ha => (b5 a (by omega) (by omega)).1) (b5 (o + 8) (by omega) (by omega)).2.1
  have l5_3 := l4_3.cg (lay2 := lay5) (ρ2 := ρ5) (fun a ha => (b5 a (by omega) (by omega)).1) (b5 (o + 21) (by omega) (by omega)).2.1
  have l5_4 := l4_4.cg (lay2 := lay5) (ρ2 := ρ5) (fun a ha => (b5 a (by omega) (by omega)).1) (b5 (o + 24) (by omega) (by omega)).2.1
  refine ⟨lo5, ?_⟩
  intro lay6 ρ6 σ6 τ6 n6 l6_6 z6
  have b6 : ∀ a, a < o + 31 → ¬ a = o → lay6 a = lay5 a ∧ ρ6 a = ρ5 a ∧ σ6 a = σ5 a ∧ τ6 a = τ5 a := fun a ha ho => by
    have h := n6 a ha
    simp only [fu_n ho, fu_n (show ¬ a = o + 31 by omega)] at h
    exact h
  have c6 := n6 o (by omega)
  simp only [fu_a0, fu_s, Nat.reduceBEq] at c6
  have A6 : ∀ a, a < o → lay6 a = lay a ∧ ρ6 a = ρ a ∧ σ6 a = σ a ∧ τ6 a = τ a := fun a ha => by
    obtain ⟨e1, e2, e3, e4⟩ := b6 a (by omega) (by omega)
    obtain ⟨f1, f2, f3, f4⟩ := A5 a ha
    exact ⟨e1.trans f1, e2.trans f2, e3.trans f3, e4.trans f4⟩
  have lo6 : lay6 o = (13, 0) := c6.1.trans lo5
  have Z6 : Zr σ6 o 34 := fun a ha x => by
    by_cases h : o + 31 ≤ a
    · exact z6 a (by omega) x
    · by_cases h2 : a = o
      · rw [h2, c6.2.2.1]; exact Z5 o (by omega) x
      · rw [(b6 a (by omega) h2).2.2.1]; exact Z5 a (by omega) x
  have l6_1 := l5_1.cg (lay2 := lay6) (ρ2 := ρ6) (fun a ha => (b6 a (by omega) (by omega)).1) (b6 (o + 1) (by omega) (by omega)).2.1
  have l6_2 := l5_2.cg (lay2 := lay6) (ρ2 := ρ6) (fun a ha => (b6 a (by omega) (by omega)).1) (b6 (o + 8) (by omega) (by omega)).2.1
  have l6_3 := l5_3.cg (lay2 := lay6) (ρ2 := ρ6) (fun a ha => (b6 a (by omega) (by omega)).1) (b6 (o + 21) (by omega) (by omega)).2.1
  have l6_4 := l5_4.cg (lay2 := lay6) (ρ2 := ρ6) (fun a ha => (b6 a (by omega) (by omega)).1) (b6 (o + 24) (by omega) (by omega)).2.1
  have l6_5 := l5_5.cg (lay2 := lay6) (ρ2 := ρ6) (fun a ha => (b6 a (by omega) (by omega)).1) (b6 (o + 27) (by omega) (by omega)).2.1
  refine ⟨lo6, ?_⟩
  intro lay7 ρ7 σ7 τ7 n7 l7_7 z7
  have b7 : ∀ a, a < o + 35 → ¬ a = o → lay7 a = lay6 a ∧ ρ7 a = ρ6 a ∧ σ7 a = σ6 a ∧ τ7 a = τ6 a := fun a ha ho => by
    have h := n7 a ha
    simp only [fu_n ho, fu_n (show ¬ a = o + 35 by omega)] at h
    exact h
  have c7 := n7 o (by omega)
  simp only [fu_a0, fu_s, Nat.reduceBEq] at c7
  have A7 : ∀ a, a < o → lay7 a = lay a ∧ ρ7 a = ρ a ∧ σ7 a = σ a ∧ τ7 a = τ a := fun a ha => by
    obtain ⟨e1, e2, e3, e4⟩ := b7 a (by omega) (by omega)
    obtain ⟨f1, f2, f3, f4⟩ := A6 a ha
    exact ⟨e1.trans f1, e2.trans f2, e3.trans f3, e4.trans f4⟩
  have lo7 : lay7 o = (13, 0) := c7.1.trans lo6
  have Z7 : Zr σ7 o 39 := fun a ha x => by
    by_cases h : o + 35 ≤ a
    · exact z7 a (by omega) x
    · by_cases h2 : a = o
      · rw [h2, c7.2.2.1]; exact Z6 o (by omega) x
      · rw [(b7 a (by omega) h2).2.2.1]; exact Z6 a (by omega) x
  have l7_1 := l6_1.cg (lay2 := lay7) (ρ2 := ρ7) (fun a ha => (b7 a (by omega) (by omega)).1) (b7 (o + 1) (by omega) (by omega)).2.1
  have l7_2 := l6_2.cg (lay2 := lay7) (ρ2 := ρ7) (fun a ha => (b7 a (by omega) (by omega)).1) (b7 (o + 8) (by omega) (by omega)).2.1
  have l7_3 := l6_3.cg (lay2 := lay7) (ρ2 := ρ7) (fun a ha => (b7 a (by omega) (by omega)).1) (b7 (o + 21) (by omega) (by omega)).2.1
  have l7_4 := l6_4.cg (lay2 := lay7) (ρ2 := ρ7) (fun a ha => (b7 a (by omega) (by omega)).1) (b7 (o + 24) (by omega) (by omega)).2.1
  have l7_5 := l6_5.cg (lay2 := lay7) (ρ2 := ρ7) (fun a ha => (b7 a (by omega) (by omega)).1) (b7 (o + 27) (by omega) (by omega)).2.1
  have l7_6 := l6_6.cg (lay2 := lay7) (ρ2 := ρ7) (fun a ha => (b7 a (by omega) (by omega)).1) (b7 (o + 31) (by omega) (by omega)).2.1
  refine ⟨lo7, ?_⟩
  intro lay8 ρ8 σ8 τ8 n8 l8_8 z8
  have b8 : ∀ a, a < o + 40 → ¬ a = o → lay8 a = lay7 a ∧ ρ8 a = ρ7 a ∧ σ8 a = σ7 a ∧ τ8 a = τ7 a := fun a ha ho => by
    have h := n8 a ha
    simp only [fu_n ho, fu_n (show ¬ a = o + 40 by omega)] at h
    exact h
  have c8 := n8 o (by omega)
  simp only [fu_a0, fu_s, Nat.reduceBEq] at c8
  have A8 : ∀ a, a < o → lay8 a = lay a ∧ ρ8 a = ρ a ∧ σ8 a = σ a ∧ τ8 a = τ a := fun a ha => by
    obtain ⟨e1, e2, e3, e4⟩ := b8 a (by omega) (by omega)
    obtain ⟨f1, f2, f3, f4⟩ := A7 a ha
    exact ⟨e1.trans f1, e2.trans f2, e3.trans f3, e4.trans f4⟩
  have lo8 : lay8 o = (13, 0) := c8.1.trans lo7
  have Z8 : Zr σ8 o 43 := fun a ha x => by
    by_cases h : o + 40 ≤ a
    · exact z8 a (by omega) x
    · by_cases h2 : a = o
      · rw [h2, c8.2.2.1]; exact Z7 o (by omega) x
      · rw [(b8 a (by omega) h2).2.2.1]; exact Z7 a (by omega) x
  have l8_1 := l7_1.cg (lay2 := lay8) (ρ2 := ρ8) (fun a ha => (b8 a (by omega) (by omega)).1) (b8 (o + 1) (by omega) (by omega)).2.1
  have l8_2 := l7_2.cg (lay2 := lay8) (ρ2 := ρ8) (fun a ha => (b8 a (by omega) (by omega)).1) (b8 (o + 8) (by omega) (by omega)).2.1
  have l8_3 := l7_3.cg (lay2 := lay8) (ρ2 := ρ8) (fun a ha => (b8 a (by omega) (by omega)).1) (b8 (o + 21) (by omega) (by omega)).2.1
  have l8_4 := l7_4.cg (lay2 := lay8) (ρ2 := ρ8) (fun a ha => (b8 a (by omega) (by omega)).1) (b8 (o + 24) (by omega) (by omega)).2.1
  have l8_5 := l7_5.cg (lay2 := lay8) (ρ2 := ρ8) (fun a ha => (b8 a (by omega) (by omega)).1) (b8 (o + 27) (by omega) (by omega)).2.1
  have l8_6 := l7_6.cg (lay2 := lay8) (ρ2 := ρ8) (fun a ha => (b8 a (by omega) (by omega)).1) (b8 (o + 31) (by omega) (by omega)).2.1
  have l8_7 := l7_7.cg (lay2 := lay8) (ρ2 := ρ8) (fun a ha => (b8 a (by omega) (by omega)).1) (b8 (o + 35) (by omega) (by omega)).2.1
  refine ⟨lo8, ?_⟩
  have rr : ∀ x, iu (ρ8 o) 7 (o + 40) x = iu (iu (iu (iu (iu (iu (iu (iu (ρ o) 0 (o + 1)) 1 (o + 8)) 2 (o + 21)) 3 (o + 24)) 4 (o + 27)) 5 (o + 31)) 6 (o + 35)) 7 (o + 40) x := fun x => by rw [c8.2.1, c7.2.1, c6.2.1, c5.2.1, c4.2.1, c3.2.1, c2.2.1, c1.2.1]
  refine ⟨lo8, lo8, lo8, lo8, hT _ _ _ _ (fun a ha => ?_) ?_ ?_⟩
  · rw [fu_n (show ¬ a = o by omega), fu_n (show ¬ a = o by omega)]
    exact A8 a ha
  · refine ⟨?_, (l8_1.cg (fun _ _ => rfl) (fu_n (by omega))), (l8_2.cg (fun _ _ => rfl) (fu_n (by omega))), (l8_3.cg (fun _ _ => rfl) (fu_n (by omega))), (l8_4.cg (fun _ _ => rfl) (fu_n (by omega))), (l8_5.cg (fun _ _ => rfl) (fu_n (by omega))), (l8_6.cg (fun _ _ => rfl) (fu_n (by omega))), (l8_7.cg (fun _ _ => rfl) (fu_n (by omega))), (l8_8.cg (fun _ _ => rfl) (fu_n (by omega)))⟩
    unfold LPicture
    rw [fu_s]
    simp only [rr, iu_s, iu_l, Int.reduceBEq]
    exact ⟨lo8, trivial, trivial, trivial, trivial, trivial, trivial, trivial, trivial, l8_1.1, l8_2.1, l8_3.1, l8_4.1, l8_5.1, l8_6.1, l8_7.1, l8_8.1⟩
  · intro a ha x
    by_cases h : a = o
    · rw [h, fu_s]
      repeat (first | exact Z8 o (by omega) _ | refine iu_z (fun x => ?_))
    · rw [fu_n h]; exact Z8 a (by omega) x

def kSort (σ : Nat → Int → Int) (o : Nat) (j : Int) : Nat → Int → Int
  | 0, _ => -1
  | n + 1, x => if 0 ≤ x ∧ x < 40 ∧ ¬ σ (o + 1) x = 0 then (if 0 ≤ j - σ (o + 3) x then (if j - σ (o + 3) x < 12 then σ (o + 6) (x * 12 + (j - σ (o + 3) x)) else -1) else kSort σ o j n (σ (o + 2) x)) else -1
def kDesc (σ : Nat → Int → Int) (o : Nat) (y : Int) : Nat → Int → Bool
  | 0, _ => false
  | n + 1, x => if 0 ≤ x ∧ x < 40 ∧ ¬ σ (o + 1) x = 0 then (if x = y then true else kDesc σ o y n (σ (o + 2) x)) else false
def TF_Kinds_size (o : Nat) (sz sl : Nat) (lay : Nat → Nat × Int) (ρ : Nat → Int → Nat) (σ : Nat → Int → Int) (τ : Nat → Int → Int64) (k : Option AV → Mm → Prop) : Prop := k (some (vI (σ o 6))) (sz, sl, lay, ρ, σ, τ)
def T_Kinds_size : Tr := mkT 1 fun o as M k => as = [] ∧ TF_Kinds_size o M.1 M.2.1 M.2.2.1 M.2.2.2.1 M.2.2.2.2.1 M.2.2.2.2.2 k
theorem T_Kinds_size_e {o : Nat} {sz sl : Nat} {lay : Nat → Nat × Int} {ρ : Nat → Int → Nat} {σ : Nat → Int → Int} {τ : Nat → Int → Int64} {k : Option AV → Mm → Prop} : T_Kinds_size [vR o] (sz, sl, lay, ρ, σ, τ) k = (lay o = (11, 0) ∧ TF_Kinds_size o sz sl lay ρ σ τ k) := by simp [T_Kinds_size, mkT_e, pI_e, pR_e, pL_e]
theorem T_Kinds_size_r (as : List AV) (M : Mm) (k : Option AV → Mm → Prop) (h : T_Kinds_size as M k) : ∃ b As, as = vR b :: As ∧ M.2.2.1 b = (10 + 1, 0) := by
  obtain ⟨b, As, h1, h2, -⟩ := mkT_r h
  exact ⟨b, As, h1, h2⟩
def tb_Kinds_size : List (Nat × Option (List Nat) × Instr × List Nat) := [(0, none, .aload_n 0, []), (1, none, .getfield 31, []), (4, none, .ireturn, [])]
def P_Kinds_size : Nat → Option (List Nat) × Instr × List Nat := plk tb_Kinds_size
theorem r_Kinds_size_0 : P_Kinds_size 0 = (none, .aload_n 0, []) := by decide +kernel
theorem r_Kinds_size_1 : P_Kinds_size 1 = (none, .getfield 31, []) := by decide +kernel
theorem r_Kinds_size_4 : P_Kinds_size 4 = (none, .ireturn, []) := by decide +kernel
def E_Kinds_size : List (Nat × Ent) := []
def X_Kinds_size : Cx := (llk (0, 0, 9) ftX1, llk 99 ntX1, llk none kcX1, llk none klX1, llk dEnt E_Kinds_size, 0, 0, false)
theorem xok_Kinds_size : Xok RX1 X_Kinds_size := xok_of ftX1_ok ntX1_ok kcX1_ok klX1_ok (E := E_Kinds_size) (fun _ h => absurd h List.not_mem_nil)
theorem xf_Kinds_size_31 : xfl X_Kinds_size 31 = (1, 6, 0) := by decide +kernel
theorem xd_Kinds_size : xd X_Kinds_size = 0 := rfl
theorem xrb_Kinds_size : xrb X_Kinds_size = 0 := rfl
theorem xin_Kinds_size : xin X_Kinds_size = false := rfl
set_option maxHeartbeats 4000000 in
set_option maxRecDepth 100000 in
theorem S_Kinds_size : Snd yX1_size cX1_size 1 (some .int) T_Kinds_size 0 0 0 := by
  refine snd_of (X := X_Kinds_size) (P := P_Kinds_size) (tb := tb_Kinds_size) (own := RX1) (by decide) rfl rfl (by decide +kernel) xok_Kinds_size rfl rk0 (fun h => by first | rfl | cases h) ?_
  intro as M k has hM hT0
  obtain ⟨sz, sl, lay, ρ, σ, τ⟩ := M
  obtain ⟨o, as1, e, hlo, hT1⟩ := mkT_r hT0
  clear hT0
  subst e
  obtain ⟨e, hT⟩ := hT1
  subst e
  replace hlo : lay o = (11, 0) := hlo
  clear has
  replace hM : ∀ a i, -2147483648 ≤ σ a i ∧ σ a i ≤ 2147483647 := hM
  replace hT : TF_Kinds_size o sz sl lay ρ σ τ k := hT
  unfold TF_Kinds_size at hT
  refine ⟨Nat.le_of_ble_eq_true rfl, fun _ _ _ => False, fun _ _ _ => 0, 11, ?_, fun _ _ _ _ _ _ h => h.elim⟩
  unfold wps
  simp only [si_iload_n0, si_iload_n1, si_iload_n2, si_iload_n3, si_iload, si_lload_n0, si_lload_n1, si_lload_n2, si_lload_n3, si_lload, si_aload_n0, si_aload_n1, si_aload_n2, si_aload_n3, si_aload, si_istore_n0, si_istore_n1, si_istore_n2, si_istore_n3, si_istore, si_astore_n0, si_astore_n1, si_astore_n2, si_astore_n3, si_astore, si_lstore_n0, si_lstore_n1, si_lstore_n2, si_lstore_n3, si_lstore, si_iconst, si_bipush, si_sipush, si_ldc, si_ldc2_w, si_lconst0, si_lconst1, si_aconst_null, si_iinc, si_dup, si_dup2, si_iadd, si_isub, si_imul, si_idiv, si_irem, si_iand, si_ior, si_ishl, si_ishr, si_ladd, si_lmul, si_lor, si_lxor, si_lshl, si_lushr, si_lcmp, si_i2b, si_i2l, si_l2i, si_icmp_eq, si_icmp_ne, si_icmp_lt, si_icmp_ge, si_icmp_gt, si_icmp_le, si_if_eq, si_if_ne, si_if_lt, si_if_ge, si_if_gt, si_if_le, si_ifnull, si_ifnonnull, si_goto, si_tableswitch, si_lookupswitch, si_getfield, si_putfield, si_getstatic, si_iaload, si_baload, si_laload, si_aaload, si_iastore, si_bastore, si_lastore, si_aastore, si_arraylength, si_new, si_newarray, si_anewarray, si_invokevirtual, si_invokespecial, si_invokestatic, si_ireturn, si_lreturn, si_areturn, si_return_, pI_e, pL_e, pR_e, pA_r, pA_n, pN_n, pN_r, oI_e, oL_e, oA_r, oA_n, lget_e, lrm1_0, lrm2_0, lrm1_i, lrm1_r, lrm1_n, lrm1_l, lrm2_i, lrm2_r, lrm2_n, lrm2_l, popN_0, popN_s, acat_i, acat_l, acat_r, acat_n, stw_0, stw_s, psh_s, psh_n, wgf_r, wgf_i, wgf_b, wgf_n, wgf_m, wpf_i, wpf_r, wpf_b, wnew_e, callE_e, rbk_0, rbk_1, tsw_0, tsw_s, lsw_0, lsw_s, wp_s, wq_t, wq_f, oV_e, pick_0, pick_s, oZ_e, oY_e, r_Kinds_size_0, r_Kinds_size_1, r_Kinds_size_4, xf_Kinds_size_31, xd_Kinds_size, xrb_Kinds_size, xin_Kinds_size, Nat.reduceAdd, Nat.reduceMul, Nat.reduceEqDiff, reduceIte, Int.reduceNeg, Int.reduceLE, Int.reduceLT, Int.reduceAdd, Int.reduceSub, Int.reduceToNat, true_and, and_true, inR_e, Nat.reduceLT, Nat.reduceLeDiff, reduceCtorEq, Nat.add_zero, Nat.zero_add, or_false, false_or, or_true, true_or, not_true_eq_false, not_false_eq_true, Classical.not_not, Nat.add_eq_zero_iff, and_false, false_and, Int.reduceEq, List.mem_cons, List.not_mem_nil, forall_eq_or_imp, forall_eq, false_implies, implies_true, forall_const, aargs_0, aargs_i, aargs_r, aargs_l, aargs_n, nfT_e, eq_self, and_self, Nat.le_refl, fu_s, fu_fu, iu_iu, iu_s, fu_am, fu_a0, fu_0a, iu_l, Nat.reduceBEq, Int.reduceBEq, T_objInit_e]
  exact ⟨hlo, hT⟩
def TF_Kinds_knows (o : Nat) (x : Int) (sz sl : Nat) (lay : Nat → Nat × Int) (ρ : Nat → Int → Nat) (σ : Nat → Int → Int) (τ : Nat → Int → Int64) (k : Option AV → Mm → Prop) : Prop := LKinds lay ρ o ∧ (0 ≤ x ∧ x < 40 ∧ ¬ σ (o + 1) x = 0 → k (some (vI (1))) (sz, sl, lay, ρ, σ, τ)) ∧ (¬ (0 ≤ x ∧ x < 40 ∧ ¬ σ (o + 1) x = 0) → k (some (vI (0))) (sz, sl, lay, ρ, σ, τ))
def T_Kinds_knows : Tr := mkT 1 fun o as M k => pI as fun x as => as = [] ∧ TF_Kinds_knows o x M.1 M.2.1 M.2.2.1 M.2.2.2.1 M.2.2.2.2.1 M.2.2.2.2.2 k
theorem T_Kinds_knows_e {o : Nat} {x : Int} {sz sl : Nat} {lay : Nat → Nat × Int} {ρ : Nat → Int → Nat} {σ : Nat → Int → Int} {τ : Nat → Int → Int64} {k : Option AV → Mm → Prop} : T_Kinds_knows [vR o, vI x] (sz, sl, lay, ρ, σ, τ) k = (lay o = (11, 0) ∧ TF_Kinds_knows o x sz sl lay ρ σ τ k) := by simp [T_Kinds_knows, mkT_e, pI_e, pR_e, pL_e]
theorem T_Kinds_knows_r (as : List AV) (M : Mm) (k : Option AV → Mm → Prop) (h : T_Kinds_knows as M k) : ∃ b As, as = vR b :: As ∧ M.2.2.1 b = (10 + 1, 0) := by
  obtain ⟨b, As, h1, h2, -⟩ := mkT_r h
  exact ⟨b, As, h1, h2⟩
def tb_Kinds_knows : List (Nat × Option (List Nat) × Instr × List Nat) := [(0, none, .iload_n 1, []), (1, none, .ifCond .lt 22, [23]), (4, none, .iload_n 1, []), (5, none, .bipush 40, []), (7, none, .if_icmp .ge 16, [23]), (10, none, .aload_n 0, []), (11, none, .getfield 9, []), (14, none, .iload_n 1, []), (15, none, .baload, []), (16, none, .ifCond .eq 7, [23]), (19, none, .iconst 1, []), (20, none, .goto 4, [24]), (23, none, .iconst 0, []), (24, none, .ireturn, [])]
def P_Kinds_knows : Nat → Option (List Nat) × Instr × List Nat := plk tb_Kinds_knows
theorem r_Kinds_knows_0 : P_Kinds_knows 0 = (none, .iload_n 1, []) := by decide +kernel
theorem r_Kinds_knows_1 : P_Kinds_knows 1 = (none, .ifCond .lt 22, [23]) := by decide +kernel
theorem r_Kinds_knows_4 : P_Kinds_knows 4 = (none, .iload_n 1, []) := by decide +kernel
theorem r_Kinds_knows_5 : P_Kinds_knows 5 = (none, .bipush 40, []) := by decide +kernel
theorem r_Kinds_knows_7 : P_Kinds_knows 7 = (none, .if_icmp .ge 16, [23]) := by decide +kernel
theorem r_Kinds_knows_10 : P_Kinds_knows 10 = (none, .aload_n 0, []) := by decide +kernel
theorem r_Kinds_knows_11 : P_Kinds_knows 11 = (none, .getfield 9, []) := by decide +kernel
theorem r_Kinds_knows_14 : P_Kinds_knows 14 = (none, .iload_n 1, []) := by decide +kernel
theorem r_Kinds_knows_15 : P_Kinds_knows 15 = (none, .baload, []) := by decide +kernel
theorem r_Kinds_knows_16 : P_Kinds_knows 16 = (none, .ifCond .eq 7, [23]) := by decide +kernel
theorem r_Kinds_knows_19 : P_Kinds_knows 19 = (none, .iconst 1, []) := by decide +kernel
theorem r_Kinds_knows_20 : P_Kinds_knows 20 = (none, .goto 4, [24]) := by decide +kernel
theorem r_Kinds_knows_23 : P_Kinds_knows 23 = (none, .iconst 0, []) := by decide +kernel
theorem r_Kinds_knows_24 : P_Kinds_knows 24 = (none, .ireturn, []) := by decide +kernel
def E_Kinds_knows : List (Nat × Ent) := []
def X_Kinds_knows : Cx := (llk (0, 0, 9) ftX1, llk 99 ntX1, llk none kcX1, llk none klX1, llk dEnt E_Kinds_knows, 0, 1, false)
theorem xok_Kinds_knows : Xok RX1 X_Kinds_knows := xok_of ftX1_ok ntX1_ok kcX1_ok klX1_ok (E := E_Kinds_knows) (fun _ h => absurd h List.not_mem_nil)
theorem xf_Kinds_knows_9 : xfl X_Kinds_knows 9 = (1, 0, 1) := by decide +kernel
theorem xd_Kinds_knows : xd X_Kinds_knows = 0 := rfl
theorem xrb_Kinds_knows : xrb X_Kinds_knows = 1 := rfl
theorem xin_Kinds_knows : xin X_Kinds_knows = false := rfl
set_option maxHeartbeats 4000000 in
set_option maxRecDepth 100000 in
theorem S_Kinds_knows : Snd yX1_knows cX1_knows 2 (some .boolean) T_Kinds_knows 0 0 0 := by
  refine snd_of (X := X_Kinds_knows) (P := P_Kinds_knows) (tb := tb_Kinds_knows) (own := RX1) (by decide) rfl rfl (by decide +kernel) xok_Kinds_knows rfl rk1 (fun h => by first | rfl | cases h) ?_
  intro as M k has hM hT0
  obtain ⟨sz, sl, lay, ρ, σ, τ⟩ := M
  obtain ⟨o, as1, e, hlo, hT1⟩ := mkT_r hT0
  clear hT0
  subst e
  obtain ⟨x, as2, e, hT2⟩ := pI_x hT1
  clear hT1
  subst e
  obtain ⟨e, hT⟩ := hT2
  subst e
  replace hlo : lay o = (11, 0) := hlo
  have r_x : -2147483648 ≤ x ∧ x ≤ 2147483647 := has (vI x) (by simp)
  clear has
  replace hM : ∀ a i, -2147483648 ≤ σ a i ∧ σ a i ≤ 2147483647 := hM
  replace hT : TF_Kinds_knows o x sz sl lay ρ σ τ k := hT
  unfold TF_Kinds_knows at hT
  obtain ⟨hL, h1, h0⟩ := hT
  obtain ⟨lh, lp0, lp1, lp2, lp3, lp4, lp5, lq0, lq1, lq2, lq3, lq4, lq5⟩ := (show LKinds lay ρ _ from hL)
  refine ⟨Nat.le_of_ble_eq_true rfl, fun _ _ _ => False, fun _ _ _ => 0, 22, ?_, fun _ _ _ _ _ _ h => h.elim⟩
  unfold wps
  simp only [si_iload_n0, si_iload_n1, si_iload_n2, si_iload_n3, si_iload, si_lload_n0, si_lload_n1, si_lload_n2, si_lload_n3, si_lload, si_aload_n0, si_aload_n1, si_aload_n2, si_aload_n3, si_aload, si_istore_n0, si_istore_n1, si_istore_n2, si_istore_n3, si_istore, si_astore_n0, si_astore_n1, si_astore_n2, si_astore_n3, si_astore, si_lstore_n0, si_lstore_n1, si_lstore_n2, si_lstore_n3, si_lstore, si_iconst, si_bipush, si_sipush, si_ldc, si_ldc2_w, si_lconst0, si_lconst1, si_aconst_null, si_iinc, si_dup, si_dup2, si_iadd, si_isub, si_imul, si_idiv, si_irem, si_iand, si_ior, si_ishl, si_ishr, si_ladd, si_lmul, si_lor, si_lxor, si_lshl, si_lushr, si_lcmp, si_i2b, si_i2l, si_l2i, si_icmp_eq, si_icmp_ne, si_icmp_lt, si_icmp_ge, si_icmp_gt, si_icmp_le, si_if_eq, si_if_ne, si_if_lt, si_if_ge, si_if_gt, si_if_le, si_ifnull, si_ifnonnull, si_goto, si_tableswitch, si_lookupswitch, si_getfield, si_putfield, si_getstatic, si_iaload, si_baload, si_laload, si_aaload, si_iastore, si_bastore, si_lastore, si_aastore, si_arraylength, si_new, si_newarray, si_anewarray, si_invokevirtual, si_invokespecial, si_invokestatic, si_ireturn, si_lreturn, si_areturn, si_return_, pI_e, pL_e, pR_e, pA_r, pA_n, pN_n, pN_r, oI_e, oL_e, oA_r, oA_n, lget_e, lrm1_0, lrm2_0, lrm1_i, lrm1_r, lrm1_n, lrm1_l, lrm2_i, lrm2_r, lrm2_n, lrm2_l, popN_0, popN_s, acat_i, acat_l, acat_r, acat_n, stw_0, stw_s, psh_s, psh_n, wgf_r, wgf_i, wgf_b, wgf_n, wgf_m, wpf_i, wpf_r, wpf_b, wnew_e, callE_e, rbk_0, rbk_1, tsw_0, tsw_s, lsw_0, lsw_s, wp_s, wq_t, wq_f, oV_e, pick_0, pick_s, oZ_e, oY_e, r_Kinds_knows_0, r_Kinds_knows_1, r_Kinds_knows_4, r_Kinds_knows_5, r_Kinds_knows_7, r_Kinds_knows_10, r_Kinds_knows_11, r_Kinds_knows_14, r_Kinds_knows_15, r_Kinds_knows_16, r_Kinds_knows_19, r_Kinds_knows_20, r_Kinds_knows_23, r_Kinds_knows_24, xf_Kinds_knows_9, xd_Kinds_knows, xrb_Kinds_knows, xin_Kinds_knows, lh, lp0, lp1, lp2, lp3, lp4, lp5, lq0, lq1, lq2, lq3, lq4, lq5, Nat.reduceAdd, Nat.reduceMul, Nat.reduceEqDiff, reduceIte, Int.reduceNeg, Int.reduceLE, Int.reduceLT, Int.reduceAdd, Int.reduceSub, Int.reduceToNat, true_and, and_true, inR_e, Nat.reduceLT, Nat.reduceLeDiff, reduceCtorEq, Nat.add_zero, Nat.zero_add, or_false, false_or, or_true, true_or, not_true_eq_false, not_false_eq_true, Classical.not_not, Nat.add_eq_zero_iff, and_false, false_and, Int.reduceEq, List.mem_cons, List.not_mem_nil, forall_eq_or_imp, forall_eq, false_implies, implies_true, forall_const, aargs_0, aargs_i, aargs_r, aargs_l, aargs_n, nfT_e, eq_self, and_self, Nat.le_refl, fu_s, fu_fu, iu_iu, iu_s, fu_am, fu_a0, fu_0a, iu_l, Nat.reduceBEq, Int.reduceBEq, T_objInit_e]
  repeat' (first | assumption | intro _ | apply And.intro)
  all_goals first | omega | assumption | (exact h1 (by omega)) | (exact h0 (by omega)) | (exact h1 ⟨by omega, by omega⟩) | (exact h0 ⟨by omega, by omega⟩) | (exact h1 ⟨by omega, by omega, by omega⟩) | (exact h0 ⟨by omega, by omega, by omega⟩)
theorem co_X1_140 : CallOK RX1 (.invokevirtual 35) (2, 0, 0, 0, T_Kinds_knows) := call_V S_Kinds_knows (by decide) (ci := 1) rfl (by decide +kernel) (by decide +kernel) (by decide +kernel) (by decide +kernel) (by decide +kernel) (by decide +kernel) T_Kinds_knows_r
def TF_Kinds_admits (o : Nat) (x : Int) (q : Int) (sz sl : Nat) (lay : Nat → Nat × Int) (ρ : Nat → Int → Nat) (σ : Nat → Int → Int) (τ : Nat → Int → Int64) (k : Option AV → Mm → Prop) : Prop := LKinds lay ρ o ∧ (0 ≤ x ∧ x < 40 ∧ σ (o + 1) x = 0 ∧ (q = 255 ∨ (0 ≤ q ∧ q < 40 ∧ ¬ σ (o + 1) q = 0)) → k (some (vI (1))) (sz, sl, lay, ρ, σ, τ)) ∧ (¬ (0 ≤ x ∧ x < 40 ∧ σ (o + 1) x = 0 ∧ (q = 255 ∨ (0 ≤ q ∧ q < 40 ∧ ¬ σ (o + 1) q = 0))) → k (some (vI (0))) (sz, sl, lay, ρ, σ, τ))
def T_Kinds_admits : Tr := mkT 1 fun o as M k => pI as fun x as => pI as fun q as => as = [] ∧ TF_Kinds_admits o x q M.1 M.2.1 M.2.2.1 M.2.2.2.1 M.2.2.2.2.1 M.2.2.2.2.2 k
theorem T_Kinds_admits_e {o : Nat} {x : Int} {q : Int} {sz sl : Nat} {lay : Nat → Nat × Int} {ρ : Nat → Int → Nat} {σ : Nat → Int → Int} {τ : Nat → Int → Int64} {k : Option AV → Mm → Prop} : T_Kinds_admits [vR o, vI x, vI q] (sz, sl, lay, ρ, σ, τ) k = (lay o = (11, 0) ∧ TF_Kinds_admits o x q sz sl lay ρ σ τ k) := by simp [T_Kinds_admits, mkT_e, pI_e, pR_e, pL_e]
theorem T_Kinds_admits_r (as : List AV) (M : Mm) (k : Option AV → Mm → Prop) (h : T_Kinds_admits as M k) : ∃ b As, as = vR b :: As ∧ M.2.2.1 b = (10 + 1, 0) := by
  obtain ⟨b, As, h1, h2, -⟩ := mkT_r h
  exact ⟨b, As, h1, h2⟩
def tb_Kinds_admits : List (Nat × Option (List Nat) × Instr × List Nat) := [(0, none, .iload_n 1, []), (1, none, .ifCond .lt 37, [38]), (4, none, .iload_n 1, []), (5, none, .bipush 40, []), (7, none, .if_icmp .ge 31, [38]), (10, none, .aload_n 0, []), (11, none, .getfield 9, []), (14, none, .iload_n 1, []), (15, none, .baload, []), (16, none, .ifCond .ne 22, [38]), (19, none, .iload_n 2, []), (20, none, .sipush 255, []), (23, none, .if_icmp .eq 11, [34]), (26, none, .aload_n 0, []), (27, none, .iload_n 2, []), (28, none, .invokevirtual 35, []), (31, none, .ifCond .eq 7, [38]), (34, none, .iconst 1, []), (35, none, .goto 4, [39]), (38, none, .iconst 0, []), (39, none, .ireturn, [])]
def P_Kinds_admits : Nat → Option (List Nat) × Instr × List Nat := plk tb_Kinds_admits
theorem r_Kinds_admits_0 : P_Kinds_admits 0 = (none, .iload_n 1, []) := by decide +kernel
theorem r_Kinds_admits_1 : P_Kinds_admits 1 = (none, .ifCond .lt 37, [38]) := by decide +kernel
theorem r_Kinds_admits_4 : P_Kinds_admits 4 = (none, .iload_n 1, []) := by decide +kernel
theorem r_Kinds_admits_5 : P_Kinds_admits 5 = (none, .bipush 40, []) := by decide +kernel
theorem r_Kinds_admits_7 : P_Kinds_admits 7 = (none, .if_icmp .ge 31, [38]) := by decide +kernel
theorem r_Kinds_admits_10 : P_Kinds_admits 10 = (none, .aload_n 0, []) := by decide +kernel
theorem r_Kinds_admits_11 : P_Kinds_admits 11 = (none, .getfield 9, []) := by decide +kernel
theorem r_Kinds_admits_14 : P_Kinds_admits 14 = (none, .iload_n 1, []) := by decide +kernel
theorem r_Kinds_admits_15 : P_Kinds_admits 15 = (none, .baload, []) := by decide +kernel
theorem r_Kinds_admits_16 : P_Kinds_admits 16 = (none, .ifCond .ne 22, [38]) := by decide +kernel
theorem r_Kinds_admits_19 : P_Kinds_admits 19 = (none, .iload_n 2, []) := by decide +kernel
theorem r_Kinds_admits_20 : P_Kinds_admits 20 = (none, .sipush 255, []) := by decide +kernel
theorem r_Kinds_admits_23 : P_Kinds_admits 23 = (none, .if_icmp .eq 11, [34]) := by decide +kernel
theorem r_Kinds_admits_26 : P_Kinds_admits 26 = (none, .aload_n 0, []) := by decide +kernel
theorem r_Kinds_admits_27 : P_Kinds_admits 27 = (none, .iload_n 2, []) := by decide +kernel
theorem r_Kinds_admits_28 : P_Kinds_admits 28 = (none, .invokevirtual 35, []) := by decide +kernel
theorem r_Kinds_admits_31 : P_Kinds_admits 31 = (none, .ifCond .eq 7, [38]) := by decide +kernel
theorem r_Kinds_admits_34 : P_Kinds_admits 34 = (none, .iconst 1, []) := by decide +kernel
theorem r_Kinds_admits_35 : P_Kinds_admits 35 = (none, .goto 4, [39]) := by decide +kernel
theorem r_Kinds_admits_38 : P_Kinds_admits 38 = (none, .iconst 0, []) := by decide +kernel
theorem r_Kinds_admits_39 : P_Kinds_admits 39 = (none, .ireturn, []) := by decide +kernel
def E_Kinds_admits : List (Nat × Ent) := [(140, (2, 0, 0, 0, T_Kinds_knows))]
def X_Kinds_admits : Cx := (llk (0, 0, 9) ftX1, llk 99 ntX1, llk none kcX1, llk none klX1, llk dEnt E_Kinds_admits, 1, 1, false)
theorem xok_Kinds_admits : Xok RX1 X_Kinds_admits := xok_of ftX1_ok ntX1_ok kcX1_ok klX1_ok (E := E_Kinds_admits) (List.forall_mem_cons.mpr ⟨co_X1_140, fun _ h => absurd h List.not_mem_nil⟩)
theorem xf_Kinds_admits_9 : xfl X_Kinds_admits 9 = (1, 0, 1) := by decide +kernel
theorem xe_Kinds_admits_140 : xE X_Kinds_admits (4 * 35 + 0) = (2, 0, 0, 0, T_Kinds_knows) := rfl
theorem xd_Kinds_admits : xd X_Kinds_admits = 1 := rfl
theorem xrb_Kinds_admits : xrb X_Kinds_admits = 1 := rfl
theorem xin_Kinds_admits : xin X_Kinds_admits = false := rfl
set_option maxHeartbeats 4000000 in
set_option maxRecDepth 100000 in
theorem S_Kinds_admits : Snd yX1_admits cX1_admits 3 (some .boolean) T_Kinds_admits 1 0 0 := by
  refine snd_of (X := X_Kinds_admits) (P := P_Kinds_admits) (tb := tb_Kinds_admits) (own := RX1) (by decide) rfl rfl (by decide +kernel) xok_Kinds_admits rfl rk1 (fun h => by first | rfl | cases h) ?_
  intro as M k has hM hT0
  obtain ⟨sz, sl, lay, ρ, σ, τ⟩ := M
  obtain ⟨o, as1, e, hlo, hT1⟩ := mkT_r hT0
  clear hT0
  subst e
  obtain ⟨x, as2, e, hT2⟩ := pI_x hT1
  clear hT1
  subst e
  obtain ⟨q, as3, e, hT3⟩ := pI_x hT2
  clear hT2
  subst e
  obtain ⟨e, hT⟩ := hT3
  subst e
  replace hlo : lay o = (11, 0) := hlo
  have r_x : -2147483648 ≤ x ∧ x ≤ 2147483647 := has (vI x) (by simp)
  have r_q : -2147483648 ≤ q ∧ q ≤ 2147483647 := has (vI q) (by simp)
  clear has
  replace hM : ∀ a i, -2147483648 ≤ σ a i ∧ σ a i ≤ 2147483647 := hM
  replace hT : TF_Kinds_admits o x q sz sl lay ρ σ τ k := hT
  unfold TF_Kinds_admits at hT
  obtain ⟨hL, h1, h0⟩ := hT
  obtain ⟨lh, lp0, lp1, lp2, lp3, lp4, lp5, lq0, lq1, lq2, lq3, lq4, lq5⟩ := (show LKinds lay ρ _ from hL)
  refine ⟨Nat.le_of_ble_eq_true rfl, fun _ _ _ => False, fun _ _ _ => 0, 29, ?_, fun _ _ _ _ _ _ h => h.elim⟩
  unfold wps
  simp only [si_iload_n0, si_iload_n1, si_iload_n2, si_iload_n3, si_iload, si_lload_n0, si_lload_n1, si_lload_n2, si_lload_n3, si_lload, si_aload_n0, si_aload_n1, si_aload_n2, si_aload_n3, si_aload, si_istore_n0, si_istore_n1, si_istore_n2, si_istore_n3, si_istore, si_astore_n0, si_astore_n1, si_astore_n2, si_astore_n3, si_astore, si_lstore_n0, si_lstore_n1, si_lstore_n2, si_lstore_n3, si_lstore, si_iconst, si_bipush, si_sipush, si_ldc, si_ldc2_w, si_lconst0, si_lconst1, si_aconst_null, si_iinc, si_dup, si_dup2, si_iadd, si_isub, si_imul, si_idiv, si_irem, si_iand, si_ior, si_ishl, si_ishr, si_ladd, si_lmul, si_lor, si_lxor, si_lshl, si_lushr, si_lcmp, si_i2b, si_i2l, si_l2i, si_icmp_eq, si_icmp_ne, si_icmp_lt, si_icmp_ge, si_icmp_gt, si_icmp_le, si_if_eq, si_if_ne, si_if_lt, si_if_ge, si_if_gt, si_if_le, si_ifnull, si_ifnonnull, si_goto, si_tableswitch, si_lookupswitch, si_getfield, si_putfield, si_getstatic, si_iaload, si_baload, si_laload, si_aaload, si_iastore, si_bastore, si_lastore, si_aastore, si_arraylength, si_new, si_newarray, si_anewarray, si_invokevirtual, si_invokespecial, si_invokestatic, si_ireturn, si_lreturn, si_areturn, si_return_, pI_e, pL_e, pR_e, pA_r, pA_n, pN_n, pN_r, oI_e, oL_e, oA_r, oA_n, lget_e, lrm1_0, lrm2_0, lrm1_i, lrm1_r, lrm1_n, lrm1_l, lrm2_i, lrm2_r, lrm2_n, lrm2_l, popN_0, popN_s, acat_i, acat_l, acat_r, acat_n, stw_0, stw_s, psh_s, psh_n, wgf_r, wgf_i, wgf_b, wgf_n, wgf_m, wpf_i, wpf_r, wpf_b, wnew_e, callE_e, rbk_0, rbk_1, tsw_0, tsw_s, lsw_0, lsw_s, wp_s, wq_t, wq_f, oV_e, pick_0, pick_s, oZ_e, oY_e, r_Kinds_admits_0, r_Kinds_admits_1, r_Kinds_admits_4, r_Kinds_admits_5, r_Kinds_admits_7, r_Kinds_admits_10, r_Kinds_admits_11, r_Kinds_admits_14, r_Kinds_admits_15, r_Kinds_admits_16, r_Kinds_admits_19, r_Kinds_admits_20, r_Kinds_admits_23, r_Kinds_admits_26, r_Kinds_admits_27, r_Kinds_admits_28, r_Kinds_admits_31, r_Kinds_admits_34, r_Kinds_admits_35, r_Kinds_admits_38, r_Kinds_admits_39, xf_Kinds_admits_9, xe_Kinds_admits_140, xd_Kinds_admits, xrb_Kinds_admits, xin_Kinds_admits, T_Kinds_knows_e, TF_Kinds_knows, lh, lp0, lp1, lp2, lp3, lp4, lp5, lq0, lq1, lq2, lq3, lq4, lq5, Nat.reduceAdd, Nat.reduceMul, Nat.reduceEqDiff, reduceIte, Int.reduceNeg, Int.reduceLE, Int.reduceLT, Int.reduceAdd, Int.reduceSub, Int.reduceToNat, true_and, and_true, inR_e, Nat.reduceLT, Nat.reduceLeDiff, reduceCtorEq, Nat.add_zero, Nat.zero_add, or_false, false_or, or_true, true_or, not_true_eq_false, not_false_eq_true, Classical.not_not, Nat.add_eq_zero_iff, and_false, false_and, Int.reduceEq, List.mem_cons, List.not_mem_nil, forall_eq_or_imp, forall_eq, false_implies, implies_true, forall_const, aargs_0, aargs_i, aargs_r, aargs_l, aargs_n, nfT_e, eq_self, and_self, Nat.le_refl, fu_s, fu_fu, iu_iu, iu_s, fu_am, fu_a0, fu_0a, iu_l, Nat.reduceBEq, Int.reduceBEq, T_objInit_e]
  repeat' (first | assumption | intro _ | apply And.intro)
  all_goals first | omega | assumption | (exact h1 (by omega)) | (exact h0 (by omega)) | (exact h1 ⟨by omega, by omega⟩) | (exact h0 ⟨by omega, by omega⟩) | (exact h1 ⟨by omega, by omega, by omega⟩) | (exact h0 ⟨by omega, by omega, by omega⟩)
theorem co_X1_156 : CallOK RX1 (.invokevirtual 39) (3, 1, 0, 0, T_Kinds_admits) := call_V S_Kinds_admits (by decide) (ci := 1) rfl (by decide +kernel) (by decide +kernel) (by decide +kernel) (by decide +kernel) (by decide +kernel) (by decide +kernel) T_Kinds_admits_r
def TF_Kinds_begin (o : Nat) (x : Int) (q : Int) (sz sl : Nat) (lay : Nat → Nat × Int) (ρ : Nat → Int → Nat) (σ : Nat → Int → Int) (τ : Nat → Int → Int64) (k : Option AV → Mm → Prop) : Prop := LKinds lay ρ o ∧ (0 ≤ x ∧ x < 40 ∧ σ (o + 1) x = 0 ∧ (q = 255 ∨ (0 ≤ q ∧ q < 40 ∧ ¬ σ (o + 1) q = 0))) ∧ (0 ≤ σ o 6 ∧ σ o 6 ≤ 1000) ∧ (q = 255 → k none (sz, sl, lay, ρ, fu (fu (fu (fu (fu (fu σ (o + 1) (iu (σ (o + 1)) x 1)) (o + 2) (iu (σ (o + 2)) x (-1))) (o + 3) (iu (σ (o + 3)) x (0))) (o + 4) (iu (σ (o + 4)) x (0))) (o + 5) (iu (σ (o + 5)) x (0))) o (iu (σ o) 6 (σ o 6 + 1)), τ)) ∧ (¬ q = 255 → k none (sz, sl, lay, ρ, fu (fu (fu (fu (fu (fu σ (o + 1) (iu (σ (o + 1)) x 1)) (o + 2) (iu (σ (o + 2)) x (q))) (o + 3) (iu (σ (o + 3)) x (σ (o + 4) q))) (o + 4) (iu (σ (o + 4)) x (σ (o + 4) q))) (o + 5) (iu (σ (o + 5)) x (σ (o + 5) q))) o (iu (σ o) 6 (σ o 6 + 1)), τ))
def T_Kinds_begin : Tr := mkT 1 fun o as M k => pI as fun x as => pI as fun q as => as = [] ∧ TF_Kinds_begin o x q M.1 M.2.1 M.2.2.1 M.2.2.2.1 M.2.2.2.2.1 M.2.2.2.2.2 k
theorem T_Kinds_begin_e {o : Nat} {x : Int} {q : Int} {sz sl : Nat} {lay : Nat → Nat × Int} {ρ : Nat → Int → Nat} {σ : Nat → Int → Int} {τ : Nat → Int → Int64} {k : Option AV → Mm → Prop} : T_Kinds_begin [vR o, vI x, vI q] (sz, sl, lay, ρ, σ, τ) k = (lay o = (11, 0) ∧ TF_Kinds_begin o x q sz sl lay ρ σ τ k) := by simp [T_Kinds_begin, mkT_e, pI_e, pR_e, pL_e]
theorem T_Kinds_begin_r (as : List AV) (M : Mm) (k : Option AV → Mm → Prop) (h : T_Kinds_begin as M k) : ∃ b As, as = vR b :: As ∧ M.2.2.1 b = (10 + 1, 0) := by
  obtain ⟨b, As, h1, h2, -⟩ := mkT_r h
  exact ⟨b, As, h1, h2⟩
def tb_Kinds_begin : List (Nat × Option (List Nat) × Instr × List Nat) := [(0, none, .aload_n 0, []), (1, none, .iload_n 1, []), (2, none, .iload_n 2, []), (3, none, .invokevirtual 39, []), (6, none, .ifCond .ne 4, [10]), (9, none, .return_, []), (10, none, .iload_n 2, []), (11, none, .sipush 255, []), (14, none, .if_icmp .eq 7, [21]), (17, none, .iconst 1, []), (18, none, .goto 4, [22]), (21, none, .iconst 0, []), (22, none, .istore_n 3, []), (23, none, .aload_n 0, []), (24, none, .getfield 9, []), (27, none, .iload_n 1, []), (28, none, .iconst 1, []), (29, none, .bastore, []), (30, none, .aload_n 0, []), (31, none, .getfield 15, []), (34, none, .iload_n 1, []), (35, none, .iload_n 3, []), (36, none, .ifCond .eq 7, [43]), (39, none, .iload_n 2, []), (40, none, .goto 4, [44]), (43, none, .iconst (-1), []), (44, none, .iastore, []), (45, none, .aload_n 0, []), (46, none, .getfield 19, []), (49, none, .iload_n 1, []), (50, none, .iload_n 3, []), (51, none, .ifCond .eq 12, [63]), (54, none, .aload_n 0, []), (55, none, .getfield 22, []), (58, none, .iload_n 2, []), (59, none, .iaload, []), (60, none, .goto 4, [64]), (63, none, .iconst 0, []), (64, none, .iastore, []), (65, none, .aload_n 0, []), (66, none, .getfield 22, []), (69, none, .iload_n 1, []), (70, none, .aload_n 0, []), (71, none, .getfield 19, []), (74, none, .iload_n 1, []), (75, none, .iaload, []), (76, none, .iastore, []), (77, none, .aload_n 0, []), (78, none, .getfield 25, []), (81, none, .iload_n 1, []), (82, none, .iload_n 3, []), (83, none, .ifCond .eq 12, [95]), (86, none, .aload_n 0, []), (87, none, .getfield 25, []), (90, none, .iload_n 2, []), (91, none, .iaload, []), (92, none, .goto 4, [96]), (95, none, .iconst 0, []), (96, none, .iastore, []), (97, none, .aload_n 0, []), (98, none, .dup, []), (99, none, .getfield 31, []), (102, none, .iconst 1, []), (103, none, .iadd, []), (104, none, .putfield 31, []), (107, none, .return_, [])]
def P_Kinds_begin : Nat → Option (List Nat) × Instr × List Nat := plk tb_Kinds_begin
theorem r_Kinds_begin_0 : P_Kinds_begin 0 = (none, .aload_n 0, []) := by decide +kernel
theorem r_Kinds_begin_1 : P_Kinds_begin 1 = (none, .iload_n 1, []) := by decide +kernel
theorem r_Kinds_begin_2 : P_Kinds_begin 2 = (none, .iload_n 2, []) := by decide +kernel
theorem r_Kinds_begin_3 : P_Kinds_begin 3 = (none, .invokevirtual 39, []) := by decide +kernel
theorem r_Kinds_begin_6 : P_Kinds_begin 6 = (none, .ifCond .ne 4, [10]) := by decide +kernel
theorem r_Kinds_begin_9 : P_Kinds_begin 9 = (none, .return_, []) := by decide +kernel
theorem r_Kinds_begin_10 : P_Kinds_begin 10 = (none, .iload_n 2, []) := by decide +kernel
theorem r_Kinds_begin_11 : P_Kinds_begin 11 = (none, .sipush 255, []) := by decide +kernel
theorem r_Kinds_begin_14 : P_Kinds_begin 14 = (none, .if_icmp .eq 7, [21]) := by decide +kernel
theorem r_Kinds_begin_17 : P_Kinds_begin 17 = (none, .iconst 1, []) := by decide +kernel
theorem r_Kinds_begin_18 : P_Kinds_begin 18 = (none, .goto 4, [22]) := by decide +kernel
theorem r_Kinds_begin_21 : P_Kinds_begin 21 = (none, .iconst 0, []) := by decide +kernel
theorem r_Kinds_begin_22 : P_Kinds_begin 22 = (none, .istore_n 3, []) := by decide +kernel
theorem r_Kinds_begin_23 : P_Kinds_begin 23 = (none, .aload_n 0, []) := by decide +kernel
theorem r_Kinds_begin_24 : P_Kinds_begin 24 = (none, .getfield 9, []) := by decide +kernel
theorem r_Kinds_begin_27 : P_Kinds_begin 27 = (none, .iload_n 1, []) := by decide +kernel
theorem r_Kinds_begin_28 : P_Kinds_begin 28 = (none, .iconst 1, []) := by decide +kernel
theorem r_Kinds_begin_29 : P_Kinds_begin 29 = (none, .bastore, []) := by decide +kernel
theorem r_Kinds_begin_30 : P_Kinds_begin 30 = (none, .aload_n 0, []) := by decide +kernel
theorem r_Kinds_begin_31 : P_Kinds_begin 31 = (none, .getfield 15, []) := by decide +kernel
theorem r_Kinds_begin_34 : P_Kinds_begin 34 = (none, .iload_n 1, []) := by decide +kernel
theorem r_Kinds_begin_35 : P_Kinds_begin 35 = (none, .iload_n 3, []) := by decide +kernel
theorem r_Kinds_begin_36 : P_Kinds_begin 36 = (none, .ifCond .eq 7, [43]) := by decide +kernel
theorem r_Kinds_begin_39 : P_Kinds_begin 39 = (none, .iload_n 2, []) := by decide +kernel
theorem r_Kinds_begin_40 : P_Kinds_begin 40 = (none, .goto 4, [44]) := by decide +kernel
theorem r_Kinds_begin_43 : P_Kinds_begin 43 = (none, .iconst (-1), []) := by decide +kernel
theorem r_Kinds_begin_44 : P_Kinds_begin 44 = (none, .iastore, []) := by decide +kernel
theorem r_Kinds_begin_45 : P_Kinds_begin 45 = (none, .aload_n 0, []) := by decide +kernel
theorem r_Kinds_begin_46 : P_Kinds_begin 46 = (none, .getfield 19, []) := by decide +kernel
theorem r_Kinds_begin_49 : P_Kinds_begin 49 = (none, .iload_n 1, []) := by decide +kernel
theorem r_Kinds_begin_50 : P_Kinds_begin 50 = (none, .iload_n 3, []) := by decide +kernel
theorem r_Kinds_begin_51 : P_Kinds_begin 51 = (none, .ifCond .eq 12, [63]) := by decide +kernel
theorem r_Kinds_begin_54 : P_Kinds_begin 54 = (none, .aload_n 0, []) := by decide +kernel
theorem r_Kinds_begin_55 : P_Kinds_begin 55 = (none, .getfield 22, []) := by decide +kernel
theorem r_Kinds_begin_58 : P_Kinds_begin 58 = (none, .iload_n 2, []) := by decide +kernel
theorem r_Kinds_begin_59 : P_Kinds_begin 59 = (none, .iaload, []) := by decide +kernel
theorem r_Kinds_begin_60 : P_Kinds_begin 60 = (none, .goto 4, [64]) := by decide +kernel
theorem r_Kinds_begin_63 : P_Kinds_begin 63 = (none, .iconst 0, []) := by decide +kernel
theorem r_Kinds_begin_64 : P_Kinds_begin 64 = (none, .iastore, []) := by decide +kernel
theorem r_Kinds_begin_65 : P_Kinds_begin 65 = (none, .aload_n 0, []) := by decide +kernel
theorem r_Kinds_begin_66 : P_Kinds_begin 66 = (none, .getfield 22, []) := by decide +kernel
theorem r_Kinds_begin_69 : P_Kinds_begin 69 = (none, .iload_n 1, []) := by decide +kernel
theorem r_Kinds_begin_70 : P_Kinds_begin 70 = (none, .aload_n 0, []) := by decide +kernel
theorem r_Kinds_begin_71 : P_Kinds_begin 71 = (none, .getfield 19, []) := by decide +kernel
theorem r_Kinds_begin_74 : P_Kinds_begin 74 = (none, .iload_n 1, []) := by decide +kernel
theorem r_Kinds_begin_75 : P_Kinds_begin 75 = (none, .iaload, []) := by decide +kernel
theorem r_Kinds_begin_76 : P_Kinds_begin 76 = (none, .iastore, []) := by decide +kernel
theorem r_Kinds_begin_77 : P_Kinds_begin 77 = (none, .aload_n 0, []) := by decide +kernel
theorem r_Kinds_begin_78 : P_Kinds_begin 78 = (none, .getfield 25, []) := by decide +kernel
theorem r_Kinds_begin_81 : P_Kinds_begin 81 = (none, .iload_n 1, []) := by decide +kernel
theorem r_Kinds_begin_82 : P_Kinds_begin 82 = (none, .iload_n 3, []) := by decide +kernel
theorem r_Kinds_begin_83 : P_Kinds_begin 83 = (none, .ifCond .eq 12, [95]) := by decide +kernel
theorem r_Kinds_begin_86 : P_Kinds_begin 86 = (none, .aload_n 0, []) := by decide +kernel
theorem r_Kinds_begin_87 : P_Kinds_begin 87 = (none, .getfield 25, []) := by decide +kernel
theorem r_Kinds_begin_90 : P_Kinds_begin 90 = (none, .iload_n 2, []) := by decide +kernel
theorem r_Kinds_begin_91 : P_Kinds_begin 91 = (none, .iaload, []) := by decide +kernel
theorem r_Kinds_begin_92 : P_Kinds_begin 92 = (none, .goto 4, [96]) := by decide +kernel
theorem r_Kinds_begin_95 : P_Kinds_begin 95 = (none, .iconst 0, []) := by decide +kernel
theorem r_Kinds_begin_96 : P_Kinds_begin 96 = (none, .iastore, []) := by decide +kernel
theorem r_Kinds_begin_97 : P_Kinds_begin 97 = (none, .aload_n 0, []) := by decide +kernel
theorem r_Kinds_begin_98 : P_Kinds_begin 98 = (none, .dup, []) := by decide +kernel
theorem r_Kinds_begin_99 : P_Kinds_begin 99 = (none, .getfield 31, []) := by decide +kernel
theorem r_Kinds_begin_102 : P_Kinds_begin 102 = (none, .iconst 1, []) := by decide +kernel
theorem r_Kinds_begin_103 : P_Kinds_begin 103 = (none, .iadd, []) := by decide +kernel
theorem r_Kinds_begin_104 : P_Kinds_begin 104 = (none, .putfield 31, []) := by decide +kernel
theorem r_Kinds_begin_107 : P_Kinds_begin 107 = (none, .return_, []) := by decide +kernel
def E_Kinds_begin : List (Nat × Ent) := [(156, (3, 1, 0, 0, T_Kinds_admits))]
def X_Kinds_begin : Cx := (llk (0, 0, 9) ftX1, llk 99 ntX1, llk none kcX1, llk none klX1, llk dEnt E_Kinds_begin, 2, 3, false)
theorem xok_Kinds_begin : Xok RX1 X_Kinds_begin := xok_of ftX1_ok ntX1_ok kcX1_ok klX1_ok (E := E_Kinds_begin) (List.forall_mem_cons.mpr ⟨co_X1_156, fun _ h => absurd h List.not_mem_nil⟩)
theorem xf_Kinds_begin_9 : xfl X_Kinds_begin 9 = (1, 0, 1) := by decide +kernel
theorem xf_Kinds_begin_15 : xfl X_Kinds_begin 15 = (1, 1, 1) := by decide +kernel
theorem xf_Kinds_begin_19 : xfl X_Kinds_begin 19 = (1, 2, 1) := by decide +kernel
theorem xf_Kinds_begin_22 : xfl X_Kinds_begin 22 = (1, 3, 1) := by decide +kernel
theorem xf_Kinds_begin_25 : xfl X_Kinds_begin 25 = (1, 4, 1) := by decide +kernel
theorem xf_Kinds_begin_31 : xfl X_Kinds_begin 31 = (1, 6, 0) := by decide +kernel
theorem xe_Kinds_begin_156 : xE X_Kinds_begin (4 * 39 + 0) = (3, 1, 0, 0, T_Kinds_admits) := rfl
theorem xd_Kinds_begin : xd X_Kinds_begin = 2 := rfl
theorem xrb_Kinds_begin : xrb X_Kinds_begin = 3 := rfl
theorem xin_Kinds_begin : xin X_Kinds_begin = false := rfl
set_option maxHeartbeats 8000000 in
set_option maxRecDepth 100000 in
theorem S_Kinds_begin : Snd yX1_begin cX1_begin 4 none T_Kinds_begin 2 0 0 := by
  refine snd_of (X := X_Kinds_begin) (P := P_Kinds_begin) (tb := tb_Kinds_begin) (own := RX1) (by decide) rfl rfl (by decide +kernel) xok_Kinds_begin rfl rk3 (fun h => by first | rfl | cases h) ?_
  intro as M k has hM hT0
  obtain ⟨sz, sl, lay, ρ, σ, τ⟩ := M
  obtain ⟨o, as1, e, hlo, hT1⟩ := mkT_r hT0
  clear hT0
  subst e
  obtain ⟨x, as2, e, hT2⟩ := pI_x hT1
  clear hT1
  subst e
  obtain ⟨q, as3, e, hT3⟩ := pI_x hT2
  clear hT2
  subst e
  obtain ⟨e, hT⟩ := hT3
  subst e
  replace hlo : lay o = (11, 0) := hlo
  have r_x : -2147483648 ≤ x ∧ x ≤ 2147483647 := has (vI x) (by simp)
  have r_q : -2147483648 ≤ q ∧ q ≤ 2147483647 := has (vI q) (by simp)
  clear has
  replace hM : ∀ a i, -2147483648 ≤ σ a i ∧ σ a i ≤ 2147483647 := hM
  replace hT : TF_Kinds_begin o x q sz sl lay ρ σ τ k := hT
  unfold TF_Kinds_begin at hT
  obtain ⟨hL, hc, hn, h1, h0⟩ := hT
  obtain ⟨lh, lp0, lp1, lp2, lp3, lp4, lp5, lq0, lq1, lq2, lq3, lq4, lq5⟩ := (show LKinds lay ρ _ from hL)
  refine ⟨Nat.le_of_ble_eq_true rfl, fun _ _ _ => False, fun _ _ _ => 0, 74, ?_, fun _ _ _ _ _ _ h => h.elim⟩
  unfold wps
  simp only [si_iload_n0, si_iload_n1, si_iload_n2, si_iload_n3, si_iload, si_lload_n0, si_lload_n1, si_lload_n2, si_lload_n3, si_lload, si_aload_n0, si_aload_n1, si_aload_n2, si_aload_n3, si_aload, si_istore_n0, si_istore_n1, si_istore_n2, si_istore_n3, si_istore, si_astore_n0, si_astore_n1, si_astore_n2, si_astore_n3, si_astore, si_lstore_n0, si_lstore_n1, si_lstore_n2, si_lstore_n3, si_lstore, si_iconst, si_bipush, si_sipush, si_ldc, si_ldc2_w, si_lconst0, si_lconst1, si_aconst_null, si_iinc, si_dup, si_dup2, si_iadd, si_isub, si_imul, si_idiv, si_irem, si_iand, si_ior, si_ishl, si_ishr, si_ladd, si_lmul, si_lor, si_lxor, si_lshl, si_lushr, si_lcmp, si_i2b, si_i2l, si_l2i, si_icmp_eq, si_icmp_ne, si_icmp_lt, si_icmp_ge, si_icmp_gt, si_icmp_le, si_if_eq, si_if_ne, si_if_lt, si_if_ge, si_if_gt, si_if_le, si_ifnull, si_ifnonnull, si_goto, si_tableswitch, si_lookupswitch, si_getfield, si_putfield, si_getstatic, si_iaload, si_baload, si_laload, si_aaload, si_iastore, si_bastore, si_lastore, si_aastore, si_arraylength, si_new, si_newarray, si_anewarray, si_invokevirtual, si_invokespecial, si_invokestatic, si_ireturn, si_lreturn, si_areturn, si_return_, pI_e, pL_e, pR_e, pA_r, pA_n, pN_n, pN_r, oI_e, oL_e, oA_r, oA_n, lget_e, lrm1_0, lrm2_0, lrm1_i, lrm1_r, lrm1_n, lrm1_l, lrm2_i, lrm2_r, lrm2_n, lrm2_l, popN_0, popN_s, acat_i, acat_l, acat_r, acat_n, stw_0, stw_s, psh_s, psh_n, wgf_r, wgf_i, wgf_b, wgf_n, wgf_m, wpf_i, wpf_r, wpf_b, wnew_e, callE_e, rbk_0, rbk_1, tsw_0, tsw_s, lsw_0, lsw_s, wp_s, wq_t, wq_f, oV_e, pick_0, pick_s, oZ_e, oY_e, r_Kinds_begin_0, r_Kinds_begin_1, r_Kinds_begin_2, r_Kinds_begin_3, r_Kinds_begin_6, r_Kinds_begin_9, r_Kinds_begin_10, r_Kinds_begin_11, r_Kinds_begin_14, r_Kinds_begin_17, r_Kinds_begin_18, r_Kinds_begin_21, r_Kinds_begin_22, r_Kinds_begin_23, r_Kinds_begin_24, r_Kinds_begin_27, r_Kinds_begin_28, r_Kinds_begin_29, r_Kinds_begin_30, r_Kinds_begin_31, r_Kinds_begin_34, r_Kinds_begin_35, r_Kinds_begin_36, r_Kinds_begin_39, r_Kinds_begin_40, r_Kinds_begin_43, r_Kinds_begin_44, r_Kinds_begin_45, r_Kinds_begin_46, r_Kinds_begin_49, r_Kinds_begin_50, r_Kinds_begin_51, r_Kinds_begin_54, r_Kinds_begin_55, r_Kinds_begin_58, r_Kinds_begin_59, r_Kinds_begin_60, r_Kinds_begin_63, r_Kinds_begin_64, r_Kinds_begin_65, r_Kinds_begin_66, r_Kinds_begin_69, r_Kinds_begin_70, r_Kinds_begin_71, r_Kinds_begin_74, r_Kinds_begin_75, r_Kinds_begin_76, r_Kinds_begin_77, r_Kinds_begin_78, r_Kinds_begin_81, r_Kinds_begin_82, r_Kinds_begin_83, r_Kinds_begin_86, r_Kinds_begin_87, r_Kinds_begin_90, r_Kinds_begin_91, r_Kinds_begin_92, r_Kinds_begin_95, r_Kinds_begin_96, r_Kinds_begin_97, r_Kinds_begin_98, r_Kinds_begin_99, r_Kinds_begin_102, r_Kinds_begin_103, r_Kinds_begin_104, r_Kinds_begin_107, xf_Kinds_begin_9, xf_Kinds_begin_15, xf_Kinds_begin_19, xf_Kinds_begin_22, xf_Kinds_begin_25, xf_Kinds_begin_31, xe_Kinds_begin_156, xd_Kinds_begin, xrb_Kinds_begin, xin_Kinds_begin, T_Kinds_admits_e, TF_Kinds_admits, lh, lp0, lp1, lp2, lp3, lp4, lp5, lq0, lq1, lq2, lq3, lq4, lq5, Nat.reduceAdd, Nat.reduceMul, Nat.reduceEqDiff, reduceIte, Int.reduceNeg, Int.reduceLE, Int.reduceLT, Int.reduceAdd, Int.reduceSub, Int.reduceToNat, true_and, and_true, inR_e, Nat.reduceLT, Nat.reduceLeDiff, reduceCtorEq, Nat.add_zero, Nat.zero_add, or_false, false_or, or_true, true_or, not_true_eq_false, not_false_eq_true, Classical.not_not, Nat.add_eq_zero_iff, and_false, false_and, Int.reduceEq, List.mem_cons, List.not_mem_nil, forall_eq_or_imp, forall_eq, false_implies, implies_true, forall_const, aargs_0, aargs_i, aargs_r, aargs_l, aargs_n, nfT_e, eq_self, and_self, Nat.le_refl, fu_s, fu_fu, iu_iu, iu_s, fu_am, fu_a0, fu_0a, iu_l, Nat.reduceBEq, Int.reduceBEq, T_objInit_e]
  refine ⟨hL, fun ha => ?_, fun ha => absurd hc ha⟩
  repeat' (first | assumption | intro _ | apply And.intro)
  all_goals first | omega | assumption | (exact h1 (by omega)) | (exact h0 (by omega)) | (exact h1 ⟨by omega, by omega⟩) | (exact h0 ⟨by omega, by omega⟩) | (exact h1 ⟨by omega, by omega, by omega⟩) | (exact h0 ⟨by omega, by omega, by omega⟩)
theorem co_X1_174 : CallOK RX1 (.invokestatic 43) (1, 0, 0, 0, T_PR_isSort) := call_S S_PR_isSort (by decide) (by decide +kernel) (Or.inr (by decide +kernel)) (by decide +kernel) (by decide +kernel) (by decide +kernel)
theorem co_X1_186 : CallOK RX1 (.invokestatic 46) (1, 0, 0, 0, T_PR_widthOf) := call_S S_PR_widthOf (by decide) (by decide +kernel) (Or.inr (by decide +kernel)) (by decide +kernel) (by decide +kernel) (by decide +kernel)
def TF_Kinds_addField (o : Nat) (x : Int) (s : Int) (sz sl : Nat) (lay : Nat → Nat × Int) (ρ : Nat → Int → Nat) (σ : Nat → Int → Int) (τ : Nat → Int → Int64) (k : Option AV → Mm → Prop) : Prop := LKinds lay ρ o ∧ Wd lay ρ σ ∧ (0 ≤ x ∧ x < 40 ∧ ¬ σ (o + 1) x = 0) ∧ (0 ≤ s ∧ s < 6) ∧ (0 ≤ (σ (o + 4) x - σ (o + 3) x) ∧ (σ (o + 4) x - σ (o + 3) x) < 12) ∧ (0 ≤ σ (o + 4) x ∧ σ (o + 4) x ≤ 1000) ∧ (0 ≤ σ (o + 5) x ∧ σ (o + 5) x ≤ 10000) ∧ k none (sz, sl, lay, ρ, fu (fu (fu σ (o + 6) (iu (σ (o + 6)) (x * 12 + (σ (o + 4) x - σ (o + 3) x)) s)) (o + 4) (iu (σ (o + 4)) x (σ (o + 4) x + 1))) (o + 5) (iu (σ (o + 5)) x (σ (o + 5) x + wd s)), τ)
def T_Kinds_addField : Tr := mkT 1 fun o as M k => pI as fun x as => pI as fun s as => as = [] ∧ TF_Kinds_addField o x s M.1 M.2.1 M.2.2.1 M.2.2.2.1 M.2.2.2.2.1 M.2.2.2.2.2 k
theorem T_Kinds_addField_e {o : Nat} {x : Int} {s : Int} {sz sl : Nat} {lay : Nat → Nat × Int} {ρ : Nat → Int → Nat} {σ : Nat → Int → Int} {τ : Nat → Int → Int64} {k : Option AV → Mm → Prop} : T_Kinds_addField [vR o, vI x, vI s] (sz, sl, lay, ρ, σ, τ) k = (lay o = (11, 0) ∧ TF_Kinds_addField o x s sz sl lay ρ σ τ k) := by simp [T_Kinds_addField, mkT_e, pI_e, pR_e, pL_e]
theorem T_Kinds_addField_r (as : List AV) (M : Mm) (k : Option AV → Mm → Prop) (h : T_Kinds_addField as M k) : ∃ b As, as = vR b :: As ∧ M.2.2.1 b = (10 + 1, 0) := by
  obtain ⟨b, As, h1, h2, -⟩ := mkT_r h
  exact ⟨b, As, h1, h2⟩
def tb_Kinds_addField : List (Nat × Option (List Nat) × Instr × List Nat) := [(0, none, .aload_n 0, []), (1, none, .iload_n 1, []), (2, none, .invokevirtual 35, []), (5, none, .ifCond .eq 10, [15]), (8, none, .iload_n 2, []), (9, none, .invokestatic 43, []), (12, none, .ifCond .ne 4, [16]), (15, none, .return_, []), (16, none, .aload_n 0, []), (17, none, .getfield 22, []), (20, none, .iload_n 1, []), (21, none, .iaload, []), (22, none, .aload_n 0, []), (23, none, .getfield 19, []), (26, none, .iload_n 1, []), (27, none, .iaload, []), (28, none, .isub, []), (29, none, .istore_n 3, []), (30, none, .iload_n 3, []), (31, none, .ifCond .lt 44, [75]), (34, none, .iload_n 3, []), (35, none, .bipush 12, []), (37, none, .if_icmp .ge 38, [75]), (40, none, .aload_n 0, []), (41, none, .getfield 28, []), (44, none, .iload_n 1, []), (45, none, .bipush 12, []), (47, none, .imul, []), (48, none, .iload_n 3, []), (49, none, .iadd, []), (50, none, .iload_n 2, []), (51, none, .iastore, []), (52, none, .aload_n 0, []), (53, none, .getfield 22, []), (56, none, .iload_n 1, []), (57, none, .dup2, []), (58, none, .iaload, []), (59, none, .iconst 1, []), (60, none, .iadd, []), (61, none, .iastore, []), (62, none, .aload_n 0, []), (63, none, .getfield 25, []), (66, none, .iload_n 1, []), (67, none, .dup2, []), (68, none, .iaload, []), (69, none, .iload_n 2, []), (70, none, .invokestatic 46, []), (73, none, .iadd, []), (74, none, .iastore, []), (75, none, .return_, [])]
def P_Kinds_addField : Nat → Option (List Nat) × Instr × List Nat := plk tb_Kinds_addField
theorem r_Kinds_addField_0 : P_Kinds_addField 0 = (none, .aload_n 0, []) := by decide +kernel
theorem r_Kinds_addField_1 : P_Kinds_addField 1 = (none, .iload_n 1, []) := by decide +kernel
theorem r_Kinds_addField_2 : P_Kinds_addField 2 = (none, .invokevirtual 35, []) := by decide +kernel
theorem r_Kinds_addField_5 : P_Kinds_addField 5 = (none, .ifCond .eq 10, [15]) := by decide +kernel
theorem r_Kinds_addField_8 : P_Kinds_addField 8 = (none, .iload_n 2, []) := by decide +kernel
theorem r_Kinds_addField_9 : P_Kinds_addField 9 = (none, .invokestatic 43, []) := by decide +kernel
theorem r_Kinds_addField_12 : P_Kinds_addField 12 = (none, .ifCond .ne 4, [16]) := by decide +kernel
theorem r_Kinds_addField_15 : P_Kinds_addField 15 = (none, .return_, []) := by decide +kernel
theorem r_Kinds_addField_16 : P_Kinds_addField 16 = (none, .aload_n 0, []) := by decide +kernel
theorem r_Kinds_addField_17 : P_Kinds_addField 17 = (none, .getfield 22, []) := by decide +kernel
theorem r_Kinds_addField_20 : P_Kinds_addField 20 = (none, .iload_n 1, []) := by decide +kernel
theorem r_Kinds_addField_21 : P_Kinds_addField 21 = (none, .iaload, []) := by decide +kernel
theorem r_Kinds_addField_22 : P_Kinds_addField 22 = (none, .aload_n 0, []) := by decide +kernel
theorem r_Kinds_addField_23 : P_Kinds_addField 23 = (none, .getfield 19, []) := by decide +kernel
theorem r_Kinds_addField_26 : P_Kinds_addField 26 = (none, .iload_n 1, []) := by decide +kernel
theorem r_Kinds_addField_27 : P_Kinds_addField 27 = (none, .iaload, []) := by decide +kernel
theorem r_Kinds_addField_28 : P_Kinds_addField 28 = (none, .isub, []) := by decide +kernel
theorem r_Kinds_addField_29 : P_Kinds_addField 29 = (none, .istore_n 3, []) := by decide +kernel
theorem r_Kinds_addField_30 : P_Kinds_addField 30 = (none, .iload_n 3, []) := by decide +kernel
theorem r_Kinds_addField_31 : P_Kinds_addField 31 = (none, .ifCond .lt 44, [75]) := by decide +kernel
theorem r_Kinds_addField_34 : P_Kinds_addField 34 = (none, .iload_n 3, []) := by decide +kernel
theorem r_Kinds_addField_35 : P_Kinds_addField 35 = (none, .bipush 12, []) := by decide +kernel
theorem r_Kinds_addField_37 : P_Kinds_addField 37 = (none, .if_icmp .ge 38, [75]) := by decide +kernel
theorem r_Kinds_addField_40 : P_Kinds_addField 40 = (none, .aload_n 0, []) := by decide +kernel
theorem r_Kinds_addField_41 : P_Kinds_addField 41 = (none, .getfield 28, []) := by decide +kernel
theorem r_Kinds_addField_44 : P_Kinds_addField 44 = (none, .iload_n 1, []) := by decide +kernel
theorem r_Kinds_addField_45 : P_Kinds_addField 45 = (none, .bipush 12, []) := by decide +kernel
theorem r_Kinds_addField_47 : P_Kinds_addField 47 = (none, .imul, []) := by decide +kernel
theorem r_Kinds_addField_48 : P_Kinds_addField 48 = (none, .iload_n 3, []) := by decide +kernel
theorem r_Kinds_addField_49 : P_Kinds_addField 49 = (none, .iadd, []) := by decide +kernel
theorem r_Kinds_addField_50 : P_Kinds_addField 50 = (none, .iload_n 2, []) := by decide +kernel
theorem r_Kinds_addField_51 : P_Kinds_addField 51 = (none, .iastore, []) := by decide +kernel
theorem r_Kinds_addField_52 : P_Kinds_addField 52 = (none, .aload_n 0, []) := by decide +kernel
theorem r_Kinds_addField_53 : P_Kinds_addField 53 = (none, .getfield 22, []) := by decide +kernel
theorem r_Kinds_addField_56 : P_Kinds_addField 56 = (none, .iload_n 1, []) := by decide +kernel
theorem r_Kinds_addField_57 : P_Kinds_addField 57 = (none, .dup2, []) := by decide +kernel
theorem r_Kinds_addField_58 : P_Kinds_addField 58 = (none, .iaload, []) := by decide +kernel
theorem r_Kinds_addField_59 : P_Kinds_addField 59 = (none, .iconst 1, []) := by decide +kernel
theorem r_Kinds_addField_60 : P_Kinds_addField 60 = (none, .iadd, []) := by decide +kernel
theorem r_Kinds_addField_61 : P_Kinds_addField 61 = (none, .iastore, []) := by decide +kernel
theorem r_Kinds_addField_62 : P_Kinds_addField 62 = (none, .aload_n 0, []) := by decide +kernel
theorem r_Kinds_addField_63 : P_Kinds_addField 63 = (none, .getfield 25, []) := by decide +kernel
theorem r_Kinds_addField_66 : P_Kinds_addField 66 = (none, .iload_n 1, []) := by decide +kernel
theorem r_Kinds_addField_67 : P_Kinds_addField 67 = (none, .dup2, []) := by decide +kernel
theorem r_Kinds_addField_68 : P_Kinds_addField 68 = (none, .iaload, []) := by decide +kernel
theorem r_Kinds_addField_69 : P_Kinds_addField 69 = (none, .iload_n 2, []) := by decide +kernel
theorem r_Kinds_addField_70 : P_Kinds_addField 70 = (none, .invokestatic 46, []) := by decide +kernel
theorem r_Kinds_addField_73 : P_Kinds_addField 73 = (none, .iadd, []) := by decide +kernel
theorem r_Kinds_addField_74 : P_Kinds_addField 74 = (none, .iastore, []) := by decide +kernel
theorem r_Kinds_addField_75 : P_Kinds_addField 75 = (none, .return_, []) := by decide +kernel
def E_Kinds_addField : List (Nat × Ent) := [(174, (1, 0, 0, 0, T_PR_isSort)), (186, (1, 0, 0, 0, T_PR_widthOf)), (140, (2, 0, 0, 0, T_Kinds_knows))]
def X_Kinds_addField : Cx := (llk (0, 0, 9) ftX1, llk 99 ntX1, llk none kcX1, llk none klX1, llk dEnt E_Kinds_addField, 1, 3, false)
theorem xok_Kinds_addField : Xok RX1 X_Kinds_addField := xok_of ftX1_ok ntX1_ok kcX1_ok klX1_ok (E := E_Kinds_addField) (List.forall_mem_cons.mpr ⟨co_X1_174, List.forall_mem_cons.mpr ⟨co_X1_186, List.forall_mem_cons.mpr ⟨co_X1_140, fun _ h => absurd h List.not_mem_nil⟩⟩⟩)
theorem xf_Kinds_addField_19 : xfl X_Kinds_addField 19 = (1, 2, 1) := by decide +kernel
theorem xf_Kinds_addField_22 : xfl X_Kinds_addField 22 = (1, 3, 1) := by decide +kernel
theorem xf_Kinds_addField_25 : xfl X_Kinds_addField 25 = (1, 4, 1) := by decide +kernel
theorem xf_Kinds_addField_28 : xfl X_Kinds_addField 28 = (1, 5, 1) := by decide +kernel
theorem xe_Kinds_addField_174 : xE X_Kinds_addField (4 * 43 + 2) = (1, 0, 0, 0, T_PR_isSort) := rfl
theorem xe_Kinds_addField_186 : xE X_Kinds_addField (4 * 46 + 2) = (1, 0, 0, 0, T_PR_widthOf) := rfl
theorem xe_Kinds_addField_140 : xE X_Kinds_addField (4 * 35 + 0) = (2, 0, 0, 0, T_Kinds_knows) := rfl
theorem xd_Kinds_addField : xd X_Kinds_addField = 1 := rfl
theorem xrb_Kinds_addField : xrb X_Kinds_addField = 3 := rfl
theorem xin_Kinds_addField : xin X_Kinds_addField = false := rfl
set_option maxHeartbeats 8000000 in
set_option maxRecDepth 100000 in
theorem S_Kinds_addField : Snd yX1_addField cX1_addField 4 none T_Kinds_addField 1 0 0 := by
  refine snd_of (X := X_Kinds_addField) (P := P_Kinds_addField) (tb := tb_Kinds_addField) (own := RX1) (by decide) rfl rfl (by decide +kernel) xok_Kinds_addField rfl rk3 (fun h => by first | rfl | cases h) ?_
  intro as M k has hM hT0
  obtain ⟨sz, sl, lay, ρ, σ, τ⟩ := M
  obtain ⟨o, as1, e, hlo, hT1⟩ := mkT_r hT0
  clear hT0
  subst e
  obtain ⟨x, as2, e, hT2⟩ := pI_x hT1
  clear hT1
  subst e
  obtain ⟨s, as3, e, hT3⟩ := pI_x hT2
  clear hT2
  subst e
  obtain ⟨e, hT⟩ := hT3
  subst e
  replace hlo : lay o = (11, 0) := hlo
  have r_x : -2147483648 ≤ x ∧ x ≤ 2147483647 := has (vI x) (by simp)
  have r_s : -2147483648 ≤ s ∧ s ≤ 2147483647 := has (vI s) (by simp)
  clear has
  replace hM : ∀ a i, -2147483648 ≤ σ a i ∧ σ a i ≤ 2147483647 := hM
  replace hT : TF_Kinds_addField o x s sz sl lay ρ σ τ k := hT
  unfold TF_Kinds_addField at hT
  obtain ⟨hL, hW, hk, hs, ho, hc, hw5, hT⟩ := hT
  obtain ⟨lh, lp0, lp1, lp2, lp3, lp4, lp5, lq0, lq1, lq2, lq3, lq4, lq5⟩ := (show LKinds lay ρ _ from hL)
  refine ⟨Nat.le_of_ble_eq_true rfl, fun _ _ _ => False, fun _ _ _ => 0, 58, ?_, fun _ _ _ _ _ _ h => h.elim⟩
  unfold wps
  simp only [si_iload_n0, si_iload_n1, si_iload_n2, si_iload_n3, si_iload, si_lload_n0, si_lload_n1, si_lload_n2, si_lload_n3, si_lload, si_aload_n0, si_aload_n1, si_aload_n2, si_aload_n3, si_aload, si_istore_n0, si_istore_n1, si_istore_n2, si_istore_n3, si_istore, si_astore_n0, si_astore_n1, si_astore_n2, si_astore_n3, si_astore, si_lstore_n0, si_lstore_n1, si_lstore_n2, si_lstore_n3, si_lstore, si_iconst, si_bipush, si_sipush, si_ldc, si_ldc2_w, si_lconst0, si_lconst1, si_aconst_null, si_iinc, si_dup, si_dup2, si_iadd, si_isub, si_imul, si_idiv, si_irem, si_iand, si_ior, si_ishl, si_ishr, si_ladd, si_lmul, si_lor, si_lxor, si_lshl, si_lushr, si_lcmp, si_i2b, si_i2l, si_l2i, si_icmp_eq, si_icmp_ne, si_icmp_lt, si_icmp_ge, si_icmp_gt, si_icmp_le, si_if_eq, si_if_ne, si_if_lt, si_if_ge, si_if_gt, si_if_le, si_ifnull, si_ifnonnull, si_goto, si_tableswitch, si_lookupswitch, si_getfield, si_putfield, si_getstatic, si_iaload, si_baload, si_laload, si_aaload, si_iastore, si_bastore, si_lastore, si_aastore, si_arraylength, si_new, si_newarray, si_anewarray, si_invokevirtual, si_invokespecial, si_invokestatic, si_ireturn, si_lreturn, si_areturn, si_return_, pI_e, pL_e, pR_e, pA_r, pA_n, pN_n, pN_r, oI_e, oL_e, oA_r, oA_n, lget_e, lrm1_0, lrm2_0, lrm1_i, lrm1_r, lrm1_n, lrm1_l, lrm2_i, lrm2_r, lrm2_n, lrm2_l, popN_0, popN_s, acat_i, acat_l, acat_r, acat_n, stw_0, stw_s, psh_s, psh_n, wgf_r, wgf_i, wgf_b, wgf_n, wgf_m, wpf_i, wpf_r, wpf_b, wnew_e, callE_e, rbk_0, rbk_1, tsw_0, tsw_s, lsw_0, lsw_s, wp_s, wq_t, wq_f, oV_e, pick_0, pick_s, oZ_e, oY_e, r_Kinds_addField_0, r_Kinds_addField_1, r_Kinds_addField_2, r_Kinds_addField_5, r_Kinds_addField_8, r_Kinds_addField_9, r_Kinds_addField_12, r_Kinds_addField_15, r_Kinds_addField_16, r_Kinds_addField_17, r_Kinds_addField_20, r_Kinds_addField_21, r_Kinds_addField_22, r_Kinds_addField_23, r_Kinds_addField_26, r_Kinds_addField_27, r_Kinds_addField_28, r_Kinds_addField_29, r_Kinds_addField_30, r_Kinds_addField_31, r_Kinds_addField_34, r_Kinds_addField_35, r_Kinds_addField_37, r_Kinds_addField_40, r_Kinds_addField_41, r_Kinds_addField_44, r_Kinds_addField_45, r_Kinds_addField_47, r_Kinds_addField_48, r_Kinds_addField_49, r_Kinds_addField_50, r_Kinds_addField_51, r_Kinds_addField_52, r_Kinds_addField_53, r_Kinds_addField_56, r_Kinds_addField_57, r_Kinds_addField_58, r_Kinds_addField_59, r_Kinds_addField_60, r_Kinds_addField_61, r_Kinds_addField_62, r_Kinds_addField_63, r_Kinds_addField_66, r_Kinds_addField_67, r_Kinds_addField_68, r_Kinds_addField_69, r_Kinds_addField_70, r_Kinds_addField_73, r_Kinds_addField_74, r_Kinds_addField_75, xf_Kinds_addField_19, xf_Kinds_addField_22, xf_Kinds_addField_25, xf_Kinds_addField_28, xe_Kinds_addField_174, xe_Kinds_addField_186, xe_Kinds_addField_140, xd_Kinds_addField, xrb_Kinds_addField, xin_Kinds_addField, T_PR_isSort_e, TF_PR_isSort, T_PR_widthOf_e, TF_PR_widthOf, T_Kinds_knows_e, TF_Kinds_knows, lh, lp0, lp1, lp2, lp3, lp4, lp5, lq0, lq1, lq2, lq3, lq4, lq5, Nat.reduceAdd, Nat.reduceMul, Nat.reduceEqDiff, reduceIte, Int.reduceNeg, Int.reduceLE, Int.reduceLT, Int.reduceAdd, Int.reduceSub, Int.reduceToNat, true_and, and_true, inR_e, Nat.reduceLT, Nat.reduceLeDiff, reduceCtorEq, Nat.add_zero, Nat.zero_add, or_false, false_or, or_true, true_or, not_true_eq_false, not_false_eq_true, Classical.not_not, Nat.add_eq_zero_iff, and_false, false_and, Int.reduceEq, List.mem_cons, List.not_mem_nil, forall_eq_or_imp, forall_eq, false_implies, implies_true, forall_const, aargs_0, aargs_i, aargs_r, aargs_l, aargs_n, nfT_e, eq_self, and_self, Nat.le_refl, fu_s, fu_fu, iu_iu, iu_s, fu_am, fu_a0, fu_0a, iu_l, Nat.reduceBEq, Int.reduceBEq, T_objInit_e]
  have hw := wd_R s
  have hW2 : Wd lay ρ (fu (fu σ (o + 6) (iu (σ (o + 6)) (x * 12 + (σ (o + 4) x - σ (o + 3) x)) s)) (o + 4) (iu (σ (o + 4)) x (σ (o + 4) x + 1))) := (hW.fu (by rw [lq5]; decide)).fu (by rw [lq3]; decide)
  repeat' (first | assumption | intro _ | apply And.intro)
  all_goals first | omega | assumption
def TF_Kinds_countOf (o : Nat) (x : Int) (sz sl : Nat) (lay : Nat → Nat × Int) (ρ : Nat → Int → Nat) (σ : Nat → Int → Int) (τ : Nat → Int → Int64) (k : Option AV → Mm → Prop) : Prop := LKinds lay ρ o ∧ (0 ≤ x ∧ x < 40 ∧ ¬ σ (o + 1) x = 0 → k (some (vI (σ (o + 4) x))) (sz, sl, lay, ρ, σ, τ)) ∧ (¬ (0 ≤ x ∧ x < 40 ∧ ¬ σ (o + 1) x = 0) → k (some (vI (0))) (sz, sl, lay, ρ, σ, τ))
def T_Kinds_countOf : Tr := mkT 1 fun o as M k => pI as fun x as => as = [] ∧ TF_Kinds_countOf o x M.1 M.2.1 M.2.2.1 M.2.2.2.1 M.2.2.2.2.1 M.2.2.2.2.2 k
theorem T_Kinds_countOf_e {o : Nat} {x : Int} {sz sl : Nat} {lay : Nat → Nat × Int} {ρ : Nat → Int → Nat} {σ : Nat → Int → Int} {τ : Nat → Int → Int64} {k : Option AV → Mm → Prop} : T_Kinds_countOf [vR o, vI x] (sz, sl, lay, ρ, σ, τ) k = (lay o = (11, 0) ∧ TF_Kinds_countOf o x sz sl lay ρ σ τ k) := by simp [T_Kinds_countOf, mkT_e, pI_e, pR_e, pL_e]
theorem T_Kinds_countOf_r (as : List AV) (M : Mm) (k : Option AV → Mm → Prop) (h : T_Kinds_countOf as M k) : ∃ b As, as = vR b :: As ∧ M.2.2.1 b = (10 + 1, 0) := by
  obtain ⟨b, As, h1, h2, -⟩ := mkT_r h
  exact ⟨b, As, h1, h2⟩
def tb_Kinds_countOf : List (Nat × Option (List Nat) × Instr × List Nat) := [(0, none, .aload_n 0, []), (1, none, .iload_n 1, []), (2, none, .invokevirtual 35, []), (5, none, .ifCond .eq 12, [17]), (8, none, .aload_n 0, []), (9, none, .getfield 22, []), (12, none, .iload_n 1, []), (13, none, .iaload, []), (14, none, .goto 4, [18]), (17, none, .iconst 0, []), (18, none, .ireturn, [])]
def P_Kinds_countOf : Nat → Option (List Nat) × Instr × List Nat := plk tb_Kinds_countOf
theorem r_Kinds_countOf_0 : P_Kinds_countOf 0 = (none, .aload_n 0, []) := by decide +kernel
theorem r_Kinds_countOf_1 : P_Kinds_countOf 1 = (none, .iload_n 1, []) := by decide +kernel
theorem r_Kinds_countOf_2 : P_Kinds_countOf 2 = (none, .invokevirtual 35, []) := by decide +kernel
theorem r_Kinds_countOf_5 : P_Kinds_countOf 5 = (none, .ifCond .eq 12, [17]) := by decide +kernel
theorem r_Kinds_countOf_8 : P_Kinds_countOf 8 = (none, .aload_n 0, []) := by decide +kernel
theorem r_Kinds_countOf_9 : P_Kinds_countOf 9 = (none, .getfield 22, []) := by decide +kernel
theorem r_Kinds_countOf_12 : P_Kinds_countOf 12 = (none, .iload_n 1, []) := by decide +kernel
theorem r_Kinds_countOf_13 : P_Kinds_countOf 13 = (none, .iaload, []) := by decide +kernel
theorem r_Kinds_countOf_14 : P_Kinds_countOf 14 = (none, .goto 4, [18]) := by decide +kernel
theorem r_Kinds_countOf_17 : P_Kinds_countOf 17 = (none, .iconst 0, []) := by decide +kernel
theorem r_Kinds_countOf_18 : P_Kinds_countOf 18 = (none, .ireturn, []) := by decide +kernel
def E_Kinds_countOf : List (Nat × Ent) := [(140, (2, 0, 0, 0, T_Kinds_knows))]
def X_Kinds_countOf : Cx := (llk (0, 0, 9) ftX1, llk 99 ntX1, llk none kcX1, llk none klX1, llk dEnt E_Kinds_countOf, 1, 0, false)
theorem xok_Kinds_countOf : Xok RX1 X_Kinds_countOf := xok_of ftX1_ok ntX1_ok kcX1_ok klX1_ok (E := E_Kinds_countOf) (List.forall_mem_cons.mpr ⟨co_X1_140, fun _ h => absurd h List.not_mem_nil⟩)
theorem xf_Kinds_countOf_22 : xfl X_Kinds_countOf 22 = (1, 3, 1) := by decide +kernel
theorem xe_Kinds_countOf_140 : xE X_Kinds_countOf (4 * 35 + 0) = (2, 0, 0, 0, T_Kinds_knows) := rfl
theorem xd_Kinds_countOf : xd X_Kinds_countOf = 1 := rfl
theorem xrb_Kinds_countOf : xrb X_Kinds_countOf = 0 := rfl
theorem xin_Kinds_countOf : xin X_Kinds_countOf = false := rfl
set_option maxHeartbeats 4000000 in
set_option maxRecDepth 100000 in
theorem S_Kinds_countOf : Snd yX1_countOf cX1_countOf 2 (some .int) T_Kinds_countOf 1 0 0 := by
  refine snd_of (X := X_Kinds_countOf) (P := P_Kinds_countOf) (tb := tb_Kinds_countOf) (own := RX1) (by decide) rfl rfl (by decide +kernel) xok_Kinds_countOf rfl rk0 (fun h => by first | rfl | cases h) ?_
  intro as M k has hM hT0
  obtain ⟨sz, sl, lay, ρ, σ, τ⟩ := M
  obtain ⟨o, as1, e, hlo, hT1⟩ := mkT_r hT0
  clear hT0
  subst e
  obtain ⟨x, as2, e, hT2⟩ := pI_x hT1
  clear hT1
  subst e
  obtain ⟨e, hT⟩ := hT2
  subst e
  replace hlo : lay o = (11, 0) := hlo
  have r_x : -2147483648 ≤ x ∧ x ≤ 2147483647 := has (vI x) (by simp)
  clear has
  replace hM : ∀ a i, -2147483648 ≤ σ a i ∧ σ a i ≤ 2147483647 := hM
  replace hT : TF_Kinds_countOf o x sz sl lay ρ σ τ k := hT
  unfold TF_Kinds_countOf at hT
  obtain ⟨hL, h1, h0⟩ := hT
  obtain ⟨lh, lp0, lp1, lp2, lp3, lp4, lp5, lq0, lq1, lq2, lq3, lq4, lq5⟩ := (show LKinds lay ρ _ from hL)
  refine ⟨Nat.le_of_ble_eq_true rfl, fun _ _ _ => False, fun _ _ _ => 0, 19, ?_, fun _ _ _ _ _ _ h => h.elim⟩
  unfold wps
  simp only [si_iload_n0, si_iload_n1, si_iload_n2, si_iload_n3, si_iload, si_lload_n0, si_lload_n1, si_lload_n2, si_lload_n3, si_lload, si_aload_n0, si_aload_n1, si_aload_n2, si_aload_n3, si_aload, si_istore_n0, si_istore_n1, si_istore_n2, si_istore_n3, si_istore, si_astore_n0, si_astore_n1, si_astore_n2, si_astore_n3, si_astore, si_lstore_n0, si_lstore_n1, si_lstore_n2, si_lstore_n3, si_lstore, si_iconst, si_bipush, si_sipush, si_ldc, si_ldc2_w, si_lconst0, si_lconst1, si_aconst_null, si_iinc, si_dup, si_dup2, si_iadd, si_isub, si_imul, si_idiv, si_irem, si_iand, si_ior, si_ishl, si_ishr, si_ladd, si_lmul, si_lor, si_lxor, si_lshl, si_lushr, si_lcmp, si_i2b, si_i2l, si_l2i, si_icmp_eq, si_icmp_ne, si_icmp_lt, si_icmp_ge, si_icmp_gt, si_icmp_le, si_if_eq, si_if_ne, si_if_lt, si_if_ge, si_if_gt, si_if_le, si_ifnull, si_ifnonnull, si_goto, si_tableswitch, si_lookupswitch, si_getfield, si_putfield, si_getstatic, si_iaload, si_baload, si_laload, si_aaload, si_iastore, si_bastore, si_lastore, si_aastore, si_arraylength, si_new, si_newarray, si_anewarray, si_invokevirtual, si_invokespecial, si_invokestatic, si_ireturn, si_lreturn, si_areturn, si_return_, pI_e, pL_e, pR_e, pA_r, pA_n, pN_n, pN_r, oI_e, oL_e, oA_r, oA_n, lget_e, lrm1_0, lrm2_0, lrm1_i, lrm1_r, lrm1_n, lrm1_l, lrm2_i, lrm2_r, lrm2_n, lrm2_l, popN_0, popN_s, acat_i, acat_l, acat_r, acat_n, stw_0, stw_s, psh_s, psh_n, wgf_r, wgf_i, wgf_b, wgf_n, wgf_m, wpf_i, wpf_r, wpf_b, wnew_e, callE_e, rbk_0, rbk_1, tsw_0, tsw_s, lsw_0, lsw_s, wp_s, wq_t, wq_f, oV_e, pick_0, pick_s, oZ_e, oY_e, r_Kinds_countOf_0, r_Kinds_countOf_1, r_Kinds_countOf_2, r_Kinds_countOf_5, r_Kinds_countOf_8, r_Kinds_countOf_9, r_Kinds_countOf_12, r_Kinds_countOf_13, r_Kinds_countOf_14, r_Kinds_countOf_17, r_Kinds_countOf_18, xf_Kinds_countOf_22, xe_Kinds_countOf_140, xd_Kinds_countOf, xrb_Kinds_countOf, xin_Kinds_countOf, T_Kinds_knows_e, TF_Kinds_knows, lh, lp0, lp1, lp2, lp3, lp4, lp5, lq0, lq1, lq2, lq3, lq4, lq5, Nat.reduceAdd, Nat.reduceMul, Nat.reduceEqDiff, reduceIte, Int.reduceNeg, Int.reduceLE, Int.reduceLT, Int.reduceAdd, Int.reduceSub, Int.reduceToNat, true_and, and_true, inR_e, Nat.reduceLT, Nat.reduceLeDiff, reduceCtorEq, Nat.add_zero, Nat.zero_add, or_false, false_or, or_true, true_or, not_true_eq_false, not_false_eq_true, Classical.not_not, Nat.add_eq_zero_iff, and_false, false_and, Int.reduceEq, List.mem_cons, List.not_mem_nil, forall_eq_or_imp, forall_eq, false_implies, implies_true, forall_const, aargs_0, aargs_i, aargs_r, aargs_l, aargs_n, nfT_e, eq_self, and_self, Nat.le_refl, fu_s, fu_fu, iu_iu, iu_s, fu_am, fu_a0, fu_0a, iu_l, Nat.reduceBEq, Int.reduceBEq, T_objInit_e]
  repeat' (first | assumption | intro _ | apply And.intro)
  all_goals first | omega | assumption | (exact h1 (by omega)) | (exact h0 (by omega)) | (exact h1 ⟨by omega, by omega⟩) | (exact h0 ⟨by omega, by omega⟩) | (exact h1 ⟨by omega, by omega, by omega⟩) | (exact h0 ⟨by omega, by omega, by omega⟩)
def TF_Kinds_bytesOf (o : Nat) (x : Int) (sz sl : Nat) (lay : Nat → Nat × Int) (ρ : Nat → Int → Nat) (σ : Nat → Int → Int) (τ : Nat → Int → Int64) (k : Option AV → Mm → Prop) : Prop := LKinds lay ρ o ∧ (0 ≤ x ∧ x < 40 ∧ ¬ σ (o + 1) x = 0 → k (some (vI (σ (o + 5) x))) (sz, sl, lay, ρ, σ, τ)) ∧ (¬ (0 ≤ x ∧ x < 40 ∧ ¬ σ (o + 1) x = 0) → k (some (vI (0))) (sz, sl, lay, ρ, σ, τ))
def T_Kinds_bytesOf : Tr := mkT 1 fun o as M k => pI as fun x as => as = [] ∧ TF_Kinds_bytesOf o x M.1 M.2.1 M.2.2.1 M.2.2.2.1 M.2.2.2.2.1 M.2.2.2.2.2 k
theorem T_Kinds_bytesOf_e {o : Nat} {x : Int} {sz sl : Nat} {lay : Nat → Nat × Int} {ρ : Nat → Int → Nat} {σ : Nat → Int → Int} {τ : Nat → Int → Int64} {k : Option AV → Mm → Prop} : T_Kinds_bytesOf [vR o, vI x] (sz, sl, lay, ρ, σ, τ) k = (lay o = (11, 0) ∧ TF_Kinds_bytesOf o x sz sl lay ρ σ τ k) := by simp [T_Kinds_bytesOf, mkT_e, pI_e, pR_e, pL_e]
theorem T_Kinds_bytesOf_r (as : List AV) (M : Mm) (k : Option AV → Mm → Prop) (h : T_Kinds_bytesOf as M k) : ∃ b As, as = vR b :: As ∧ M.2.2.1 b = (10 + 1, 0) := by
  obtain ⟨b, As, h1, h2, -⟩ := mkT_r h
  exact ⟨b, As, h1, h2⟩
def tb_Kinds_bytesOf : List (Nat × Option (List Nat) × Instr × List Nat) := [(0, none, .aload_n 0, []), (1, none, .iload_n 1, []), (2, none, .invokevirtual 35, []), (5, none, .ifCond .eq 12, [17]), (8, none, .aload_n 0, []), (9, none, .getfield 25, []), (12, none, .iload_n 1, []), (13, none, .iaload, []), (14, none, .goto 4, [18]), (17, none, .iconst 0, []), (18, none, .ireturn, [])]
def P_Kinds_bytesOf : Nat → Option (List Nat) × Instr × List Nat := plk tb_Kinds_bytesOf
theorem r_Kinds_bytesOf_0 : P_Kinds_bytesOf 0 = (none, .aload_n 0, []) := by decide +kernel
theorem r_Kinds_bytesOf_1 : P_Kinds_bytesOf 1 = (none, .iload_n 1, []) := by decide +kernel
theorem r_Kinds_bytesOf_2 : P_Kinds_bytesOf 2 = (none, .invokevirtual 35, []) := by decide +kernel
theorem r_Kinds_bytesOf_5 : P_Kinds_bytesOf 5 = (none, .ifCond .eq 12, [17]) := by decide +kernel
theorem r_Kinds_bytesOf_8 : P_Kinds_bytesOf 8 = (none, .aload_n 0, []) := by decide +kernel
theorem r_Kinds_bytesOf_9 : P_Kinds_bytesOf 9 = (none, .getfield 25, []) := by decide +kernel
theorem r_Kinds_bytesOf_12 : P_Kinds_bytesOf 12 = (none, .iload_n 1, []) := by decide +kernel
theorem r_Kinds_bytesOf_13 : P_Kinds_bytesOf 13 = (none, .iaload, []) := by decide +kernel
theorem r_Kinds_bytesOf_14 : P_Kinds_bytesOf 14 = (none, .goto 4, [18]) := by decide +kernel
theorem r_Kinds_bytesOf_17 : P_Kinds_bytesOf 17 = (none, .iconst 0, []) := by decide +kernel
theorem r_Kinds_bytesOf_18 : P_Kinds_bytesOf 18 = (none, .ireturn, []) := by decide +kernel
def E_Kinds_bytesOf : List (Nat × Ent) := [(140, (2, 0, 0, 0, T_Kinds_knows))]
def X_Kinds_bytesOf : Cx := (llk (0, 0, 9) ftX1, llk 99 ntX1, llk none kcX1, llk none klX1, llk dEnt E_Kinds_bytesOf, 1, 0, false)
theorem xok_Kinds_bytesOf : Xok RX1 X_Kinds_bytesOf := xok_of ftX1_ok ntX1_ok kcX1_ok klX1_ok (E := E_Kinds_bytesOf) (List.forall_mem_cons.mpr ⟨co_X1_140, fun _ h => absurd h List.not_mem_nil⟩)
theorem xf_Kinds_bytesOf_25 : xfl X_Kinds_bytesOf 25 = (1, 4, 1) := by decide +kernel
theorem xe_Kinds_bytesOf_140 : xE X_Kinds_bytesOf (4 * 35 + 0) = (2, 0, 0, 0, T_Kinds_knows) := rfl
theorem xd_Kinds_bytesOf : xd X_Kinds_bytesOf = 1 := rfl
theorem xrb_Kinds_bytesOf : xrb X_Kinds_bytesOf = 0 := rfl
theorem xin_Kinds_bytesOf : xin X_Kinds_bytesOf = false := rfl
set_option maxHeartbeats 4000000 in
set_option maxRecDepth 100000 in
theorem S_Kinds_bytesOf : Snd yX1_bytesOf cX1_bytesOf 2 (some .int) T_Kinds_bytesOf 1 0 0 := by
  refine snd_of (X := X_Kinds_bytesOf) (P := P_Kinds_bytesOf) (tb := tb_Kinds_bytesOf) (own := RX1) (by decide) rfl rfl (by decide +kernel) xok_Kinds_bytesOf rfl rk0 (fun h => by first | rfl | cases h) ?_
  intro as M k has hM hT0
  obtain ⟨sz, sl, lay, ρ, σ, τ⟩ := M
  obtain ⟨o, as1, e, hlo, hT1⟩ := mkT_r hT0
  clear hT0
  subst e
  obtain ⟨x, as2, e, hT2⟩ := pI_x hT1
  clear hT1
  subst e
  obtain ⟨e, hT⟩ := hT2
  subst e
  replace hlo : lay o = (11, 0) := hlo
  have r_x : -2147483648 ≤ x ∧ x ≤ 2147483647 := has (vI x) (by simp)
  clear has
  replace hM : ∀ a i, -2147483648 ≤ σ a i ∧ σ a i ≤ 2147483647 := hM
  replace hT : TF_Kinds_bytesOf o x sz sl lay ρ σ τ k := hT
  unfold TF_Kinds_bytesOf at hT
  obtain ⟨hL, h1, h0⟩ := hT
  obtain ⟨lh, lp0, lp1, lp2, lp3, lp4, lp5, lq0, lq1, lq2, lq3, lq4, lq5⟩ := (show LKinds lay ρ _ from hL)
  refine ⟨Nat.le_of_ble_eq_true rfl, fun _ _ _ => False, fun _ _ _ => 0, 19, ?_, fun _ _ _ _ _ _ h => h.elim⟩
  unfold wps
  simp only [si_iload_n0, si_iload_n1, si_iload_n2, si_iload_n3, si_iload, si_lload_n0, si_lload_n1, si_lload_n2, si_lload_n3, si_lload, si_aload_n0, si_aload_n1, si_aload_n2, si_aload_n3, si_aload, si_istore_n0, si_istore_n1, si_istore_n2, si_istore_n3, si_istore, si_astore_n0, si_astore_n1, si_astore_n2, si_astore_n3, si_astore, si_lstore_n0, si_lstore_n1, si_lstore_n2, si_lstore_n3, si_lstore, si_iconst, si_bipush, si_sipush, si_ldc, si_ldc2_w, si_lconst0, si_lconst1, si_aconst_null, si_iinc, si_dup, si_dup2, si_iadd, si_isub, si_imul, si_idiv, si_irem, si_iand, si_ior, si_ishl, si_ishr, si_ladd, si_lmul, si_lor, si_lxor, si_lshl, si_lushr, si_lcmp, si_i2b, si_i2l, si_l2i, si_icmp_eq, si_icmp_ne, si_icmp_lt, si_icmp_ge, si_icmp_gt, si_icmp_le, si_if_eq, si_if_ne, si_if_lt, si_if_ge, si_if_gt, si_if_le, si_ifnull, si_ifnonnull, si_goto, si_tableswitch, si_lookupswitch, si_getfield, si_putfield, si_getstatic, si_iaload, si_baload, si_laload, si_aaload, si_iastore, si_bastore, si_lastore, si_aastore, si_arraylength, si_new, si_newarray, si_anewarray, si_invokevirtual, si_invokespecial, si_invokestatic, si_ireturn, si_lreturn, si_areturn, si_return_, pI_e, pL_e, pR_e, pA_r, pA_n, pN_n, pN_r, oI_e, oL_e, oA_r, oA_n, lget_e, lrm1_0, lrm2_0, lrm1_i, lrm1_r, lrm1_n, lrm1_l, lrm2_i, lrm2_r, lrm2_n, lrm2_l, popN_0, popN_s, acat_i, acat_l, acat_r, acat_n, stw_0, stw_s, psh_s, psh_n, wgf_r, wgf_i, wgf_b, wgf_n, wgf_m, wpf_i, wpf_r, wpf_b, wnew_e, callE_e, rbk_0, rbk_1, tsw_0, tsw_s, lsw_0, lsw_s, wp_s, wq_t, wq_f, oV_e, pick_0, pick_s, oZ_e, oY_e, r_Kinds_bytesOf_0, r_Kinds_bytesOf_1, r_Kinds_bytesOf_2, r_Kinds_bytesOf_5, r_Kinds_bytesOf_8, r_Kinds_bytesOf_9, r_Kinds_bytesOf_12, r_Kinds_bytesOf_13, r_Kinds_bytesOf_14, r_Kinds_bytesOf_17, r_Kinds_bytesOf_18, xf_Kinds_bytesOf_25, xe_Kinds_bytesOf_140, xd_Kinds_bytesOf, xrb_Kinds_bytesOf, xin_Kinds_bytesOf, T_Kinds_knows_e, TF_Kinds_knows, lh, lp0, lp1, lp2, lp3, lp4, lp5, lq0, lq1, lq2, lq3, lq4, lq5, Nat.reduceAdd, Nat.reduceMul, Nat.reduceEqDiff, reduceIte, Int.reduceNeg, Int.reduceLE, Int.reduceLT, Int.reduceAdd, Int.reduceSub, Int.reduceToNat, true_and, and_true, inR_e, Nat.reduceLT, Nat.reduceLeDiff, reduceCtorEq, Nat.add_zero, Nat.zero_add, or_false, false_or, or_true, true_or, not_true_eq_false, not_false_eq_true, Classical.not_not, Nat.add_eq_zero_iff, and_false, false_and, Int.reduceEq, List.mem_cons, List.not_mem_nil, forall_eq_or_imp, forall_eq, false_implies, implies_true, forall_const, aargs_0, aargs_i, aargs_r, aargs_l, aargs_n, nfT_e, eq_self, and_self, Nat.le_refl, fu_s, fu_fu, iu_iu, iu_s, fu_am, fu_a0, fu_0a, iu_l, Nat.reduceBEq, Int.reduceBEq, T_objInit_e]
  repeat' (first | assumption | intro _ | apply And.intro)
  all_goals first | omega | assumption | (exact h1 (by omega)) | (exact h0 (by omega)) | (exact h1 ⟨by omega, by omega⟩) | (exact h0 ⟨by omega, by omega⟩) | (exact h1 ⟨by omega, by omega, by omega⟩) | (exact h0 ⟨by omega, by omega, by omega⟩)
def TF_Kinds_sortOf (o : Nat) (x : Int) (j : Int) (sz sl : Nat) (lay : Nat → Nat × Int) (ρ : Nat → Int → Nat) (σ : Nat → Int → Int) (τ : Nat → Int → Int64) (k : Option AV → Mm → Prop) : Prop := LKinds lay ρ o ∧ (0 ≤ j ∧ j ≤ 100000) ∧ (∀ y, 0 ≤ σ (o + 3) y ∧ σ (o + 3) y ≤ 1000) ∧ k (some (vI (kSort σ o j 40 x))) (sz, sl, lay, ρ, σ, τ)
def T_Kinds_sortOf : Tr := mkT 1 fun o as M k => pI as fun x as => pI as fun j as => as = [] ∧ TF_Kinds_sortOf o x j M.1 M.2.1 M.2.2.1 M.2.2.2.1 M.2.2.2.2.1 M.2.2.2.2.2 k
theorem T_Kinds_sortOf_e {o : Nat} {x : Int} {j : Int} {sz sl : Nat} {lay : Nat → Nat × Int} {ρ : Nat → Int → Nat} {σ : Nat → Int → Int} {τ : Nat → Int → Int64} {k : Option AV → Mm → Prop} : T_Kinds_sortOf [vR o, vI x, vI j] (sz, sl, lay, ρ, σ, τ) k = (lay o = (11, 0) ∧ TF_Kinds_sortOf o x j sz sl lay ρ σ τ k) := by simp [T_Kinds_sortOf, mkT_e, pI_e, pR_e, pL_e]
theorem T_Kinds_sortOf_r (as : List AV) (M : Mm) (k : Option AV → Mm → Prop) (h : T_Kinds_sortOf as M k) : ∃ b As, as = vR b :: As ∧ M.2.2.1 b = (10 + 1, 0) := by
  obtain ⟨b, As, h1, h2, -⟩ := mkT_r h
  exact ⟨b, As, h1, h2⟩
def tb_Kinds_sortOf : List (Nat × Option (List Nat) × Instr × List Nat) := [(0, none, .iload_n 1, []), (1, none, .istore_n 3, []), (2, none, .iconst 0, []), (3, none, .istore 4, []), (5, some [0, 1, 2, 3, 4], .iload 4, []), (7, none, .bipush 40, []), (9, none, .if_icmp .ge 63, [72]), (12, none, .aload_n 0, []), (13, none, .iload_n 3, []), (14, none, .invokevirtual 35, []), (17, none, .ifCond .eq 55, [72]), (20, none, .iload_n 2, []), (21, none, .aload_n 0, []), (22, none, .getfield 19, []), (25, none, .iload_n 3, []), (26, none, .iaload, []), (27, none, .isub, []), (28, none, .istore 5, []), (30, none, .iload 5, []), (32, none, .ifCond .lt 27, [59]), (35, none, .iload 5, []), (37, none, .bipush 12, []), (39, none, .if_icmp .ge 18, [57]), (42, none, .aload_n 0, []), (43, none, .getfield 28, []), (46, none, .iload_n 3, []), (47, none, .bipush 12, []), (49, none, .imul, []), (50, none, .iload 5, []), (52, none, .iadd, []), (53, none, .iaload, []), (54, none, .goto 4, [58]), (57, none, .iconst (-1), []), (58, none, .ireturn, []), (59, none, .aload_n 0, []), (60, none, .getfield 15, []), (63, none, .iload_n 3, []), (64, none, .iaload, []), (65, none, .istore_n 3, []), (66, none, .iinc 4 1, []), (69, none, .goto (-64), [5]), (72, none, .iconst (-1), []), (73, none, .ireturn, [])]
def P_Kinds_sortOf : Nat → Option (List Nat) × Instr × List Nat := plk tb_Kinds_sortOf
theorem r_Kinds_sortOf_0 : P_Kinds_sortOf 0 = (none, .iload_n 1, []) := by decide +kernel
theorem r_Kinds_sortOf_1 : P_Kinds_sortOf 1 = (none, .istore_n 3, []) := by decide +kernel
theorem r_Kinds_sortOf_2 : P_Kinds_sortOf 2 = (none, .iconst 0, []) := by decide +kernel
theorem r_Kinds_sortOf_3 : P_Kinds_sortOf 3 = (none, .istore 4, []) := by decide +kernel
theorem r_Kinds_sortOf_5 : P_Kinds_sortOf 5 = (some [0, 1, 2, 3, 4], .iload 4, []) := by decide +kernel
theorem r_Kinds_sortOf_7 : P_Kinds_sortOf 7 = (none, .bipush 40, []) := by decide +kernel
theorem r_Kinds_sortOf_9 : P_Kinds_sortOf 9 = (none, .if_icmp .ge 63, [72]) := by decide +kernel
theorem r_Kinds_sortOf_12 : P_Kinds_sortOf 12 = (none, .aload_n 0, []) := by decide +kernel
theorem r_Kinds_sortOf_13 : P_Kinds_sortOf 13 = (none, .iload_n 3, []) := by decide +kernel
theorem r_Kinds_sortOf_14 : P_Kinds_sortOf 14 = (none, .invokevirtual 35, []) := by decide +kernel
theorem r_Kinds_sortOf_17 : P_Kinds_sortOf 17 = (none, .ifCond .eq 55, [72]) := by decide +kernel
theorem r_Kinds_sortOf_20 : P_Kinds_sortOf 20 = (none, .iload_n 2, []) := by decide +kernel
theorem r_Kinds_sortOf_21 : P_Kinds_sortOf 21 = (none, .aload_n 0, []) := by decide +kernel
theorem r_Kinds_sortOf_22 : P_Kinds_sortOf 22 = (none, .getfield 19, []) := by decide +kernel
theorem r_Kinds_sortOf_25 : P_Kinds_sortOf 25 = (none, .iload_n 3, []) := by decide +kernel
theorem r_Kinds_sortOf_26 : P_Kinds_sortOf 26 = (none, .iaload, []) := by decide +kernel
theorem r_Kinds_sortOf_27 : P_Kinds_sortOf 27 = (none, .isub, []) := by decide +kernel
theorem r_Kinds_sortOf_28 : P_Kinds_sortOf 28 = (none, .istore 5, []) := by decide +kernel
theorem r_Kinds_sortOf_30 : P_Kinds_sortOf 30 = (none, .iload 5, []) := by decide +kernel
theorem r_Kinds_sortOf_32 : P_Kinds_sortOf 32 = (none, .ifCond .lt 27, [59]) := by decide +kernel
theorem r_Kinds_sortOf_35 : P_Kinds_sortOf 35 = (none, .iload 5, []) := by decide +kernel
theorem r_Kinds_sortOf_37 : P_Kinds_sortOf 37 = (none, .bipush 12, []) := by decide +kernel
theorem r_Kinds_sortOf_39 : P_Kinds_sortOf 39 = (none, .if_icmp .ge 18, [57]) := by decide +kernel
theorem r_Kinds_sortOf_42 : P_Kinds_sortOf 42 = (none, .aload_n 0, []) := by decide +kernel
theorem r_Kinds_sortOf_43 : P_Kinds_sortOf 43 = (none, .getfield 28, []) := by decide +kernel
theorem r_Kinds_sortOf_46 : P_Kinds_sortOf 46 = (none, .iload_n 3, []) := by decide +kernel
theorem r_Kinds_sortOf_47 : P_Kinds_sortOf 47 = (none, .bipush 12, []) := by decide +kernel
theorem r_Kinds_sortOf_49 : P_Kinds_sortOf 49 = (none, .imul, []) := by decide +kernel
theorem r_Kinds_sortOf_50 : P_Kinds_sortOf 50 = (none, .iload 5, []) := by decide +kernel
theorem r_Kinds_sortOf_52 : P_Kinds_sortOf 52 = (none, .iadd, []) := by decide +kernel
theorem r_Kinds_sortOf_53 : P_Kinds_sortOf 53 = (none, .iaload, []) := by decide +kernel
theorem r_Kinds_sortOf_54 : P_Kinds_sortOf 54 = (none, .goto 4, [58]) := by decide +kernel
theorem r_Kinds_sortOf_57 : P_Kinds_sortOf 57 = (none, .iconst (-1), []) := by decide +kernel
theorem r_Kinds_sortOf_58 : P_Kinds_sortOf 58 = (none, .ireturn, []) := by decide +kernel
theorem r_Kinds_sortOf_59 : P_Kinds_sortOf 59 = (none, .aload_n 0, []) := by decide +kernel
theorem r_Kinds_sortOf_60 : P_Kinds_sortOf 60 = (none, .getfield 15, []) := by decide +kernel
theorem r_Kinds_sortOf_63 : P_Kinds_sortOf 63 = (none, .iload_n 3, []) := by decide +kernel
theorem r_Kinds_sortOf_64 : P_Kinds_sortOf 64 = (none, .iaload, []) := by decide +kernel
theorem r_Kinds_sortOf_65 : P_Kinds_sortOf 65 = (none, .istore_n 3, []) := by decide +kernel
theorem r_Kinds_sortOf_66 : P_Kinds_sortOf 66 = (none, .iinc 4 1, []) := by decide +kernel
theorem r_Kinds_sortOf_69 : P_Kinds_sortOf 69 = (none, .goto (-64), [5]) := by decide +kernel
theorem r_Kinds_sortOf_72 : P_Kinds_sortOf 72 = (none, .iconst (-1), []) := by decide +kernel
theorem r_Kinds_sortOf_73 : P_Kinds_sortOf 73 = (none, .ireturn, []) := by decide +kernel
def E_Kinds_sortOf : List (Nat × Ent) := [(140, (2, 0, 0, 0, T_Kinds_knows))]
def X_Kinds_sortOf : Cx := (llk (0, 0, 9) ftX1, llk 99 ntX1, llk none kcX1, llk none klX1, llk dEnt E_Kinds_sortOf, 1, 0, false)
theorem xok_Kinds_sortOf : Xok RX1 X_Kinds_sortOf := xok_of ftX1_ok ntX1_ok kcX1_ok klX1_ok (E := E_Kinds_sortOf) (List.forall_mem_cons.mpr ⟨co_X1_140, fun _ h => absurd h List.not_mem_nil⟩)
theorem xf_Kinds_sortOf_15 : xfl X_Kinds_sortOf 15 = (1, 1, 1) := by decide +kernel
theorem xf_Kinds_sortOf_19 : xfl X_Kinds_sortOf 19 = (1, 2, 1) := by decide +kernel
theorem xf_Kinds_sortOf_28 : xfl X_Kinds_sortOf 28 = (1, 5, 1) := by decide +kernel
theorem xe_Kinds_sortOf_140 : xE X_Kinds_sortOf (4 * 35 + 0) = (2, 0, 0, 0, T_Kinds_knows) := rfl
theorem xd_Kinds_sortOf : xd X_Kinds_sortOf = 1 := rfl
theorem xrb_Kinds_sortOf : xrb X_Kinds_sortOf = 0 := rfl
theorem xin_Kinds_sortOf : xin X_Kinds_sortOf = false := rfl
set_option maxHeartbeats 4000000 in
set_option maxRecDepth 100000 in
theorem S_Kinds_sortOf : Snd yX1_sortOf cX1_sortOf 6 (some .int) T_Kinds_sortOf 1 0 0 := by
  refine snd_of (X := X_Kinds_sortOf) (P := P_Kinds_sortOf) (tb := tb_Kinds_sortOf) (own := RX1) (by decide) rfl rfl (by decide +kernel) xok_Kinds_sortOf rfl rk0 (fun h => by first | rfl | cases h) ?_
  intro as M k has hM hT0
  obtain ⟨sz, sl, lay, ρ, σ, τ⟩ := M
  obtain ⟨o, as1, e, hlo, hT1⟩ := mkT_r hT0
  clear hT0
  subst e
  obtain ⟨x, as2, e, hT2⟩ := pI_x hT1
  clear hT1
  subst e
  obtain ⟨j, as3, e, hT3⟩ := pI_x hT2
  clear hT2
  subst e
  obtain ⟨e, hT⟩ := hT3
  subst e
  replace hlo : lay o = (11, 0) := hlo
  have r_x : -2147483648 ≤ x ∧ x ≤ 2147483647 := has (vI x) (by simp)
  have r_j : -2147483648 ≤ j ∧ j ≤ 2147483647 := has (vI j) (by simp)
  clear has
  replace hM : ∀ a i, -2147483648 ≤ σ a i ∧ σ a i ≤ 2147483647 := hM
  replace hT : TF_Kinds_sortOf o x j sz sl lay ρ σ τ k := hT
  unfold TF_Kinds_sortOf at hT
  obtain ⟨hL, hj, hi, hT⟩ := hT
  obtain ⟨lh, lp0, lp1, lp2, lp3, lp4, lp5, lq0, lq1, lq2, lq3, lq4, lq5⟩ := (show LKinds lay ρ _ from hL)
  obtain ⟨J, hJd⟩ : ∃ J : Nat → List AV → Mm → Prop, J = (fun c vs M1 => c = 5 ∧ ∃ (n : Nat) (y : Int), n ≤ 40 ∧ kSort σ o j n y = kSort σ o j 40 x ∧ vs = [vR o, vI x, vI j, vI y, vI (40 - n)] ∧ M1 = (sz, sl, lay, ρ, σ, τ)) := ⟨_, rfl⟩
  obtain ⟨μ, hμ⟩ : ∃ μ : Nat → List AV → Mm → Nat, μ = (fun _ vs _ => (40 - gI (vs.getD 4 vN)).toNat) := ⟨_, rfl⟩
  refine ⟨Nat.le_of_ble_eq_true rfl, J, μ, 51, ?_, ?_⟩
  · unfold wps
    simp only [si_iload_n0, si_iload_n1, si_iload_n2, si_iload_n3, si_iload, si_lload_n0, si_lload_n1, si_lload_n2, si_lload_n3, si_lload, si_aload_n0, si_aload_n1, si_aload_n2, si_aload_n3, si_aload, si_istore_n0, si_istore_n1, si_istore_n2, si_istore_n3, si_istore, si_astore_n0, si_astore_n1, si_astore_n2, si_astore_n3, si_astore, si_lstore_n0, si_lstore_n1, si_lstore_n2, si_lstore_n3, si_lstore, si_iconst, si_bipush, si_sipush, si_ldc, si_ldc2_w, si_lconst0, si_lconst1, si_aconst_null, si_iinc, si_dup, si_dup2, si_iadd, si_isub, si_imul, si_idiv, si_irem, si_iand, si_ior, si_ishl, si_ishr, si_ladd, si_lmul, si_lor, si_lxor, si_lshl, si_lushr, si_lcmp, si_i2b, si_i2l, si_l2i, si_icmp_eq, si_icmp_ne, si_icmp_lt, si_icmp_ge, si_icmp_gt, si_icmp_le, si_if_eq, si_if_ne, si_if_lt, si_if_ge, si_if_gt, si_if_le, si_ifnull, si_ifnonnull, si_goto, si_tableswitch, si_lookupswitch, si_getfield, si_putfield, si_getstatic, si_iaload, si_baload, si_laload, si_aaload, si_iastore, si_bastore, si_lastore, si_aastore, si_arraylength, si_new, si_newarray, si_anewarray, si_invokevirtual, si_invokespecial, si_invokestatic, si_ireturn, si_lreturn, si_areturn, si_return_, pI_e, pL_e, pR_e, pA_r, pA_n, pN_n, pN_r, oI_e, oL_e, oA_r, oA_n, lget_e, lrm1_0, lrm2_0, lrm1_i, lrm1_r, lrm1_n, lrm1_l, lrm2_i, lrm2_r, lrm2_n, lrm2_l, popN_0, popN_s, acat_i, acat_l, acat_r, acat_n, stw_0, stw_s, psh_s, psh_n, wgf_r, wgf_i, wgf_b, wgf_n, wgf_m, wpf_i, wpf_r, wpf_b, wnew_e, callE_e, rbk_0, rbk_1, tsw_0, tsw_s, lsw_0, lsw_s, wp_s, wq_t, wq_f, oV_e, pick_0, pick_s, oZ_e, oY_e, r_Kinds_sortOf_0, r_Kinds_sortOf_1, r_Kinds_sortOf_2, r_Kinds_sortOf_3, r_Kinds_sortOf_5, r_Kinds_sortOf_7, r_Kinds_sortOf_9, r_Kinds_sortOf_12, r_Kinds_sortOf_13, r_Kinds_sortOf_14, r_Kinds_sortOf_17, r_Kinds_sortOf_20, r_Kinds_sortOf_21, r_Kinds_sortOf_22, r_Kinds_sortOf_25, r_Kinds_sortOf_26, r_Kinds_sortOf_27, r_Kinds_sortOf_28, r_Kinds_sortOf_30, r_Kinds_sortOf_32, r_Kinds_sortOf_35, r_Kinds_sortOf_37, r_Kinds_sortOf_39, r_Kinds_sortOf_42, r_Kinds_sortOf_43, r_Kinds_sortOf_46, r_Kinds_sortOf_47, r_Kinds_sortOf_49, r_Kinds_sortOf_50, r_Kinds_sortOf_52, r_Kinds_sortOf_53, r_Kinds_sortOf_54, r_Kinds_sortOf_57, r_Kinds_sortOf_58, r_Kinds_sortOf_59, r_Kinds_sortOf_60, r_Kinds_sortOf_63, r_Kinds_sortOf_64, r_Kinds_sortOf_65, r_Kinds_sortOf_66, r_Kinds_sortOf_69, r_Kinds_sortOf_72, r_Kinds_sortOf_73, xf_Kinds_sortOf_15, xf_Kinds_sortOf_19, xf_Kinds_sortOf_28, xe_Kinds_sortOf_140, xd_Kinds_sortOf, xrb_Kinds_sortOf, xin_Kinds_sortOf, T_Kinds_knows_e, TF_Kinds_knows, lh, lp0, lp1, lp2, lp3, lp4, lp5, lq0, lq1, lq2, lq3, lq4, lq5, Nat.reduceAdd, Nat.reduceMul, Nat.reduceEqDiff, reduceIte, Int.reduceNeg, Int.reduceLE, Int.reduceLT, Int.reduceAdd, Int.reduceSub, Int.reduceToNat, true_and, and_true, inR_e, Nat.reduceLT, Nat.reduceLeDiff, reduceCtorEq, Nat.add_zero, Nat.zero_add, or_false, false_or, or_true, true_or, not_true_eq_false, not_false_eq_true, Classical.not_not, Nat.add_eq_zero_iff, and_false, false_and, Int.reduceEq, List.mem_cons, List.not_mem_nil, forall_eq_or_imp, forall_eq, false_implies, implies_true, forall_const, aargs_0, aargs_i, aargs_r, aargs_l, aargs_n, nfT_e, eq_self, and_self, Nat.le_refl, fu_s, fu_fu, iu_iu, iu_s, fu_am, fu_a0, fu_0a, iu_l, Nat.reduceBEq, Int.reduceBEq, T_objInit_e]
    rw [hJd]
    exact ⟨rfl, 40, x, by omega, rfl, rfl, rfl⟩
  · intro cp vs M1 hvs hM1 hlen hJ
    rw [hJd] at hJ
    obtain ⟨rfl, n, y, h1, h2, rfl, rfl⟩ := hJ
    have hiy := hi y
    unfold wps
    simp only [Option.getD_some, List.zip_cons_cons, List.zip_nil_left, List.zip_nil_right, List.zip_nil_right, si_iload_n0, si_iload_n1, si_iload_n2, si_iload_n3, si_iload, si_lload_n0, si_lload_n1, si_lload_n2, si_lload_n3, si_lload, si_aload_n0, si_aload_n1, si_aload_n2, si_aload_n3, si_aload, si_istore_n0, si_istore_n1, si_istore_n2, si_istore_n3, si_istore, si_astore_n0, si_astore_n1, si_astore_n2, si_astore_n3, si_astore, si_lstore_n0, si_lstore_n1, si_lstore_n2, si_lstore_n3, si_lstore, si_iconst, si_bipush, si_sipush, si_ldc, si_ldc2_w, si_lconst0, si_lconst1, si_aconst_null, si_iinc, si_dup, si_dup2, si_iadd, si_isub, si_imul, si_idiv, si_irem, si_iand, si_ior, si_ishl, si_ishr, si_ladd, si_lmul, si_lor, si_lxor, si_lshl, si_lushr, si_lcmp, si_i2b, si_i2l, si_l2i, si_icmp_eq, si_icmp_ne, si_icmp_lt, si_icmp_ge, si_icmp_gt, si_icmp_le, si_if_eq, si_if_ne, si_if_lt, si_if_ge, si_if_gt, si_if_le, si_ifnull, si_ifnonnull, si_goto, si_tableswitch, si_lookupswitch, si_getfield, si_putfield, si_getstatic, si_iaload, si_baload, si_laload, si_aaload, si_iastore, si_bastore, si_lastore, si_aastore, si_arraylength, si_new, si_newarray, si_anewarray, si_invokevirtual, si_invokespecial, si_invokestatic, si_ireturn, si_lreturn, si_areturn, si_return_, pI_e, pL_e, pR_e, pA_r, pA_n, pN_n, pN_r, oI_e, oL_e, oA_r, oA_n, lget_e, lrm1_0, lrm2_0, lrm1_i, lrm1_r, lrm1_n, lrm1_l, lrm2_i, lrm2_r, lrm2_n, lrm2_l, popN_0, popN_s, acat_i, acat_l, acat_r, acat_n, stw_0, stw_s, psh_s, psh_n, wgf_r, wgf_i, wgf_b, wgf_n, wgf_m, wpf_i, wpf_r, wpf_b, wnew_e, callE_e, rbk_0, rbk_1, tsw_0, tsw_s, lsw_0, lsw_s, wp_s, wq_t, wq_f, oV_e, pick_0, pick_s, oZ_e, oY_e, r_Kinds_sortOf_0, r_Kinds_sortOf_1, r_Kinds_sortOf_2, r_Kinds_sortOf_3, r_Kinds_sortOf_5, r_Kinds_sortOf_7, r_Kinds_sortOf_9, r_Kinds_sortOf_12, r_Kinds_sortOf_13, r_Kinds_sortOf_14, r_Kinds_sortOf_17, r_Kinds_sortOf_20, r_Kinds_sortOf_21, r_Kinds_sortOf_22, r_Kinds_sortOf_25, r_Kinds_sortOf_26, r_Kinds_sortOf_27, r_Kinds_sortOf_28, r_Kinds_sortOf_30, r_Kinds_sortOf_32, r_Kinds_sortOf_35, r_Kinds_sortOf_37, r_Kinds_sortOf_39, r_Kinds_sortOf_42, r_Kinds_sortOf_43, r_Kinds_sortOf_46, r_Kinds_sortOf_47, r_Kinds_sortOf_49, r_Kinds_sortOf_50, r_Kinds_sortOf_52, r_Kinds_sortOf_53, r_Kinds_sortOf_54, r_Kinds_sortOf_57, r_Kinds_sortOf_58, r_Kinds_sortOf_59, r_Kinds_sortOf_60, r_Kinds_sortOf_63, r_Kinds_sortOf_64, r_Kinds_sortOf_65, r_Kinds_sortOf_66, r_Kinds_sortOf_69, r_Kinds_sortOf_72, r_Kinds_sortOf_73, xf_Kinds_sortOf_15, xf_Kinds_sortOf_19, xf_Kinds_sortOf_28, xe_Kinds_sortOf_140, xd_Kinds_sortOf, xrb_Kinds_sortOf, xin_Kinds_sortOf, T_Kinds_knows_e, TF_Kinds_knows, lh, lp0, lp1, lp2, lp3, lp4, lp5, lq0, lq1, lq2, lq3, lq4, lq5, Nat.reduceAdd, Nat.reduceMul, Nat.reduceEqDiff, reduceIte, Int.reduceNeg, Int.reduceLE, Int.reduceLT, Int.reduceAdd, Int.reduceSub, Int.reduceToNat, true_and, and_true, inR_e, Nat.reduceLT, Nat.reduceLeDiff, reduceCtorEq, Nat.add_zero, Nat.zero_add, or_false, false_or, or_true, true_or, not_true_eq_false, not_false_eq_true, Classical.not_not, Nat.add_eq_zero_iff, and_false, false_and, Int.reduceEq, List.mem_cons, List.not_mem_nil, forall_eq_or_imp, forall_eq, false_implies, implies_true, forall_const, aargs_0, aargs_i, aargs_r, aargs_l, aargs_n, nfT_e, eq_self, and_self, Nat.le_refl, fu_s, fu_fu, iu_iu, iu_s, fu_am, fu_a0, fu_0a, iu_l, Nat.reduceBEq, Int.reduceBEq, T_objInit_e]
    refine ⟨fun h => ?_, fun h => ⟨hL, fun a => ?_, fun a => ?_⟩⟩
    · have e : n = 0 := by omega
      subst e
      rw [← h2] at hT
      exact hT
    · obtain ⟨n, rfl⟩ : ∃ m, n = m + 1 := ⟨n - 1, by omega⟩
      rw [← h2] at hT
      have e : kSort σ o j (n + 1) y = (if 0 ≤ j - σ (o + 3) y then (if j - σ (o + 3) y < 12 then σ (o + 6) (y * 12 + (j - σ (o + 3) y)) else -1) else kSort σ o j n (σ (o + 2) y)) := by
        show (if _ then _ else _) = _
        rw [if_pos a]
      rw [e] at hT h2
      refine ⟨by omega, by omega, by omega, fun b => ?_, fun b => ⟨fun b2 => ?_, fun b2 => ?_⟩⟩
      · rw [if_neg (by omega)] at h2
        refine ⟨by omega, by omega, by omega, ?_, (by rw [hμ]; simp only [gI_e, List.getD_cons_succ, List.getD_cons_zero]; omega)⟩
        rw [hJd]
        exact ⟨rfl, n, σ (o + 2) y, by omega, h2, congrArg (fun z => [vR o, vI x, vI j, vI (σ (o + 2) y), vI z]) (by omega), rfl⟩
      · rw [if_pos (by omega), if_neg (by omega)] at hT
        exact hT
      · rw [if_pos (by omega), if_pos (by omega)] at hT
        exact ⟨by omega, by omega, by omega, by omega, hT⟩
    · obtain ⟨n, rfl⟩ : ∃ m, n = m + 1 := ⟨n - 1, by omega⟩
      have e : kSort σ o j (n + 1) y = -1 := by
        show (if _ then _ else _) = _
        rw [if_neg a]
      rw [← h2, e] at hT
      exact hT
def TF_Kinds_descends (o : Nat) (x : Int) (y : Int) (sz sl : Nat) (lay : Nat → Nat × Int) (ρ : Nat → Int → Nat) (σ : Nat → Int → Int) (τ : Nat → Int → Int64) (k : Option AV → Mm → Prop) : Prop := LKinds lay ρ o ∧ k (some (vI (if kDesc σ o y 40 x = true then 1 else 0))) (sz, sl, lay, ρ, σ, τ)
def T_Kinds_descends : Tr := mkT 1 fun o as M k => pI as fun x as => pI as fun y as => as = [] ∧ TF_Kinds_descends o x y M.1 M.2.1 M.2.2.1 M.2.2.2.1 M.2.2.2.2.1 M.2.2.2.2.2 k
theorem T_Kinds_descends_e {o : Nat} {x : Int} {y : Int} {sz sl : Nat} {lay : Nat → Nat × Int} {ρ : Nat → Int → Nat} {σ : Nat → Int → Int} {τ : Nat → Int → Int64} {k : Option AV → Mm → Prop} : T_Kinds_descends [vR o, vI x, vI y] (sz, sl, lay, ρ, σ, τ) k = (lay o = (11, 0) ∧ TF_Kinds_descends o x y sz sl lay ρ σ τ k) := by simp [T_Kinds_descends, mkT_e, pI_e, pR_e, pL_e]
theorem T_Kinds_descends_r (as : List AV) (M : Mm) (k : Option AV → Mm → Prop) (h : T_Kinds_descends as M k) : ∃ b As, as = vR b :: As ∧ M.2.2.1 b = (10 + 1, 0) := by
  obtain ⟨b, As, h1, h2, -⟩ := mkT_r h
  exact ⟨b, As, h1, h2⟩
def tb_Kinds_descends : List (Nat × Option (List Nat) × Instr × List Nat) := [(0, none, .iload_n 1, []), (1, none, .istore_n 3, []), (2, none, .iconst 0, []), (3, none, .istore 4, []), (5, some [0, 1, 2, 3, 4], .iload 4, []), (7, none, .bipush 40, []), (9, none, .if_icmp .ge 31, [40]), (12, none, .aload_n 0, []), (13, none, .iload_n 3, []), (14, none, .invokevirtual 35, []), (17, none, .ifCond .eq 23, [40]), (20, none, .iload_n 3, []), (21, none, .iload_n 2, []), (22, none, .if_icmp .ne 5, [27]), (25, none, .iconst 1, []), (26, none, .ireturn, []), (27, none, .aload_n 0, []), (28, none, .getfield 15, []), (31, none, .iload_n 3, []), (32, none, .iaload, []), (33, none, .istore_n 3, []), (34, none, .iinc 4 1, []), (37, none, .goto (-32), [5]), (40, none, .iconst 0, []), (41, none, .ireturn, [])]
def P_Kinds_descends : Nat → Option (List Nat) × Instr × List Nat := plk tb_Kinds_descends
theorem r_Kinds_descends_0 : P_Kinds_descends 0 = (none, .iload_n 1, []) := by decide +kernel
theorem r_Kinds_descends_1 : P_Kinds_descends 1 = (none, .istore_n 3, []) := by decide +kernel
theorem r_Kinds_descends_2 : P_Kinds_descends 2 = (none, .iconst 0, []) := by decide +kernel
theorem r_Kinds_descends_3 : P_Kinds_descends 3 = (none, .istore 4, []) := by decide +kernel
theorem r_Kinds_descends_5 : P_Kinds_descends 5 = (some [0, 1, 2, 3, 4], .iload 4, []) := by decide +kernel
theorem r_Kinds_descends_7 : P_Kinds_descends 7 = (none, .bipush 40, []) := by decide +kernel
theorem r_Kinds_descends_9 : P_Kinds_descends 9 = (none, .if_icmp .ge 31, [40]) := by decide +kernel
theorem r_Kinds_descends_12 : P_Kinds_descends 12 = (none, .aload_n 0, []) := by decide +kernel
theorem r_Kinds_descends_13 : P_Kinds_descends 13 = (none, .iload_n 3, []) := by decide +kernel
theorem r_Kinds_descends_14 : P_Kinds_descends 14 = (none, .invokevirtual 35, []) := by decide +kernel
theorem r_Kinds_descends_17 : P_Kinds_descends 17 = (none, .ifCond .eq 23, [40]) := by decide +kernel
theorem r_Kinds_descends_20 : P_Kinds_descends 20 = (none, .iload_n 3, []) := by decide +kernel
theorem r_Kinds_descends_21 : P_Kinds_descends 21 = (none, .iload_n 2, []) := by decide +kernel
theorem r_Kinds_descends_22 : P_Kinds_descends 22 = (none, .if_icmp .ne 5, [27]) := by decide +kernel
theorem r_Kinds_descends_25 : P_Kinds_descends 25 = (none, .iconst 1, []) := by decide +kernel
theorem r_Kinds_descends_26 : P_Kinds_descends 26 = (none, .ireturn, []) := by decide +kernel
theorem r_Kinds_descends_27 : P_Kinds_descends 27 = (none, .aload_n 0, []) := by decide +kernel
theorem r_Kinds_descends_28 : P_Kinds_descends 28 = (none, .getfield 15, []) := by decide +kernel
theorem r_Kinds_descends_31 : P_Kinds_descends 31 = (none, .iload_n 3, []) := by decide +kernel
theorem r_Kinds_descends_32 : P_Kinds_descends 32 = (none, .iaload, []) := by decide +kernel
theorem r_Kinds_descends_33 : P_Kinds_descends 33 = (none, .istore_n 3, []) := by decide +kernel
theorem r_Kinds_descends_34 : P_Kinds_descends 34 = (none, .iinc 4 1, []) := by decide +kernel
theorem r_Kinds_descends_37 : P_Kinds_descends 37 = (none, .goto (-32), [5]) := by decide +kernel
theorem r_Kinds_descends_40 : P_Kinds_descends 40 = (none, .iconst 0, []) := by decide +kernel
theorem r_Kinds_descends_41 : P_Kinds_descends 41 = (none, .ireturn, []) := by decide +kernel
def E_Kinds_descends : List (Nat × Ent) := [(140, (2, 0, 0, 0, T_Kinds_knows))]
def X_Kinds_descends : Cx := (llk (0, 0, 9) ftX1, llk 99 ntX1, llk none kcX1, llk none klX1, llk dEnt E_Kinds_descends, 1, 1, false)
theorem xok_Kinds_descends : Xok RX1 X_Kinds_descends := xok_of ftX1_ok ntX1_ok kcX1_ok klX1_ok (E := E_Kinds_descends) (List.forall_mem_cons.mpr ⟨co_X1_140, fun _ h => absurd h List.not_mem_nil⟩)
theorem xf_Kinds_descends_15 : xfl X_Kinds_descends 15 = (1, 1, 1) := by decide +kernel
theorem xe_Kinds_descends_140 : xE X_Kinds_descends (4 * 35 + 0) = (2, 0, 0, 0, T_Kinds_knows) := rfl
theorem xd_Kinds_descends : xd X_Kinds_descends = 1 := rfl
theorem xrb_Kinds_descends : xrb X_Kinds_descends = 1 := rfl
theorem xin_Kinds_descends : xin X_Kinds_descends = false := rfl
set_option maxHeartbeats 4000000 in
set_option maxRecDepth 100000 in
theorem S_Kinds_descends : Snd yX1_descends cX1_descends 5 (some .boolean) T_Kinds_descends 1 0 0 := by
  refine snd_of (X := X_Kinds_descends) (P := P_Kinds_descends) (tb := tb_Kinds_descends) (own := RX1) (by decide) rfl rfl (by decide +kernel) xok_Kinds_descends rfl rk1 (fun h => by first | rfl | cases h) ?_
  intro as M k has hM hT0
  obtain ⟨sz, sl, lay, ρ, σ, τ⟩ := M
  obtain ⟨o, as1, e, hlo, hT1⟩ := mkT_r hT0
  clear hT0
  subst e
  obtain ⟨x, as2, e, hT2⟩ := pI_x hT1
  clear hT1
  subst e
  obtain ⟨y, as3, e, hT3⟩ := pI_x hT2
  clear hT2
  subst e
  obtain ⟨e, hT⟩ := hT3
  subst e
  replace hlo : lay o = (11, 0) := hlo
  have r_x : -2147483648 ≤ x ∧ x ≤ 2147483647 := has (vI x) (by simp)
  have r_y : -2147483648 ≤ y ∧ y ≤ 2147483647 := has (vI y) (by simp)
  clear has
  replace hM : ∀ a i, -2147483648 ≤ σ a i ∧ σ a i ≤ 2147483647 := hM
  replace hT : TF_Kinds_descends o x y sz sl lay ρ σ τ k := hT
  unfold TF_Kinds_descends at hT
  obtain ⟨hL, hT⟩ := hT
  obtain ⟨lh, lp0, lp1, lp2, lp3, lp4, lp5, lq0, lq1, lq2, lq3, lq4, lq5⟩ := (show LKinds lay ρ _ from hL)
  obtain ⟨J, hJd⟩ : ∃ J : Nat → List AV → Mm → Prop, J = (fun c vs M1 => c = 5 ∧ ∃ (n : Nat) (z : Int), n ≤ 40 ∧ kDesc σ o y n z = kDesc σ o y 40 x ∧ vs = [vR o, vI x, vI y, vI z, vI (40 - n)] ∧ M1 = (sz, sl, lay, ρ, σ, τ)) := ⟨_, rfl⟩
  obtain ⟨μ, hμ⟩ : ∃ μ : Nat → List AV → Mm → Nat, μ = (fun _ vs _ => (40 - gI (vs.getD 4 vN)).toNat) := ⟨_, rfl⟩
  refine ⟨Nat.le_of_ble_eq_true rfl, J, μ, 33, ?_, ?_⟩
  · unfold wps
    simp only [si_iload_n0, si_iload_n1, si_iload_n2, si_iload_n3, si_iload, si_lload_n0, si_lload_n1, si_lload_n2, si_lload_n3, si_lload, si_aload_n0, si_aload_n1, si_aload_n2, si_aload_n3, si_aload, si_istore_n0, si_istore_n1, si_istore_n2, si_istore_n3, si_istore, si_astore_n0, si_astore_n1, si_astore_n2, si_astore_n3, si_astore, si_lstore_n0, si_lstore_n1, si_lstore_n2, si_lstore_n3, si_lstore, si_iconst, si_bipush, si_sipush, si_ldc, si_ldc2_w, si_lconst0, si_lconst1, si_aconst_null, si_iinc, si_dup, si_dup2, si_iadd, si_isub, si_imul, si_idiv, si_irem, si_iand, si_ior, si_ishl, si_ishr, si_ladd, si_lmul, si_lor, si_lxor, si_lshl, si_lushr, si_lcmp, si_i2b, si_i2l, si_l2i, si_icmp_eq, si_icmp_ne, si_icmp_lt, si_icmp_ge, si_icmp_gt, si_icmp_le, si_if_eq, si_if_ne, si_if_lt, si_if_ge, si_if_gt, si_if_le, si_ifnull, si_ifnonnull, si_goto, si_tableswitch, si_lookupswitch, si_getfield, si_putfield, si_getstatic, si_iaload, si_baload, si_laload, si_aaload, si_iastore, si_bastore, si_lastore, si_aastore, si_arraylength, si_new, si_newarray, si_anewarray, si_invokevirtual, si_invokespecial, si_invokestatic, si_ireturn, si_lreturn, si_areturn, si_return_, pI_e, pL_e, pR_e, pA_r, pA_n, pN_n, pN_r, oI_e, oL_e, oA_r, oA_n, lget_e, lrm1_0, lrm2_0, lrm1_i, lrm1_r, lrm1_n, lrm1_l, lrm2_i, lrm2_r, lrm2_n, lrm2_l, popN_0, popN_s, acat_i, acat_l, acat_r, acat_n, stw_0, stw_s, psh_s, psh_n, wgf_r, wgf_i, wgf_b, wgf_n, wgf_m, wpf_i, wpf_r, wpf_b, wnew_e, callE_e, rbk_0, rbk_1, tsw_0, tsw_s, lsw_0, lsw_s, wp_s, wq_t, wq_f, oV_e, pick_0, pick_s, oZ_e, oY_e, r_Kinds_descends_0, r_Kinds_descends_1, r_Kinds_descends_2, r_Kinds_descends_3, r_Kinds_descends_5, r_Kinds_descends_7, r_Kinds_descends_9, r_Kinds_descends_12, r_Kinds_descends_13, r_Kinds_descends_14, r_Kinds_descends_17, r_Kinds_descends_20, r_Kinds_descends_21, r_Kinds_descends_22, r_Kinds_descends_25, r_Kinds_descends_26, r_Kinds_descends_27, r_Kinds_descends_28, r_Kinds_descends_31, r_Kinds_descends_32, r_Kinds_descends_33, r_Kinds_descends_34, r_Kinds_descends_37, r_Kinds_descends_40, r_Kinds_descends_41, xf_Kinds_descends_15, xe_Kinds_descends_140, xd_Kinds_descends, xrb_Kinds_descends, xin_Kinds_descends, T_Kinds_knows_e, TF_Kinds_knows, lh, lp0, lp1, lp2, lp3, lp4, lp5, lq0, lq1, lq2, lq3, lq4, lq5, Nat.reduceAdd, Nat.reduceMul, Nat.reduceEqDiff, reduceIte, Int.reduceNeg, Int.reduceLE, Int.reduceLT, Int.reduceAdd, Int.reduceSub, Int.reduceToNat, true_and, and_true, inR_e, Nat.reduceLT, Nat.reduceLeDiff, reduceCtorEq, Nat.add_zero, Nat.zero_add, or_false, false_or, or_true, true_or, not_true_eq_false, not_false_eq_true, Classical.not_not, Nat.add_eq_zero_iff, and_false, false_and, Int.reduceEq, List.mem_cons, List.not_mem_nil, forall_eq_or_imp, forall_eq, false_implies, implies_true, forall_const, aargs_0, aargs_i, aargs_r, aargs_l, aargs_n, nfT_e, eq_self, and_self, Nat.le_refl, fu_s, fu_fu, iu_iu, iu_s, fu_am, fu_a0, fu_0a, iu_l, Nat.reduceBEq, Int.reduceBEq, T_objInit_e]
    rw [hJd]
    exact ⟨rfl, 40, x, by omega, rfl, rfl, rfl⟩
  · intro cp vs M1 hvs hM1 hlen hJ
    rw [hJd] at hJ
    obtain ⟨rfl, n, z, h1, h2, rfl, rfl⟩ := hJ
    unfold wps
    simp only [Option.getD_some, List.zip_cons_cons, List.zip_nil_left, List.zip_nil_right, List.zip_nil_right, si_iload_n0, si_iload_n1, si_iload_n2, si_iload_n3, si_iload, si_lload_n0, si_lload_n1, si_lload_n2, si_lload_n3, si_lload, si_aload_n0, si_aload_n1, si_aload_n2, si_aload_n3, si_aload, si_istore_n0, si_istore_n1, si_istore_n2, si_istore_n3, si_istore, si_astore_n0, si_astore_n1, si_astore_n2, si_astore_n3, si_astore, si_lstore_n0, si_lstore_n1, si_lstore_n2, si_lstore_n3, si_lstore, si_iconst, si_bipush, si_sipush, si_ldc, si_ldc2_w, si_lconst0, si_lconst1, si_aconst_null, si_iinc, si_dup, si_dup2, si_iadd, si_isub, si_imul, si_idiv, si_irem, si_iand, si_ior, si_ishl, si_ishr, si_ladd, si_lmul, si_lor, si_lxor, si_lshl, si_lushr, si_lcmp, si_i2b, si_i2l, si_l2i, si_icmp_eq, si_icmp_ne, si_icmp_lt, si_icmp_ge, si_icmp_gt, si_icmp_le, si_if_eq, si_if_ne, si_if_lt, si_if_ge, si_if_gt, si_if_le, si_ifnull, si_ifnonnull, si_goto, si_tableswitch, si_lookupswitch, si_getfield, si_putfield, si_getstatic, si_iaload, si_baload, si_laload, si_aaload, si_iastore, si_bastore, si_lastore, si_aastore, si_arraylength, si_new, si_newarray, si_anewarray, si_invokevirtual, si_invokespecial, si_invokestatic, si_ireturn, si_lreturn, si_areturn, si_return_, pI_e, pL_e, pR_e, pA_r, pA_n, pN_n, pN_r, oI_e, oL_e, oA_r, oA_n, lget_e, lrm1_0, lrm2_0, lrm1_i, lrm1_r, lrm1_n, lrm1_l, lrm2_i, lrm2_r, lrm2_n, lrm2_l, popN_0, popN_s, acat_i, acat_l, acat_r, acat_n, stw_0, stw_s, psh_s, psh_n, wgf_r, wgf_i, wgf_b, wgf_n, wgf_m, wpf_i, wpf_r, wpf_b, wnew_e, callE_e, rbk_0, rbk_1, tsw_0, tsw_s, lsw_0, lsw_s, wp_s, wq_t, wq_f, oV_e, pick_0, pick_s, oZ_e, oY_e, r_Kinds_descends_0, r_Kinds_descends_1, r_Kinds_descends_2, r_Kinds_descends_3, r_Kinds_descends_5, r_Kinds_descends_7, r_Kinds_descends_9, r_Kinds_descends_12, r_Kinds_descends_13, r_Kinds_descends_14, r_Kinds_descends_17, r_Kinds_descends_20, r_Kinds_descends_21, r_Kinds_descends_22, r_Kinds_descends_25, r_Kinds_descends_26, r_Kinds_descends_27, r_Kinds_descends_28, r_Kinds_descends_31, r_Kinds_descends_32, r_Kinds_descends_33, r_Kinds_descends_34, r_Kinds_descends_37, r_Kinds_descends_40, r_Kinds_descends_41, xf_Kinds_descends_15, xe_Kinds_descends_140, xd_Kinds_descends, xrb_Kinds_descends, xin_Kinds_descends, T_Kinds_knows_e, TF_Kinds_knows, lh, lp0, lp1, lp2, lp3, lp4, lp5, lq0, lq1, lq2, lq3, lq4, lq5, Nat.reduceAdd, Nat.reduceMul, Nat.reduceEqDiff, reduceIte, Int.reduceNeg, Int.reduceLE, Int.reduceLT, Int.reduceAdd, Int.reduceSub, Int.reduceToNat, true_and, and_true, inR_e, Nat.reduceLT, Nat.reduceLeDiff, reduceCtorEq, Nat.add_zero, Nat.zero_add, or_false, false_or, or_true, true_or, not_true_eq_false, not_false_eq_true, Classical.not_not, Nat.add_eq_zero_iff, and_false, false_and, Int.reduceEq, List.mem_cons, List.not_mem_nil, forall_eq_or_imp, forall_eq, false_implies, implies_true, forall_const, aargs_0, aargs_i, aargs_r, aargs_l, aargs_n, nfT_e, eq_self, and_self, Nat.le_refl, fu_s, fu_fu, iu_iu, iu_s, fu_am, fu_a0, fu_0a, iu_l, Nat.reduceBEq, Int.reduceBEq, T_objInit_e]
    refine ⟨fun h => ?_, fun h => ⟨hL, fun a => ?_, fun a => ?_⟩⟩
    · have e : n = 0 := by omega
      subst e
      rw [← h2] at hT
      exact hT
    · obtain ⟨n, rfl⟩ : ∃ m, n = m + 1 := ⟨n - 1, by omega⟩
      have e : kDesc σ o y (n + 1) z = (if z = y then true else kDesc σ o y n (σ (o + 2) z)) := by
        show (if _ then _ else _) = _
        rw [if_pos a]
      rw [e] at h2
      refine ⟨fun b => ?_, fun b => ?_⟩
      · rw [if_neg b] at h2
        refine ⟨by omega, by omega, by omega, ?_, (by rw [hμ]; simp only [gI_e, List.getD_cons_succ, List.getD_cons_zero]; omega)⟩
        rw [hJd]
        exact ⟨rfl, n, σ (o + 2) z, by omega, h2, congrArg (fun w => [vR o, vI x, vI y, vI (σ (o + 2) z), vI w]) (by omega), rfl⟩
      · rw [if_pos (by omega)] at h2
        rw [← h2, if_pos rfl] at hT
        exact hT
    · obtain ⟨n, rfl⟩ : ∃ m, n = m + 1 := ⟨n - 1, by omega⟩
      have e : kDesc σ o y (n + 1) z = false := by
        show (if _ then _ else _) = _
        rw [if_neg a]
      rw [← h2, e] at hT
      exact hT

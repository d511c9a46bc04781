theorem fu_f1 {α : Type} {f : Nat → α} {o t a b : Nat} {v : α} (h : t + 13 ≤ o) (hb : b < 13) : fu f (o + a) v (t + b) = f (t + b) := fu_n (by omega)
theorem fu_f2 {α : Type} {f : Nat → α} {o t b : Nat} {v : α} (h : t + 13 ≤ o) (hb : b < 13) : fu f o v (t + b) = f (t + b) := fu_n (by omega)
theorem fu_f3 {α : Type} {f : Nat → α} {o t a : Nat} {v : α} (h : t + 13 ≤ o) : fu f (o + a) v t = f t := fu_n (by omega)
theorem fu_f4 {α : Type} {f : Nat → α} {o t : Nat} {v : α} (h : t + 13 ≤ o) : fu f o v t = f t := fu_n (by omega)
theorem iu_self {α : Type} {f : Int → α} {a : Int} : iu f a (f a) = f := by
  funext b
  unfold iu
  by_cases e : b = a
  · rw [if_pos e, e]
  · rw [if_neg e]
theorem iu_self2 {α : Type} {f : Int → α} {a : Int} {v : α} (h : v = f a) : iu f a v = f := by rw [h, iu_self]
/-- nothing but o .. o + m has changed -/
def Fr (σ σ2 : Nat → Int → Int) (o m : Nat) : Prop := ∀ a, a < o ∨ o + m < a → σ2 a = σ a
theorem Fr.rfl' {σ : Nat → Int → Int} {o m : Nat} : Fr σ σ o m := fun _ _ => rfl
theorem Fr.trans {σ σ2 σ3 : Nat → Int → Int} {o m : Nat} (h : Fr σ σ2 o m) (g : Fr σ2 σ3 o m) : Fr σ σ3 o m := fun a ha => (g a ha).trans (h a ha)
theorem Fr.fu {σ σ2 : Nat → Int → Int} {o m b : Nat} {f : Int → Int} (h : Fr σ σ2 o m) (hb : o ≤ b ∧ b ≤ o + m) : Fr σ (fu σ2 b f) o m := fun a ha => (fu_n (by omega)).trans (h a ha)
def TF_Roots_size (o : Nat) (sz sl : Nat) (lay : Nat → Nat × Int) (ρ : Nat → Int → Nat) (σ : Nat → Int → Int) (τ : Nat → Int → Int64) (k : Option AV → Mm → Prop) : Prop := k (some (vI (σ o 2))) (sz, sl, lay, ρ, σ, τ)
def T_Roots_size : Tr := mkT 4 fun o as M k => as = [] ∧ TF_Roots_size o M.1 M.2.1 M.2.2.1 M.2.2.2.1 M.2.2.2.2.1 M.2.2.2.2.2 k
theorem T_Roots_size_e {o : Nat} {sz sl : Nat} {lay : Nat → Nat × Int} {ρ : Nat → Int → Nat} {σ : Nat → Int → Int} {τ : Nat → Int → Int64} {k : Option AV → Mm → Prop} : T_Roots_size [vR o] (sz, sl, lay, ρ, σ, τ) k = (lay o = (14, 0) ∧ TF_Roots_size o sz sl lay ρ σ τ k) := by simp [T_Roots_size, mkT_e, pI_e, pR_e, pL_e]
theorem T_Roots_size_r (as : List AV) (M : Mm) (k : Option AV → Mm → Prop) (h : T_Roots_size as M k) : ∃ b As, as = vR b :: As ∧ M.2.2.1 b = (10 + 4, 0) := by
  obtain ⟨b, As, h1, h2, -⟩ := mkT_r h
  exact ⟨b, As, h1, h2⟩
def tb_Roots_size : List (Nat × Option (List Nat) × Instr × List Nat) := [(0, none, .aload_n 0, []), (1, none, .getfield 18, []), (4, none, .ireturn, [])]
def P_Roots_size : Nat → Option (List Nat) × Instr × List Nat := plk tb_Roots_size
theorem r_Roots_size_0 : P_Roots_size 0 = (none, .aload_n 0, []) := by decide +kernel
theorem r_Roots_size_1 : P_Roots_size 1 = (none, .getfield 18, []) := by decide +kernel
theorem r_Roots_size_4 : P_Roots_size 4 = (none, .ireturn, []) := by decide +kernel
def E_Roots_size : List (Nat × Ent) := []
def X_Roots_size : Cx := (llk (0, 0, 9) ftX4, llk 99 ntX4, llk none kcX4, llk none klX4, llk dEnt E_Roots_size, 0, 0, false)
theorem xok_Roots_size : Xok RX4 X_Roots_size := xok_of ftX4_ok ntX4_ok kcX4_ok klX4_ok (E := E_Roots_size) (fun _ h => absurd h List.not_mem_nil)
theorem xf_Roots_size_18 : xfl X_Roots_size 18 = (4, 2, 0) := by decide +kernel
theorem xd_Roots_size : xd X_Roots_size = 0 := rfl
theorem xrb_Roots_size : xrb X_Roots_size = 0 := rfl
theorem xin_Roots_size : xin X_Roots_size = false := rfl
set_option maxHeartbeats 4000000 in
set_option maxRecDepth 100000 in
theorem S_Roots_size : Snd yX4_size cX4_size 1 (some .int) T_Roots_size 0 0 0 := by
  refine snd_of (X := X_Roots_size) (P := P_Roots_size) (tb := tb_Roots_size) (own := RX4) (by decide) rfl rfl (by decide +kernel) xok_Roots_size rfl rk0 (fun h => by first | rfl | cases h) ?_
  intro as M k has hM hT0
  obtain ⟨sz, sl, lay, ρ, σ, τ⟩ := M
  obtain ⟨o, as1, e, hlo, hT1⟩ := mkT_r hT0
  clear hT0
  subst e
  obtain ⟨e, hT⟩ := hT1
  subst e
  replace hlo : lay o = (14, 0) := hlo
  clear has
  replace hM : ∀ a i, -2147483648 ≤ σ a i ∧ σ a i ≤ 2147483647 := hM
  replace hT : TF_Roots_size o sz sl lay ρ σ τ k := hT
  unfold TF_Roots_size at hT
  refine ⟨Nat.le_of_ble_eq_true rfl, fun _ _ _ => False, fun _ _ _ => 0, 11, ?_, fun _ _ _ _ _ _ h => h.elim⟩
  unfold wps
  simp only [si_iload_n0, si_iload_n1, si_iload_n2, si_iload_n3, si_iload, si_lload_n0, si_lload_n1, si_lload_n2, si_lload_n3, si_lload, si_aload_n0, si_aload_n1, si_aload_n2, si_aload_n3, si_aload, si_istore_n0, si_istore_n1, si_istore_n2, si_istore_n3, si_istore, si_astore_n0, si_astore_n1, si_astore_n2, si_astore_n3, si_astore, si_lstore_n0, si_lstore_n1, si_lstore_n2, si_lstore_n3, si_lstore, si_iconst, si_bipush, si_sipush, si_ldc, si_ldc2_w, si_lconst0, si_lconst1, si_aconst_null, si_iinc, si_dup, si_dup2, si_iadd, si_isub, si_imul, si_idiv, si_irem, si_iand, si_ior, si_ishl, si_ishr, si_ladd, si_lmul, si_lor, si_lxor, si_lshl, si_lushr, si_lcmp, si_i2b, si_i2l, si_l2i, si_icmp_eq, si_icmp_ne, si_icmp_lt, si_icmp_ge, si_icmp_gt, si_icmp_le, si_if_eq, si_if_ne, si_if_lt, si_if_ge, si_if_gt, si_if_le, si_ifnull, si_ifnonnull, si_goto, si_tableswitch, si_lookupswitch, si_getfield, si_putfield, si_getstatic, si_iaload, si_baload, si_laload, si_aaload, si_iastore, si_bastore, si_lastore, si_aastore, si_arraylength, si_new, si_newarray, si_anewarray, si_invokevirtual, si_invokespecial, si_invokestatic, si_ireturn, si_lreturn, si_areturn, si_return_, pI_e, pL_e, pR_e, pA_r, pA_n, pN_n, pN_r, oI_e, oL_e, oA_r, oA_n, lget_e, lrm1_0, lrm2_0, lrm1_i, lrm1_r, lrm1_n, lrm1_l, lrm2_i, lrm2_r, lrm2_n, lrm2_l, popN_0, popN_s, acat_i, acat_l, acat_r, acat_n, stw_0, stw_s, psh_s, psh_n, wgf_r, wgf_i, wgf_b, wgf_n, wgf_m, wpf_i, wpf_r, wpf_b, wnew_e, callE_e, rbk_0, rbk_1, tsw_0, tsw_s, lsw_0, lsw_s, wp_s, wq_t, wq_f, oV_e, pick_0, pick_s, oZ_e, oY_e, r_Roots_size_0, r_Roots_size_1, r_Roots_size_4, xf_Roots_size_18, xd_Roots_size, xrb_Roots_size, xin_Roots_size, Nat.reduceAdd, Nat.reduceMul, Nat.reduceEqDiff, reduceIte, Int.reduceNeg, Int.reduceLE, Int.reduceLT, Int.reduceAdd, Int.reduceSub, Int.reduceToNat, true_and, and_true, inR_e, Nat.reduceLT, Nat.reduceLeDiff, reduceCtorEq, Nat.add_zero, Nat.zero_add, or_false, false_or, or_true, true_or, not_true_eq_false, not_false_eq_true, Classical.not_not, Nat.add_eq_zero_iff, and_false, false_and, Int.reduceEq, List.mem_cons, List.not_mem_nil, forall_eq_or_imp, forall_eq, false_implies, implies_true, forall_const, aargs_0, aargs_i, aargs_r, aargs_l, aargs_n, nfT_e, eq_self, and_self, Nat.le_refl, fu_s, fu_fu, iu_iu, iu_s, fu_am, fu_a0, fu_0a, iu_l, Nat.reduceBEq, Int.reduceBEq, T_objInit_e]
  exact ⟨hlo, hT⟩
def TF_Roots_unknownRefs (o : Nat) (sz sl : Nat) (lay : Nat → Nat × Int) (ρ : Nat → Int → Nat) (σ : Nat → Int → Int) (τ : Nat → Int → Int64) (k : Option AV → Mm → Prop) : Prop := k (some (vI (σ o 3))) (sz, sl, lay, ρ, σ, τ)
def T_Roots_unknownRefs : Tr := mkT 4 fun o as M k => as = [] ∧ TF_Roots_unknownRefs o M.1 M.2.1 M.2.2.1 M.2.2.2.1 M.2.2.2.2.1 M.2.2.2.2.2 k
theorem T_Roots_unknownRefs_e {o : Nat} {sz sl : Nat} {lay : Nat → Nat × Int} {ρ : Nat → Int → Nat} {σ : Nat → Int → Int} {τ : Nat → Int → Int64} {k : Option AV → Mm → Prop} : T_Roots_unknownRefs [vR o] (sz, sl, lay, ρ, σ, τ) k = (lay o = (14, 0) ∧ TF_Roots_unknownRefs o sz sl lay ρ σ τ k) := by simp [T_Roots_unknownRefs, mkT_e, pI_e, pR_e, pL_e]
theorem T_Roots_unknownRefs_r (as : List AV) (M : Mm) (k : Option AV → Mm → Prop) (h : T_Roots_unknownRefs as M k) : ∃ b As, as = vR b :: As ∧ M.2.2.1 b = (10 + 4, 0) := by
  obtain ⟨b, As, h1, h2, -⟩ := mkT_r h
  exact ⟨b, As, h1, h2⟩
def tb_Roots_unknownRefs : List (Nat × Option (List Nat) × Instr × List Nat) := [(0, none, .aload_n 0, []), (1, none, .getfield 22, []), (4, none, .ireturn, [])]
def P_Roots_unknownRefs : Nat → Option (List Nat) × Instr × List Nat := plk tb_Roots_unknownRefs
theorem r_Roots_unknownRefs_0 : P_Roots_unknownRefs 0 = (none, .aload_n 0, []) := by decide +kernel
theorem r_Roots_unknownRefs_1 : P_Roots_unknownRefs 1 = (none, .getfield 22, []) := by decide +kernel
theorem r_Roots_unknownRefs_4 : P_Roots_unknownRefs 4 = (none, .ireturn, []) := by decide +kernel
def E_Roots_unknownRefs : List (Nat × Ent) := []
def X_Roots_unknownRefs : Cx := (llk (0, 0, 9) ftX4, llk 99 ntX4, llk none kcX4, llk none klX4, llk dEnt E_Roots_unknownRefs, 0, 0, false)
theorem xok_Roots_unknownRefs : Xok RX4 X_Roots_unknownRefs := xok_of ftX4_ok ntX4_ok kcX4_ok klX4_ok (E := E_Roots_unknownRefs) (fun _ h => absurd h List.not_mem_nil)
theorem xf_Roots_unknownRefs_22 : xfl X_Roots_unknownRefs 22 = (4, 3, 0) := by decide +kernel
theorem xd_Roots_unknownRefs : xd X_Roots_unknownRefs = 0 := rfl
theorem xrb_Roots_unknownRefs : xrb X_Roots_unknownRefs = 0 := rfl
theorem xin_Roots_unknownRefs : xin X_Roots_unknownRefs = false := rfl
set_option maxHeartbeats 4000000 in
set_option maxRecDepth 100000 in
theorem S_Roots_unknownRefs : Snd yX4_unknownRefs cX4_unknownRefs 1 (some .int) T_Roots_unknownRefs 0 0 0 := by
  refine snd_of (X := X_Roots_unknownRefs) (P := P_Roots_unknownRefs) (tb := tb_Roots_unknownRefs) (own := RX4) (by decide) rfl rfl (by decide +kernel) xok_Roots_unknownRefs rfl rk0 (fun h => by first | rfl | cases h) ?_
  intro as M k has hM hT0
  obtain ⟨sz, sl, lay, ρ, σ, τ⟩ := M
  obtain ⟨o, as1, e, hlo, hT1⟩ := mkT_r hT0
  clear hT0
  subst e
  obtain ⟨e, hT⟩ := hT1
  subst e
  replace hlo : lay o = (14, 0) := hlo
  clear has
  replace hM : ∀ a i, -2147483648 ≤ σ a i ∧ σ a i ≤ 2147483647 := hM
  replace hT : TF_Roots_unknownRefs o sz sl lay ρ σ τ k := hT
  unfold TF_Roots_unknownRefs at hT
  refine ⟨Nat.le_of_ble_eq_true rfl, fun _ _ _ => False, fun _ _ _ => 0, 11, ?_, fun _ _ _ _ _ _ h => h.elim⟩
  unfold wps
  simp only [si_iload_n0, si_iload_n1, si_iload_n2, si_iload_n3, si_iload, si_lload_n0, si_lload_n1, si_lload_n2, si_lload_n3, si_lload, si_aload_n0, si_aload_n1, si_aload_n2, si_aload_n3, si_aload, si_istore_n0, si_istore_n1, si_istore_n2, si_istore_n3, si_istore, si_astore_n0, si_astore_n1, si_astore_n2, si_astore_n3, si_astore, si_lstore_n0, si_lstore_n1, si_lstore_n2, si_lstore_n3, si_lstore, si_iconst, si_bipush, si_sipush, si_ldc, si_ldc2_w, si_lconst0, si_lconst1, si_aconst_null, si_iinc, si_dup, si_dup2, si_iadd, si_isub, si_imul, si_idiv, si_irem, si_iand, si_ior, si_ishl, si_ishr, si_ladd, si_lmul, si_lor, si_lxor, si_lshl, si_lushr, si_lcmp, si_i2b, si_i2l, si_l2i, si_icmp_eq, si_icmp_ne, si_icmp_lt, si_icmp_ge, si_icmp_gt, si_icmp_le, si_if_eq, si_if_ne, si_if_lt, si_if_ge, si_if_gt, si_if_le, si_ifnull, si_ifnonnull, si_goto, si_tableswitch, si_lookupswitch, si_getfield, si_putfield, si_getstatic, si_iaload, si_baload, si_laload, si_aaload, si_iastore, si_bastore, si_lastore, si_aastore, si_arraylength, si_new, si_newarray, si_anewarray, si_invokevirtual, si_invokespecial, si_invokestatic, si_ireturn, si_lreturn, si_areturn, si_return_, pI_e, pL_e, pR_e, pA_r, pA_n, pN_n, pN_r, oI_e, oL_e, oA_r, oA_n, lget_e, lrm1_0, lrm2_0, lrm1_i, lrm1_r, lrm1_n, lrm1_l, lrm2_i, lrm2_r, lrm2_n, lrm2_l, popN_0, popN_s, acat_i, acat_l, acat_r, acat_n, stw_0, stw_s, psh_s, psh_n, wgf_r, wgf_i, wgf_b, wgf_n, wgf_m, wpf_i, wpf_r, wpf_b, wnew_e, callE_e, rbk_0, rbk_1, tsw_0, tsw_s, lsw_0, lsw_s, wp_s, wq_t, wq_f, oV_e, pick_0, pick_s, oZ_e, oY_e, r_Roots_unknownRefs_0, r_Roots_unknownRefs_1, r_Roots_unknownRefs_4, xf_Roots_unknownRefs_22, xd_Roots_unknownRefs, xrb_Roots_unknownRefs, xin_Roots_unknownRefs, Nat.reduceAdd, Nat.reduceMul, Nat.reduceEqDiff, reduceIte, Int.reduceNeg, Int.reduceLE, Int.reduceLT, Int.reduceAdd, Int.reduceSub, Int.reduceToNat, true_and, and_true, inR_e, Nat.reduceLT, Nat.reduceLeDiff, reduceCtorEq, Nat.add_zero, Nat.zero_add, or_false, false_or, or_true, true_or, not_true_eq_false, not_false_eq_true, Classical.not_not, Nat.add_eq_zero_iff, and_false, false_and, Int.reduceEq, List.mem_cons, List.not_mem_nil, forall_eq_or_imp, forall_eq, false_implies, implies_true, forall_const, aargs_0, aargs_i, aargs_r, aargs_l, aargs_n, nfT_e, eq_self, and_self, Nat.le_refl, fu_s, fu_fu, iu_iu, iu_s, fu_am, fu_a0, fu_0a, iu_l, Nat.reduceBEq, Int.reduceBEq, T_objInit_e]
  exact ⟨hlo, hT⟩
def TF_Roots_clear (o : Nat) (sz sl : Nat) (lay : Nat → Nat × Int) (ρ : Nat → Int → Nat) (σ : Nat → Int → Int) (τ : Nat → Int → Int64) (k : Option AV → Mm → Prop) : Prop := k none (sz, sl, lay, ρ, fu σ o (iu (iu (σ o) 2 0) 3 0), τ)
def T_Roots_clear : Tr := mkT 4 fun o as M k => as = [] ∧ TF_Roots_clear o M.1 M.2.1 M.2.2.1 M.2.2.2.1 M.2.2.2.2.1 M.2.2.2.2.2 k
theorem T_Roots_clear_e {o : Nat} {sz sl : Nat} {lay : Nat → Nat × Int} {ρ : Nat → Int → Nat} {σ : Nat → Int → Int} {τ : Nat → Int → Int64} {k : Option AV → Mm → Prop} : T_Roots_clear [vR o] (sz, sl, lay, ρ, σ, τ) k = (lay o = (14, 0) ∧ TF_Roots_clear o sz sl lay ρ σ τ k) := by simp [T_Roots_clear, mkT_e, pI_e, pR_e, pL_e]
theorem T_Roots_clear_r (as : List AV) (M : Mm) (k : Option AV → Mm → Prop) (h : T_Roots_clear as M k) : ∃ b As, as = vR b :: As ∧ M.2.2.1 b = (10 + 4, 0) := by
  obtain ⟨b, As, h1, h2, -⟩ := mkT_r h
  exact ⟨b, As, h1, h2⟩
def tb_Roots_clear : List (Nat × Option (List Nat) × Instr × List Nat) := [(0, none, .aload_n 0, []), (1, none, .iconst 0, []), (2, none, .putfield 18, []), (5, none, .aload_n 0, []), (6, none, .iconst 0, []), (7, none, .putfield 22, []), (10, none, .return_, [])]
def P_Roots_clear : Nat → Option (List Nat) × Instr × List Nat := plk tb_Roots_clear
theorem r_Roots_clear_0 : P_Roots_clear 0 = (none, .aload_n 0, []) := by decide +kernel
theorem r_Roots_clear_1 : P_Roots_clear 1 = (none, .iconst 0, []) := by decide +kernel
theorem r_Roots_clear_2 : P_Roots_clear 2 = (none, .putfield 18, []) := by decide +kernel
theorem r_Roots_clear_5 : P_Roots_clear 5 = (none, .aload_n 0, []) := by decide +kernel
theorem r_Roots_clear_6 : P_Roots_clear 6 = (none, .iconst 0, []) := by decide +kernel
theorem r_Roots_clear_7 : P_Roots_clear 7 = (none, .putfield 22, []) := by decide +kernel
theorem r_Roots_clear_10 : P_Roots_clear 10 = (none, .return_, []) := by decide +kernel
def E_Roots_clear : List (Nat × Ent) := []
def X_Roots_clear : Cx := (llk (0, 0, 9) ftX4, llk 99 ntX4, llk none kcX4, llk none klX4, llk dEnt E_Roots_clear, 0, 3, false)
theorem xok_Roots_clear : Xok RX4 X_Roots_clear := xok_of ftX4_ok ntX4_ok kcX4_ok klX4_ok (E := E_Roots_clear) (fun _ h => absurd h List.not_mem_nil)
theorem xf_Roots_clear_18 : xfl X_Roots_clear 18 = (4, 2, 0) := by decide +kernel
theorem xf_Roots_clear_22 : xfl X_Roots_clear 22 = (4, 3, 0) := by decide +kernel
theorem xd_Roots_clear : xd X_Roots_clear = 0 := rfl
theorem xrb_Roots_clear : xrb X_Roots_clear = 3 := rfl
theorem xin_Roots_clear : xin X_Roots_clear = false := rfl
set_option maxHeartbeats 4000000 in
set_option maxRecDepth 100000 in
theorem S_Roots_clear : Snd yX4_clear cX4_clear 1 none T_Roots_clear 0 0 0 := by
  refine snd_of (X := X_Roots_clear) (P := P_Roots_clear) (tb := tb_Roots_clear) (own := RX4) (by decide) rfl rfl (by decide +kernel) xok_Roots_clear rfl rk3 (fun h => by first | rfl | cases h) ?_
  intro as M k has hM hT0
  obtain ⟨sz, sl, lay, ρ, σ, τ⟩ := M
  obtain ⟨o, as1, e, hlo, hT1⟩ := mkT_r hT0
  clear hT0
  subst e
  obtain ⟨e, hT⟩ := hT1
  subst e
  replace hlo : lay o = (14, 0) := hlo
  clear has
  replace hM : ∀ a i, -2147483648 ≤ σ a i ∧ σ a i ≤ 2147483647 := hM
  replace hT : TF_Roots_clear o sz sl lay ρ σ τ k := hT
  unfold TF_Roots_clear at hT
  refine ⟨Nat.le_of_ble_eq_true rfl, fun _ _ _ => False, fun _ _ _ => 0, 15, ?_, fun _ _ _ _ _ _ h => h.elim⟩
  unfold wps
  simp only [si_iload_n0, si_iload_n1, si_iload_n2, si_iload_n3, si_iload, si_lload_n0, si_lload_n1, si_lload_n2, si_lload_n3, si_lload, si_aload_n0, si_aload_n1, si_aload_n2, si_aload_n3, si_aload, si_istore_n0, si_istore_n1, si_istore_n2, si_istore_n3, si_istore, si_astore_n0, si_astore_n1, si_astore_n2, si_astore_n3, si_astore, si_lstore_n0, si_lstore_n1, si_lstore_n2, si_lstore_n3, si_lstore, si_iconst, si_bipush, si_sipush, si_ldc, si_ldc2_w, si_lconst0, si_lconst1, si_aconst_null, si_iinc, si_dup, si_dup2, si_iadd, si_isub, si_imul, si_idiv, si_irem, si_iand, si_ior, si_ishl, si_ishr, si_ladd, si_lmul, si_lor, si_lxor, si_lshl, si_lushr, si_lcmp, si_i2b, si_i2l, si_l2i, si_icmp_eq, si_icmp_ne, si_icmp_lt, si_icmp_ge, si_icmp_gt, si_icmp_le, si_if_eq, si_if_ne, si_if_lt, si_if_ge, si_if_gt, si_if_le, si_ifnull, si_ifnonnull, si_goto, si_tableswitch, si_lookupswitch, si_getfield, si_putfield, si_getstatic, si_iaload, si_baload, si_laload, si_aaload, si_iastore, si_bastore, si_lastore, si_aastore, si_arraylength, si_new, si_newarray, si_anewarray, si_invokevirtual, si_invokespecial, si_invokestatic, si_ireturn, si_lreturn, si_areturn, si_return_, pI_e, pL_e, pR_e, pA_r, pA_n, pN_n, pN_r, oI_e, oL_e, oA_r, oA_n, lget_e, lrm1_0, lrm2_0, lrm1_i, lrm1_r, lrm1_n, lrm1_l, lrm2_i, lrm2_r, lrm2_n, lrm2_l, popN_0, popN_s, acat_i, acat_l, acat_r, acat_n, stw_0, stw_s, psh_s, psh_n, wgf_r, wgf_i, wgf_b, wgf_n, wgf_m, wpf_i, wpf_r, wpf_b, wnew_e, callE_e, rbk_0, rbk_1, tsw_0, tsw_s, lsw_0, lsw_s, wp_s, wq_t, wq_f, oV_e, pick_0, pick_s, oZ_e, oY_e, r_Roots_clear_0, r_Roots_clear_1, r_Roots_clear_2, r_Roots_clear_5, r_Roots_clear_6, r_Roots_clear_7, r_Roots_clear_10, xf_Roots_clear_18, xf_Roots_clear_22, xd_Roots_clear, xrb_Roots_clear, xin_Roots_clear, Nat.reduceAdd, Nat.reduceMul, Nat.reduceEqDiff, reduceIte, Int.reduceNeg, Int.reduceLE, Int.reduceLT, Int.reduceAdd, Int.reduceSub, Int.reduceToNat, true_and, and_true, inR_e, Nat.reduceLT, Nat.reduceLeDiff, reduceCtorEq, Nat.add_zero, Nat.zero_add, or_false, false_or, or_true, true_or, not_true_eq_false, not_false_eq_true, Classical.not_not, Nat.add_eq_zero_iff, and_false, false_and, Int.reduceEq, List.mem_cons, List.not_mem_nil, forall_eq_or_imp, forall_eq, false_implies, implies_true, forall_const, aargs_0, aargs_i, aargs_r, aargs_l, aargs_n, nfT_e, eq_self, and_self, Nat.le_refl, fu_s, fu_fu, iu_iu, iu_s, fu_am, fu_a0, fu_0a, iu_l, Nat.reduceBEq, Int.reduceBEq, T_objInit_e]
  exact ⟨hlo, hlo, hT⟩
def TF_Roots_admits (o : Nat) (s : Int) (x : Int) (sz sl : Nat) (lay : Nat → Nat × Int) (ρ : Nat → Int → Nat) (σ : Nat → Int → Int) (τ : Nat → Int → Int64) (k : Option AV → Mm → Prop) : Prop := (0 ≤ s ∧ s < 10 ∧ 1 ≤ x ∧ σ o 2 < 100 → k (some (vI (1))) (sz, sl, lay, ρ, σ, τ)) ∧ (¬ (0 ≤ s ∧ s < 10 ∧ 1 ≤ x ∧ σ o 2 < 100) → k (some (vI (0))) (sz, sl, lay, ρ, σ, τ))
def T_Roots_admits : Tr := mkT 4 fun o as M k => pI as fun s as => pI as fun x as => as = [] ∧ TF_Roots_admits o s x M.1 M.2.1 M.2.2.1 M.2.2.2.1 M.2.2.2.2.1 M.2.2.2.2.2 k
theorem T_Roots_admits_e {o : Nat} {s : Int} {x : Int} {sz sl : Nat} {lay : Nat → Nat × Int} {ρ : Nat → Int → Nat} {σ : Nat → Int → Int} {τ : Nat → Int → Int64} {k : Option AV → Mm → Prop} : T_Roots_admits [vR o, vI s, vI x] (sz, sl, lay, ρ, σ, τ) k = (lay o = (14, 0) ∧ TF_Roots_admits o s x sz sl lay ρ σ τ k) := by simp [T_Roots_admits, mkT_e, pI_e, pR_e, pL_e]
theorem T_Roots_admits_r (as : List AV) (M : Mm) (k : Option AV → Mm → Prop) (h : T_Roots_admits as M k) : ∃ b As, as = vR b :: As ∧ M.2.2.1 b = (10 + 4, 0) := by
  obtain ⟨b, As, h1, h2, -⟩ := mkT_r h
  exact ⟨b, As, h1, h2⟩
def tb_Roots_admits : List (Nat × Option (List Nat) × Instr × List Nat) := [(0, none, .iload_n 1, []), (1, none, .ifCond .lt 27, [28]), (4, none, .iload_n 1, []), (5, none, .bipush 10, []), (7, none, .if_icmp .ge 21, [28]), (10, none, .iload_n 2, []), (11, none, .iconst 1, []), (12, none, .if_icmp .lt 16, [28]), (15, none, .aload_n 0, []), (16, none, .getfield 18, []), (19, none, .bipush 100, []), (21, none, .if_icmp .ge 7, [28]), (24, none, .iconst 1, []), (25, none, .goto 4, [29]), (28, none, .iconst 0, []), (29, none, .ireturn, [])]
def P_Roots_admits : Nat → Option (List Nat) × Instr × List Nat := plk tb_Roots_admits
theorem r_Roots_admits_0 : P_Roots_admits 0 = (none, .iload_n 1, []) := by decide +kernel
theorem r_Roots_admits_1 : P_Roots_admits 1 = (none, .ifCond .lt 27, [28]) := by decide +kernel
theorem r_Roots_admits_4 : P_Roots_admits 4 = (none, .iload_n 1, []) := by decide +kernel
theorem r_Roots_admits_5 : P_Roots_admits 5 = (none, .bipush 10, []) := by decide +kernel
theorem r_Roots_admits_7 : P_Roots_admits 7 = (none, .if_icmp .ge 21, [28]) := by decide +kernel
theorem r_Roots_admits_10 : P_Roots_admits 10 = (none, .iload_n 2, []) := by decide +kernel
theorem r_Roots_admits_11 : P_Roots_admits 11 = (none, .iconst 1, []) := by decide +kernel
theorem r_Roots_admits_12 : P_Roots_admits 12 = (none, .if_icmp .lt 16, [28]) := by decide +kernel
theorem r_Roots_admits_15 : P_Roots_admits 15 = (none, .aload_n 0, []) := by decide +kernel
theorem r_Roots_admits_16 : P_Roots_admits 16 = (none, .getfield 18, []) := by decide +kernel
theorem r_Roots_admits_19 : P_Roots_admits 19 = (none, .bipush 100, []) := by decide +kernel
theorem r_Roots_admits_21 : P_Roots_admits 21 = (none, .if_icmp .ge 7, [28]) := by decide +kernel
theorem r_Roots_admits_24 : P_Roots_admits 24 = (none, .iconst 1, []) := by decide +kernel
theorem r_Roots_admits_25 : P_Roots_admits 25 = (none, .goto 4, [29]) := by decide +kernel
theorem r_Roots_admits_28 : P_Roots_admits 28 = (none, .iconst 0, []) := by decide +kernel
theorem r_Roots_admits_29 : P_Roots_admits 29 = (none, .ireturn, []) := by decide +kernel
def E_Roots_admits : List (Nat × Ent) := []
def X_Roots_admits : Cx := (llk (0, 0, 9) ftX4, llk 99 ntX4, llk none kcX4, llk none klX4, llk dEnt E_Roots_admits, 0, 1, false)
theorem xok_Roots_admits : Xok RX4 X_Roots_admits := xok_of ftX4_ok ntX4_ok kcX4_ok klX4_ok (E := E_Roots_admits) (fun _ h => absurd h List.not_mem_nil)
theorem xf_Roots_admits_18 : xfl X_Roots_admits 18 = (4, 2, 0) := by decide +kernel
theorem xd_Roots_admits : xd X_Roots_admits = 0 := rfl
theorem xrb_Roots_admits : xrb X_Roots_admits = 1 := rfl
theorem xin_Roots_admits : xin X_Roots_admits = false := rfl
set_option maxHeartbeats 4000000 in
set_option maxRecDepth 100000 in
theorem S_Roots_admits : Snd yX4_admits cX4_admits 3 (some .boolean) T_Roots_admits 0 0 0 := by
  refine snd_of (X := X_Roots_admits) (P := P_Roots_admits) (tb := tb_Roots_admits) (own := RX4) (by decide) rfl rfl (by decide +kernel) xok_Roots_admits rfl rk1 (fun h => by first | rfl | cases h) ?_
  intro as M k has hM hT0
  obtain ⟨sz, sl, lay, ρ, σ, τ⟩ := M
  obtain ⟨o, as1, e, hlo, hT1⟩ := mkT_r hT0
  clear hT0
  subst e
  obtain ⟨s, as2, e, hT2⟩ := pI_x hT1
  clear hT1
  subst e
  obtain ⟨x, as3, e, hT3⟩ := pI_x hT2
  clear hT2
  subst e
  obtain ⟨e, hT⟩ := hT3
  subst e
  replace hlo : lay o = (14, 0) := hlo
  have r_s : -2147483648 ≤ s ∧ s ≤ 2147483647 := has (vI s) (by simp)
  have r_x : -2147483648 ≤ x ∧ x ≤ 2147483647 := has (vI x) (by simp)
  clear has
  replace hM : ∀ a i, -2147483648 ≤ σ a i ∧ σ a i ≤ 2147483647 := hM
  replace hT : TF_Roots_admits o s x sz sl lay ρ σ τ k := hT
  unfold TF_Roots_admits at hT
  obtain ⟨h1, h0⟩ := hT
  refine ⟨Nat.le_of_ble_eq_true rfl, fun _ _ _ => False, fun _ _ _ => 0, 24, ?_, fun _ _ _ _ _ _ h => h.elim⟩
  unfold wps
  simp only [si_iload_n0, si_iload_n1, si_iload_n2, si_iload_n3, si_iload, si_lload_n0, si_lload_n1, si_lload_n2, si_lload_n3, si_lload, si_aload_n0, si_aload_n1, si_aload_n2, si_aload_n3, si_aload, si_istore_n0, si_istore_n1, si_istore_n2, si_istore_n3, si_istore, si_astore_n0, si_astore_n1, si_astore_n2, si_astore_n3, si_astore, si_lstore_n0, si_lstore_n1, si_lstore_n2, si_lstore_n3, si_lstore, si_iconst, si_bipush, si_sipush, si_ldc, si_ldc2_w, si_lconst0, si_lconst1, si_aconst_null, si_iinc, si_dup, si_dup2, si_iadd, si_isub, si_imul, si_idiv, si_irem, si_iand, si_ior, si_ishl, si_ishr, si_ladd, si_lmul, si_lor, si_lxor, si_lshl, si_lushr, si_lcmp, si_i2b, si_i2l, si_l2i, si_icmp_eq, si_icmp_ne, si_icmp_lt, si_icmp_ge, si_icmp_gt, si_icmp_le, si_if_eq, si_if_ne, si_if_lt, si_if_ge, si_if_gt, si_if_le, si_ifnull, si_ifnonnull, si_goto, si_tableswitch, si_lookupswitch, si_getfield, si_putfield, si_getstatic, si_iaload, si_baload, si_laload, si_aaload, si_iastore, si_bastore, si_lastore, si_aastore, si_arraylength, si_new, si_newarray, si_anewarray, si_invokevirtual, si_invokespecial, si_invokestatic, si_ireturn, si_lreturn, si_areturn, si_return_, pI_e, pL_e, pR_e, pA_r, pA_n, pN_n, pN_r, oI_e, oL_e, oA_r, oA_n, lget_e, lrm1_0, lrm2_0, lrm1_i, lrm1_r, lrm1_n, lrm1_l, lrm2_i, lrm2_r, lrm2_n, lrm2_l, popN_0, popN_s, acat_i, acat_l, acat_r, acat_n, stw_0, stw_s, psh_s, psh_n, wgf_r, wgf_i, wgf_b, wgf_n, wgf_m, wpf_i, wpf_r, wpf_b, wnew_e, callE_e, rbk_0, rbk_1, tsw_0, tsw_s, lsw_0, lsw_s, wp_s, wq_t, wq_f, oV_e, pick_0, pick_s, oZ_e, oY_e, r_Roots_admits_0, r_Roots_admits_1, r_Roots_admits_4, r_Roots_admits_5, r_Roots_admits_7, r_Roots_admits_10, r_Roots_admits_11, r_Roots_admits_12, r_Roots_admits_15, r_Roots_admits_16, r_Roots_admits_19, r_Roots_admits_21, r_Roots_admits_24, r_Roots_admits_25, r_Roots_admits_28, r_Roots_admits_29, xf_Roots_admits_18, xd_Roots_admits, xrb_Roots_admits, xin_Roots_admits, hlo, Nat.reduceAdd, Nat.reduceMul, Nat.reduceEqDiff, reduceIte, Int.reduceNeg, Int.reduceLE, Int.reduceLT, Int.reduceAdd, Int.reduceSub, Int.reduceToNat, true_and, and_true, inR_e, Nat.reduceLT, Nat.reduceLeDiff, reduceCtorEq, Nat.add_zero, Nat.zero_add, or_false, false_or, or_true, true_or, not_true_eq_false, not_false_eq_true, Classical.not_not, Nat.add_eq_zero_iff, and_false, false_and, Int.reduceEq, List.mem_cons, List.not_mem_nil, forall_eq_or_imp, forall_eq, false_implies, implies_true, forall_const, aargs_0, aargs_i, aargs_r, aargs_l, aargs_n, nfT_e, eq_self, and_self, Nat.le_refl, fu_s, fu_fu, iu_iu, iu_s, fu_am, fu_a0, fu_0a, iu_l, Nat.reduceBEq, Int.reduceBEq, T_objInit_e]
  repeat' (first | assumption | intro _ | apply And.intro)
  all_goals first | omega | assumption | (exact h1 (by omega)) | (exact h0 (by omega)) | (exact h1 ⟨by omega, by omega⟩) | (exact h0 ⟨by omega, by omega⟩) | (exact h1 ⟨by omega, by omega, by omega⟩) | (exact h0 ⟨by omega, by omega, by omega⟩) | (exact h1 ⟨by omega, by omega, by omega, by omega⟩)
def TF_Roots_add (o : Nat) (x : Int) (sz sl : Nat) (lay : Nat → Nat × Int) (ρ : Nat → Int → Nat) (σ : Nat → Int → Int) (τ : Nat → Int → Int64) (k : Option AV → Mm → Prop) : Prop := LRoots lay ρ o ∧ (0 ≤ σ o 2 ∧ σ o 2 < 100) ∧ k none (sz, sl, lay, ρ, fu (fu (fu σ (o + 1) (iu (σ (o + 1)) (σ o 2) x)) (o + 2) (iu (σ (o + 2)) (σ o 2) (-1))) o (iu (σ o) 2 (σ o 2 + 1)), τ)
def T_Roots_add : Tr := mkT 4 fun o as M k => pI as fun x as => as = [] ∧ TF_Roots_add o x M.1 M.2.1 M.2.2.1 M.2.2.2.1 M.2.2.2.2.1 M.2.2.2.2.2 k
theorem T_Roots_add_e {o : Nat} {x : Int} {sz sl : Nat} {lay : Nat → Nat × Int} {ρ : Nat → Int → Nat} {σ : Nat → Int → Int} {τ : Nat → Int → Int64} {k : Option AV → Mm → Prop} : T_Roots_add [vR o, vI x] (sz, sl, lay, ρ, σ, τ) k = (lay o = (14, 0) ∧ TF_Roots_add o x sz sl lay ρ σ τ k) := by simp [T_Roots_add, mkT_e, pI_e, pR_e, pL_e]
theorem T_Roots_add_r (as : List AV) (M : Mm) (k : Option AV → Mm → Prop) (h : T_Roots_add as M k) : ∃ b As, as = vR b :: As ∧ M.2.2.1 b = (10 + 4, 0) := by
  obtain ⟨b, As, h1, h2, -⟩ := mkT_r h
  exact ⟨b, As, h1, h2⟩
def tb_Roots_add : List (Nat × Option (List Nat) × Instr × List Nat) := [(0, none, .aload_n 0, []), (1, none, .getfield 18, []), (4, none, .bipush 100, []), (6, none, .if_icmp .ge 33, [39]), (9, none, .aload_n 0, []), (10, none, .getfield 9, []), (13, none, .aload_n 0, []), (14, none, .getfield 18, []), (17, none, .iload_n 1, []), (18, none, .iastore, []), (19, none, .aload_n 0, []), (20, none, .getfield 15, []), (23, none, .aload_n 0, []), (24, none, .getfield 18, []), (27, none, .iconst (-1), []), (28, none, .iastore, []), (29, none, .aload_n 0, []), (30, none, .dup, []), (31, none, .getfield 18, []), (34, none, .iconst 1, []), (35, none, .iadd, []), (36, none, .putfield 18, []), (39, none, .return_, [])]
def P_Roots_add : Nat → Option (List Nat) × Instr × List Nat := plk tb_Roots_add
theorem r_Roots_add_0 : P_Roots_add 0 = (none, .aload_n 0, []) := by decide +kernel
theorem r_Roots_add_1 : P_Roots_add 1 = (none, .getfield 18, []) := by decide +kernel
theorem r_Roots_add_4 : P_Roots_add 4 = (none, .bipush 100, []) := by decide +kernel
theorem r_Roots_add_6 : P_Roots_add 6 = (none, .if_icmp .ge 33, [39]) := by decide +kernel
theorem r_Roots_add_9 : P_Roots_add 9 = (none, .aload_n 0, []) := by decide +kernel
theorem r_Roots_add_10 : P_Roots_add 10 = (none, .getfield 9, []) := by decide +kernel
theorem r_Roots_add_13 : P_Roots_add 13 = (none, .aload_n 0, []) := by decide +kernel
theorem r_Roots_add_14 : P_Roots_add 14 = (none, .getfield 18, []) := by decide +kernel
theorem r_Roots_add_17 : P_Roots_add 17 = (none, .iload_n 1, []) := by decide +kernel
theorem r_Roots_add_18 : P_Roots_add 18 = (none, .iastore, []) := by decide +kernel
theorem r_Roots_add_19 : P_Roots_add 19 = (none, .aload_n 0, []) := by decide +kernel
theorem r_Roots_add_20 : P_Roots_add 20 = (none, .getfield 15, []) := by decide +kernel
theorem r_Roots_add_23 : P_Roots_add 23 = (none, .aload_n 0, []) := by decide +kernel
theorem r_Roots_add_24 : P_Roots_add 24 = (none, .getfield 18, []) := by decide +kernel
theorem r_Roots_add_27 : P_Roots_add 27 = (none, .iconst (-1), []) := by decide +kernel
theorem r_Roots_add_28 : P_Roots_add 28 = (none, .iastore, []) := by decide +kernel
theorem r_Roots_add_29 : P_Roots_add 29 = (none, .aload_n 0, []) := by decide +kernel
theorem r_Roots_add_30 : P_Roots_add 30 = (none, .dup, []) := by decide +kernel
theorem r_Roots_add_31 : P_Roots_add 31 = (none, .getfield 18, []) := by decide +kernel
theorem r_Roots_add_34 : P_Roots_add 34 = (none, .iconst 1, []) := by decide +kernel
theorem r_Roots_add_35 : P_Roots_add 35 = (none, .iadd, []) := by decide +kernel
theorem r_Roots_add_36 : P_Roots_add 36 = (none, .putfield 18, []) := by decide +kernel
theorem r_Roots_add_39 : P_Roots_add 39 = (none, .return_, []) := by decide +kernel
def E_Roots_add : List (Nat × Ent) := []
def X_Roots_add : Cx := (llk (0, 0, 9) ftX4, llk 99 ntX4, llk none kcX4, llk none klX4, llk dEnt E_Roots_add, 0, 3, false)
theorem xok_Roots_add : Xok RX4 X_Roots_add := xok_of ftX4_ok ntX4_ok kcX4_ok klX4_ok (E := E_Roots_add) (fun _ h => absurd h List.not_mem_nil)
theorem xf_Roots_add_9 : xfl X_Roots_add 9 = (4, 0, 1) := by decide +kernel
theorem xf_Roots_add_15 : xfl X_Roots_add 15 = (4, 1, 1) := by decide +kernel
theorem xf_Roots_add_18 : xfl X_Roots_add 18 = (4, 2, 0) := by decide +kernel
theorem xd_Roots_add : xd X_Roots_add = 0 := rfl
theorem xrb_Roots_add : xrb X_Roots_add = 3 := rfl
theorem xin_Roots_add : xin X_Roots_add = false := rfl
set_option maxHeartbeats 4000000 in
set_option maxRecDepth 100000 in
theorem S_Roots_add : Snd yX4_add cX4_add 2 none T_Roots_add 0 0 0 := by
  refine snd_of (X := X_Roots_add) (P := P_Roots_add) (tb := tb_Roots_add) (own := RX4) (by decide) rfl rfl (by decide +kernel) xok_Roots_add rfl rk3 (fun h => by first | rfl | cases h) ?_
  intro as M k has hM hT0
  obtain ⟨sz, sl, lay, ρ, σ, τ⟩ := M
  obtain ⟨o, as1, e, hlo, hT1⟩ := mkT_r hT0
  clear hT0
  subst e
  obtain ⟨x, as2, e, hT2⟩ := pI_x hT1
  clear hT1
  subst e
  obtain ⟨e, hT⟩ := hT2
  subst e
  replace hlo : lay o = (14, 0) := hlo
  have r_x : -2147483648 ≤ x ∧ x ≤ 2147483647 := has (vI x) (by simp)
  clear has
  replace hM : ∀ a i, -2147483648 ≤ σ a i ∧ σ a i ≤ 2147483647 := hM
  replace hT : TF_Roots_add o x sz sl lay ρ σ τ k := hT
  unfold TF_Roots_add at hT
  obtain ⟨hR, hc, hT⟩ := hT
  obtain ⟨rh, rp0, rp1, rq0, rq1⟩ := (show LRoots lay ρ _ from hR)
  refine ⟨Nat.le_of_ble_eq_true rfl, fun _ _ _ => False, fun _ _ _ => 0, 31, ?_, fun _ _ _ _ _ _ h => h.elim⟩
  unfold wps
  simp only [si_iload_n0, si_iload_n1, si_iload_n2, si_iload_n3, si_iload, si_lload_n0, si_lload_n1, si_lload_n2, si_lload_n3, si_lload, si_aload_n0, si_aload_n1, si_aload_n2, si_aload_n3, si_aload, si_istore_n0, si_istore_n1, si_istore_n2, si_istore_n3, si_istore, si_astore_n0, si_astore_n1, si_astore_n2, si_astore_n3, si_astore, si_lstore_n0, si_lstore_n1, si_lstore_n2, si_lstore_n3, si_lstore, si_iconst, si_bipush, si_sipush, si_ldc, si_ldc2_w, si_lconst0, si_lconst1, si_aconst_null, si_iinc, si_dup, si_dup2, si_iadd, si_isub, si_imul, si_idiv, si_irem, si_iand, si_ior, si_ishl, si_ishr, si_ladd, si_lmul, si_lor, si_lxor, si_lshl, si_lushr, si_lcmp, si_i2b, si_i2l, si_l2i, si_icmp_eq, si_icmp_ne, si_icmp_lt, si_icmp_ge, si_icmp_gt, si_icmp_le, si_if_eq, si_if_ne, si_if_lt, si_if_ge, si_if_gt, si_if_le, si_ifnull, si_ifnonnull, si_goto, si_tableswitch, si_lookupswitch, si_getfield, si_putfield, si_getstatic, si_iaload, si_baload, si_laload, si_aaload, si_iastore, si_bastore, si_lastore, si_aastore, si_arraylength, si_new, si_newarray, si_anewarray, si_invokevirtual, si_invokespecial, si_invokestatic, si_ireturn, si_lreturn, si_areturn, si_return_, pI_e, pL_e, pR_e, pA_r, pA_n, pN_n, pN_r, oI_e, oL_e, oA_r, oA_n, lget_e, lrm1_0, lrm2_0, lrm1_i, lrm1_r, lrm1_n, lrm1_l, lrm2_i, lrm2_r, lrm2_n, lrm2_l, popN_0, popN_s, acat_i, acat_l, acat_r, acat_n, stw_0, stw_s, psh_s, psh_n, wgf_r, wgf_i, wgf_b, wgf_n, wgf_m, wpf_i, wpf_r, wpf_b, wnew_e, callE_e, rbk_0, rbk_1, tsw_0, tsw_s, lsw_0, lsw_s, wp_s, wq_t, wq_f, oV_e, pick_0, pick_s, oZ_e, oY_e, r_Roots_add_0, r_Roots_add_1, r_Roots_add_4, r_Roots_add_6, r_Roots_add_9, r_Roots_add_10, r_Roots_add_13, r_Roots_add_14, r_Roots_add_17, r_Roots_add_18, r_Roots_add_19, r_Roots_add_20, r_Roots_add_23, r_Roots_add_24, r_Roots_add_27, r_Roots_add_28, r_Roots_add_29, r_Roots_add_30, r_Roots_add_31, r_Roots_add_34, r_Roots_add_35, r_Roots_add_36, r_Roots_add_39, xf_Roots_add_9, xf_Roots_add_15, xf_Roots_add_18, xd_Roots_add, xrb_Roots_add, xin_Roots_add, rh, rp0, rp1, rq0, rq1, Nat.reduceAdd, Nat.reduceMul, Nat.reduceEqDiff, reduceIte, Int.reduceNeg, Int.reduceLE, Int.reduceLT, Int.reduceAdd, Int.reduceSub, Int.reduceToNat, true_and, and_true, inR_e, Nat.reduceLT, Nat.reduceLeDiff, reduceCtorEq, Nat.add_zero, Nat.zero_add, or_false, false_or, or_true, true_or, not_true_eq_false, not_false_eq_true, Classical.not_not, Nat.add_eq_zero_iff, and_false, false_and, Int.reduceEq, List.mem_cons, List.not_mem_nil, forall_eq_or_imp, forall_eq, false_implies, implies_true, forall_const, aargs_0, aargs_i, aargs_r, aargs_l, aargs_n, nfT_e, eq_self, and_self, Nat.le_refl, fu_s, fu_fu, iu_iu, iu_s, fu_am, fu_a0, fu_0a, iu_l, Nat.reduceBEq, Int.reduceBEq, T_objInit_e]
  repeat' (first | assumption | intro _ | apply And.intro)
  all_goals first | omega | assumption
def TF_Roots_targetAt (o : Nat) (i : Int) (sz sl : Nat) (lay : Nat → Nat × Int) (ρ : Nat → Int → Nat) (σ : Nat → Int → Int) (τ : Nat → Int → Int64) (k : Option AV → Mm → Prop) : Prop := LRoots lay ρ o ∧ (0 ≤ σ o 2 ∧ σ o 2 ≤ 100) ∧ (0 ≤ i ∧ i < σ o 2 → k (some (vI (σ (o + 2) i))) (sz, sl, lay, ρ, σ, τ)) ∧ (¬ (0 ≤ i ∧ i < σ o 2) → k (some (vI (-1))) (sz, sl, lay, ρ, σ, τ))
def T_Roots_targetAt : Tr := mkT 4 fun o as M k => pI as fun i as => as = [] ∧ TF_Roots_targetAt o i M.1 M.2.1 M.2.2.1 M.2.2.2.1 M.2.2.2.2.1 M.2.2.2.2.2 k
theorem T_Roots_targetAt_e {o : Nat} {i : Int} {sz sl : Nat} {lay : Nat → Nat × Int} {ρ : Nat → Int → Nat} {σ : Nat → Int → Int} {τ : Nat → Int → Int64} {k : Option AV → Mm → Prop} : T_Roots_targetAt [vR o, vI i] (sz, sl, lay, ρ, σ, τ) k = (lay o = (14, 0) ∧ TF_Roots_targetAt o i sz sl lay ρ σ τ k) := by simp [T_Roots_targetAt, mkT_e, pI_e, pR_e, pL_e]
theorem T_Roots_targetAt_r (as : List AV) (M : Mm) (k : Option AV → Mm → Prop) (h : T_Roots_targetAt as M k) : ∃ b As, as = vR b :: As ∧ M.2.2.1 b = (10 + 4, 0) := by
  obtain ⟨b, As, h1, h2, -⟩ := mkT_r h
  exact ⟨b, As, h1, h2⟩
def tb_Roots_targetAt : List (Nat × Option (List Nat) × Instr × List Nat) := [(0, none, .iload_n 1, []), (1, none, .ifCond .lt 11, [12]), (4, none, .iload_n 1, []), (5, none, .aload_n 0, []), (6, none, .getfield 18, []), (9, none, .if_icmp .lt 7, [16]), (12, none, .iconst (-1), []), (13, none, .goto 9, [22]), (16, none, .aload_n 0, []), (17, none, .getfield 15, []), (20, none, .iload_n 1, []), (21, none, .iaload, []), (22, none, .ireturn, [])]
def P_Roots_targetAt : Nat → Option (List Nat) × Instr × List Nat := plk tb_Roots_targetAt
theorem r_Roots_targetAt_0 : P_Roots_targetAt 0 = (none, .iload_n 1, []) := by decide +kernel
theorem r_Roots_targetAt_1 : P_Roots_targetAt 1 = (none, .ifCond .lt 11, [12]) := by decide +kernel
theorem r_Roots_targetAt_4 : P_Roots_targetAt 4 = (none, .iload_n 1, []) := by decide +kernel
theorem r_Roots_targetAt_5 : P_Roots_targetAt 5 = (none, .aload_n 0, []) := by decide +kernel
theorem r_Roots_targetAt_6 : P_Roots_targetAt 6 = (none, .getfield 18, []) := by decide +kernel
theorem r_Roots_targetAt_9 : P_Roots_targetAt 9 = (none, .if_icmp .lt 7, [16]) := by decide +kernel
theorem r_Roots_targetAt_12 : P_Roots_targetAt 12 = (none, .iconst (-1), []) := by decide +kernel
theorem r_Roots_targetAt_13 : P_Roots_targetAt 13 = (none, .goto 9, [22]) := by decide +kernel
theorem r_Roots_targetAt_16 : P_Roots_targetAt 16 = (none, .aload_n 0, []) := by decide +kernel
theorem r_Roots_targetAt_17 : P_Roots_targetAt 17 = (none, .getfield 15, []) := by decide +kernel
theorem r_Roots_targetAt_20 : P_Roots_targetAt 20 = (none, .iload_n 1, []) := by decide +kernel
theorem r_Roots_targetAt_21 : P_Roots_targetAt 21 = (none, .iaload, []) := by decide +kernel
theorem r_Roots_targetAt_22 : P_Roots_targetAt 22 = (none, .ireturn, []) := by decide +kernel
def E_Roots_targetAt : List (Nat × Ent) := []
def X_Roots_targetAt : Cx := (llk (0, 0, 9) ftX4, llk 99 ntX4, llk none kcX4, llk none klX4, llk dEnt E_Roots_targetAt, 0, 0, false)
theorem xok_Roots_targetAt : Xok RX4 X_Roots_targetAt := xok_of ftX4_ok ntX4_ok kcX4_ok klX4_ok (E := E_Roots_targetAt) (fun _ h => absurd h List.not_mem_nil)
theorem xf_Roots_targetAt_15 : xfl X_Roots_targetAt 15 = (4, 1, 1) := by decide +kernel
theorem xf_Roots_targetAt_18 : xfl X_Roots_targetAt 18 = (4, 2, 0) := by decide +kernel
theorem xd_Roots_targetAt : xd X_Roots_targetAt = 0 := rfl
theorem xrb_Roots_targetAt : xrb X_Roots_targetAt = 0 := rfl
theorem xin_Roots_targetAt : xin X_Roots_targetAt = false := rfl
set_option maxHeartbeats 4000000 in
set_option maxRecDepth 100000 in
theorem S_Roots_targetAt : Snd yX4_targetAt cX4_targetAt 2 (some .int) T_Roots_targetAt 0 0 0 := by
  refine snd_of (X := X_Roots_targetAt) (P := P_Roots_targetAt) (tb := tb_Roots_targetAt) (own := RX4) (by decide) rfl rfl (by decide +kernel) xok_Roots_targetAt rfl rk0 (fun h => by first | rfl | cases h) ?_
  intro as M k has hM hT0
  obtain ⟨sz, sl, lay, ρ, σ, τ⟩ := M
  obtain ⟨o, as1, e, hlo, hT1⟩ := mkT_r hT0
  clear hT0
  subst e
  obtain ⟨i, as2, e, hT2⟩ := pI_x hT1
  clear hT1
  subst e
  obtain ⟨e, hT⟩ := hT2
  subst e
  replace hlo : lay o = (14, 0) := hlo
  have r_i : -2147483648 ≤ i ∧ i ≤ 2147483647 := has (vI i) (by simp)
  clear has
  replace hM : ∀ a i, -2147483648 ≤ σ a i ∧ σ a i ≤ 2147483647 := hM
  replace hT : TF_Roots_targetAt o i sz sl lay ρ σ τ k := hT
  unfold TF_Roots_targetAt at hT
  obtain ⟨hR, hc, h1, h0⟩ := hT
  obtain ⟨rh, rp0, rp1, rq0, rq1⟩ := (show LRoots lay ρ _ from hR)
  refine ⟨Nat.le_of_ble_eq_true rfl, fun _ _ _ => False, fun _ _ _ => 0, 21, ?_, fun _ _ _ _ _ _ h => h.elim⟩
  unfold wps
  simp only [si_iload_n0, si_iload_n1, si_iload_n2, si_iload_n3, si_iload, si_lload_n0, si_lload_n1, si_lload_n2, si_lload_n3, si_lload, si_aload_n0, si_aload_n1, si_aload_n2, si_aload_n3, si_aload, si_istore_n0, si_istore_n1, si_istore_n2, si_istore_n3, si_istore, si_astore_n0, si_astore_n1, si_astore_n2, si_astore_n3, si_astore, si_lstore_n0, si_lstore_n1, si_lstore_n2, si_lstore_n3, si_lstore, si_iconst, si_bipush, si_sipush, si_ldc, si_ldc2_w, si_lconst0, si_lconst1, si_aconst_null, si_iinc, si_dup, si_dup2, si_iadd, si_isub, si_imul, si_idiv, si_irem, si_iand, si_ior, si_ishl, si_ishr, si_ladd, si_lmul, si_lor, si_lxor, si_lshl, si_lushr, si_lcmp, si_i2b, si_i2l, si_l2i, si_icmp_eq, si_icmp_ne, si_icmp_lt, si_icmp_ge, si_icmp_gt, si_icmp_le, si_if_eq, si_if_ne, si_if_lt, si_if_ge, si_if_gt, si_if_le, si_ifnull, si_ifnonnull, si_goto, si_tableswitch, si_lookupswitch, si_getfield, si_putfield, si_getstatic, si_iaload, si_baload, si_laload, si_aaload, si_iastore, si_bastore, si_lastore, si_aastore, si_arraylength, si_new, si_newarray, si_anewarray, si_invokevirtual, si_invokespecial, si_invokestatic, si_ireturn, si_lreturn, si_areturn, si_return_, pI_e, pL_e, pR_e, pA_r, pA_n, pN_n, pN_r, oI_e, oL_e, oA_r, oA_n, lget_e, lrm1_0, lrm2_0, lrm1_i, lrm1_r, lrm1_n, lrm1_l, lrm2_i, lrm2_r, lrm2_n, lrm2_l, popN_0, popN_s, acat_i, acat_l, acat_r, acat_n, stw_0, stw_s, psh_s, psh_n, wgf_r, wgf_i, wgf_b, wgf_n, wgf_m, wpf_i, wpf_r, wpf_b, wnew_e, callE_e, rbk_0, rbk_1, tsw_0, tsw_s, lsw_0, lsw_s, wp_s, wq_t, wq_f, oV_e, pick_0, pick_s, oZ_e, oY_e, r_Roots_targetAt_0, r_Roots_targetAt_1, r_Roots_targetAt_4, r_Roots_targetAt_5, r_Roots_targetAt_6, r_Roots_targetAt_9, r_Roots_targetAt_12, r_Roots_targetAt_13, r_Roots_targetAt_16, r_Roots_targetAt_17, r_Roots_targetAt_20, r_Roots_targetAt_21, r_Roots_targetAt_22, xf_Roots_targetAt_15, xf_Roots_targetAt_18, xd_Roots_targetAt, xrb_Roots_targetAt, xin_Roots_targetAt, rh, rp0, rp1, rq0, rq1, Nat.reduceAdd, Nat.reduceMul, Nat.reduceEqDiff, reduceIte, Int.reduceNeg, Int.reduceLE, Int.reduceLT, Int.reduceAdd, Int.reduceSub, Int.reduceToNat, true_and, and_true, inR_e, Nat.reduceLT, Nat.reduceLeDiff, reduceCtorEq, Nat.add_zero, Nat.zero_add, or_false, false_or, or_true, true_or, not_true_eq_false, not_false_eq_true, Classical.not_not, Nat.add_eq_zero_iff, and_false, false_and, Int.reduceEq, List.mem_cons, List.not_mem_nil, forall_eq_or_imp, forall_eq, false_implies, implies_true, forall_const, aargs_0, aargs_i, aargs_r, aargs_l, aargs_n, nfT_e, eq_self, and_self, Nat.le_refl, fu_s, fu_fu, iu_iu, iu_s, fu_am, fu_a0, fu_0a, iu_l, Nat.reduceBEq, Int.reduceBEq, T_objInit_e]
  repeat' (first | assumption | intro _ | apply And.intro)
  all_goals first | omega | assumption | (exact h1 (by omega)) | (exact h0 (by omega)) | (exact h1 ⟨by omega, by omega⟩) | (exact h0 ⟨by omega, by omega⟩) | (exact h1 ⟨by omega, by omega, by omega⟩) | (exact h0 ⟨by omega, by omega, by omega⟩)
theorem co_X4_100 : CallOK RX4 (.invokevirtual 25) (2, 2, 0, 0, T_Things_find) := call_V S_Things_find (by decide) (ci := 7) rfl (by decide +kernel) (by decide +kernel) (by decide +kernel) (by decide +kernel) (by decide +kernel) (by decide +kernel) T_Things_find_r
def TF_Roots_connect (o : Nat) (t : Nat) (sz sl : Nat) (lay : Nat → Nat × Int) (ρ : Nat → Int → Nat) (σ : Nat → Int → Int) (τ : Nat → Int → Int64) (k : Option AV → Mm → Prop) : Prop := LRoots lay ρ o ∧ (t + 13 ≤ o) ∧ (0 ≤ σ o 2 ∧ σ o 2 ≤ 100) ∧ σ o 3 = 0 ∧ LThings lay ρ t ∧ (0 ≤ σ t 12 ∧ σ t 12 ≤ 600) ∧ ThB σ t ∧ (∀ (f : Int → Int) (u : Int), (∀ i : Int, 0 ≤ i ∧ i < σ o 2 → f i = fxT σ t (σ (o + 1) i)) → u = cntZ (fun i => decide (fxT σ t (σ (o + 1) i) = -1)) (σ o 2).toNat → k none (sz, sl, lay, ρ, fu (fu σ (o + 2) f) o (iu (σ o) 3 u), τ))
def T_Roots_connect : Tr := mkT 4 fun o as M k => pR as fun t as => as = [] ∧ TF_Roots_connect o t M.1 M.2.1 M.2.2.1 M.2.2.2.1 M.2.2.2.2.1 M.2.2.2.2.2 k
theorem T_Roots_connect_e {o : Nat} {t : Nat} {sz sl : Nat} {lay : Nat → Nat × Int} {ρ : Nat → Int → Nat} {σ : Nat → Int → Int} {τ : Nat → Int → Int64} {k : Option AV → Mm → Prop} : T_Roots_connect [vR o, vR t] (sz, sl, lay, ρ, σ, τ) k = (lay o = (14, 0) ∧ TF_Roots_connect o t sz sl lay ρ σ τ k) := by simp [T_Roots_connect, mkT_e, pI_e, pR_e, pL_e]
theorem T_Roots_connect_r (as : List AV) (M : Mm) (k : Option AV → Mm → Prop) (h : T_Roots_connect as M k) : ∃ b As, as = vR b :: As ∧ M.2.2.1 b = (10 + 4, 0) := by
  obtain ⟨b, As, h1, h2, -⟩ := mkT_r h
  exact ⟨b, As, h1, h2⟩
def tb_Roots_connect : List (Nat × Option (List Nat) × Instr × List Nat) := [(0, none, .iconst 0, []), (1, none, .istore_n 2, []), (2, some [0, 1, 2], .iload_n 2, []), (3, none, .aload_n 0, []), (4, none, .getfield 18, []), (7, none, .if_icmp .ge 45, [52]), (10, none, .aload_n 0, []), (11, none, .getfield 15, []), (14, none, .iload_n 2, []), (15, none, .aload_n 1, []), (16, none, .aload_n 0, []), (17, none, .getfield 9, []), (20, none, .iload_n 2, []), (21, none, .iaload, []), (22, none, .invokevirtual 25, []), (25, none, .iastore, []), (26, none, .aload_n 0, []), (27, none, .getfield 15, []), (30, none, .iload_n 2, []), (31, none, .iaload, []), (32, none, .iconst (-1), []), (33, none, .if_icmp .ne 13, [46]), (36, none, .aload_n 0, []), (37, none, .dup, []), (38, none, .getfield 22, []), (41, none, .iconst 1, []), (42, none, .iadd, []), (43, none, .putfield 22, []), (46, none, .iinc 2 1, []), (49, none, .goto (-47), [2]), (52, none, .return_, [])]
def P_Roots_connect : Nat → Option (List Nat) × Instr × List Nat := plk tb_Roots_connect
theorem r_Roots_connect_0 : P_Roots_connect 0 = (none, .iconst 0, []) := by decide +kernel
theorem r_Roots_connect_1 : P_Roots_connect 1 = (none, .istore_n 2, []) := by decide +kernel
theorem r_Roots_connect_2 : P_Roots_connect 2 = (some [0, 1, 2], .iload_n 2, []) := by decide +kernel
theorem r_Roots_connect_3 : P_Roots_connect 3 = (none, .aload_n 0, []) := by decide +kernel
theorem r_Roots_connect_4 : P_Roots_connect 4 = (none, .getfield 18, []) := by decide +kernel
theorem r_Roots_connect_7 : P_Roots_connect 7 = (none, .if_icmp .ge 45, [52]) := by decide +kernel
theorem r_Roots_connect_10 : P_Roots_connect 10 = (none, .aload_n 0, []) := by decide +kernel
theorem r_Roots_connect_11 : P_Roots_connect 11 = (none, .getfield 15, []) := by decide +kernel
theorem r_Roots_connect_14 : P_Roots_connect 14 = (none, .iload_n 2, []) := by decide +kernel
theorem r_Roots_connect_15 : P_Roots_connect 15 = (none, .aload_n 1, []) := by decide +kernel
theorem r_Roots_connect_16 : P_Roots_connect 16 = (none, .aload_n 0, []) := by decide +kernel
theorem r_Roots_connect_17 : P_Roots_connect 17 = (none, .getfield 9, []) := by decide +kernel
theorem r_Roots_connect_20 : P_Roots_connect 20 = (none, .iload_n 2, []) := by decide +kernel
theorem r_Roots_connect_21 : P_Roots_connect 21 = (none, .iaload, []) := by decide +kernel
theorem r_Roots_connect_22 : P_Roots_connect 22 = (none, .invokevirtual 25, []) := by decide +kernel
theorem r_Roots_connect_25 : P_Roots_connect 25 = (none, .iastore, []) := by decide +kernel
theorem r_Roots_connect_26 : P_Roots_connect 26 = (none, .aload_n 0, []) := by decide +kernel
theorem r_Roots_connect_27 : P_Roots_connect 27 = (none, .getfield 15, []) := by decide +kernel
theorem r_Roots_connect_30 : P_Roots_connect 30 = (none, .iload_n 2, []) := by decide +kernel
theorem r_Roots_connect_31 : P_Roots_connect 31 = (none, .iaload, []) := by decide +kernel
theorem r_Roots_connect_32 : P_Roots_connect 32 = (none, .iconst (-1), []) := by decide +kernel
theorem r_Roots_connect_33 : P_Roots_connect 33 = (none, .if_icmp .ne 13, [46]) := by decide +kernel
theorem r_Roots_connect_36 : P_Roots_connect 36 = (none, .aload_n 0, []) := by decide +kernel
theorem r_Roots_connect_37 : P_Roots_connect 37 = (none, .dup, []) := by decide +kernel
theorem r_Roots_connect_38 : P_Roots_connect 38 = (none, .getfield 22, []) := by decide +kernel
theorem r_Roots_connect_41 : P_Roots_connect 41 = (none, .iconst 1, []) := by decide +kernel
theorem r_Roots_connect_42 : P_Roots_connect 42 = (none, .iadd, []) := by decide +kernel
theorem r_Roots_connect_43 : P_Roots_connect 43 = (none, .putfield 22, []) := by decide +kernel
theorem r_Roots_connect_46 : P_Roots_connect 46 = (none, .iinc 2 1, []) := by decide +kernel
theorem r_Roots_connect_49 : P_Roots_connect 49 = (none, .goto (-47), [2]) := by decide +kernel
theorem r_Roots_connect_52 : P_Roots_connect 52 = (none, .return_, []) := by decide +kernel
def E_Roots_connect : List (Nat × Ent) := [(100, (2, 2, 0, 0, T_Things_find))]
def X_Roots_connect : Cx := (llk (0, 0, 9) ftX4, llk 99 ntX4, llk none kcX4, llk none klX4, llk dEnt E_Roots_connect, 3, 3, false)
theorem xok_Roots_connect : Xok RX4 X_Roots_connect := xok_of ftX4_ok ntX4_ok kcX4_ok klX4_ok (E := E_Roots_connect) (List.forall_mem_cons.mpr ⟨co_X4_100, fun _ h => absurd h List.not_mem_nil⟩)
theorem xf_Roots_connect_9 : xfl X_Roots_connect 9 = (4, 0, 1) := by decide +kernel
theorem xf_Roots_connect_15 : xfl X_Roots_connect 15 = (4, 1, 1) := by decide +kernel
theorem xf_Roots_connect_18 : xfl X_Roots_connect 18 = (4, 2, 0) := by decide +kernel
theorem xf_Roots_connect_22 : xfl X_Roots_connect 22 = (4, 3, 0) := by decide +kernel
theorem xe_Roots_connect_100 : xE X_Roots_connect (4 * 25 + 0) = (2, 2, 0, 0, T_Things_find) := rfl
theorem xd_Roots_connect : xd X_Roots_connect = 3 := rfl
theorem xrb_Roots_connect : xrb X_Roots_connect = 3 := rfl
theorem xin_Roots_connect : xin X_Roots_connect = false := rfl
set_option maxHeartbeats 4000000 in
set_option maxRecDepth 100000 in
theorem S_Roots_connect : Snd yX4_connect cX4_connect 3 none T_Roots_connect 3 0 0 := by
  refine snd_of (X := X_Roots_connect) (P := P_Roots_connect) (tb := tb_Roots_connect) (own := RX4) (by decide) rfl rfl (by decide +kernel) xok_Roots_connect rfl rk3 (fun h => by first | rfl | cases h) ?_
  intro as M k has hM hT0
  obtain ⟨sz, sl, lay, ρ, σ, τ⟩ := M
  obtain ⟨o, as1, e, hlo, hT1⟩ := mkT_r hT0
  clear hT0
  subst e
  obtain ⟨t, as2, e, hT2⟩ := pR_x hT1
  clear hT1
  subst e
  obtain ⟨e, hT⟩ := hT2
  subst e
  replace hlo : lay o = (14, 0) := hlo
  clear has
  replace hM : ∀ a i, -2147483648 ≤ σ a i ∧ σ a i ≤ 2147483647 := hM
  replace hT : TF_Roots_connect o t sz sl lay ρ σ τ k := hT
  unfold TF_Roots_connect at hT
  obtain ⟨hR, hto, hc, hu, hL, hn, hB, hT⟩ := hT
  obtain ⟨rh, rp0, rp1, rq0, rq1⟩ := (show LRoots lay ρ _ from hR)
  obtain ⟨lh, lp0, lp1, lp2, lp3, lp4, lp5, lp6, lp7, lp8, lp9, lp10, lp11, lq0, lq1, lq2, lq3, lq4, lq5, lq6, lq7, lq8, lq9, lq10, lq11⟩ := (show LThings lay ρ _ from hL)
  obtain ⟨J, hJd⟩ : ∃ J : Nat → List AV → Mm → Prop, J = (fun c vs M1 => c = 2 ∧ ∃ (n : Nat) (f : Int → Int) (u : Int), n ≤ σ o 2 ∧ (∀ i : Int, 0 ≤ i ∧ i < n → f i = fxT σ t (σ (o + 1) i)) ∧ u = cntZ (fun i => decide (fxT σ t (σ (o + 1) i) = -1)) n ∧ vs = [vR o, vR t, vI n] ∧ M1 = (sz, sl, lay, ρ, fu (fu σ (o + 2) f) o (iu (σ o) 3 u), τ)) := ⟨_, rfl⟩
  obtain ⟨μ, hμ⟩ : ∃ μ : Nat → List AV → Mm → Nat, μ = (fun _ vs _ => (σ o 2 - gI (vs.getD 2 vN)).toNat) := ⟨_, rfl⟩
  refine ⟨Nat.le_of_ble_eq_true rfl, J, μ, 39, ?_, ?_⟩
  · unfold wps
    simp only [si_iload_n0, si_iload_n1, si_iload_n2, si_iload_n3, si_iload, si_lload_n0, si_lload_n1, si_lload_n2, si_lload_n3, si_lload, si_aload_n0, si_aload_n1, si_aload_n2, si_aload_n3, si_aload, si_istore_n0, si_istore_n1, si_istore_n2, si_istore_n3, si_istore, si_astore_n0, si_astore_n1, si_astore_n2, si_astore_n3, si_astore, si_lstore_n0, si_lstore_n1, si_lstore_n2, si_lstore_n3, si_lstore, si_iconst, si_bipush, si_sipush, si_ldc, si_ldc2_w, si_lconst0, si_lconst1, si_aconst_null, si_iinc, si_dup, si_dup2, si_iadd, si_isub, si_imul, si_idiv, si_irem, si_iand, si_ior, si_ishl, si_ishr, si_ladd, si_lmul, si_lor, si_lxor, si_lshl, si_lushr, si_lcmp, si_i2b, si_i2l, si_l2i, si_icmp_eq, si_icmp_ne, si_icmp_lt, si_icmp_ge, si_icmp_gt, si_icmp_le, si_if_eq, si_if_ne, si_if_lt, si_if_ge, si_if_gt, si_if_le, si_ifnull, si_ifnonnull, si_goto, si_tableswitch, si_lookupswitch, si_getfield, si_putfield, si_getstatic, si_iaload, si_baload, si_laload, si_aaload, si_iastore, si_bastore, si_lastore, si_aastore, si_arraylength, si_new, si_newarray, si_anewarray, si_invokevirtual, si_invokespecial, si_invokestatic, si_ireturn, si_lreturn, si_areturn, si_return_, pI_e, pL_e, pR_e, pA_r, pA_n, pN_n, pN_r, oI_e, oL_e, oA_r, oA_n, lget_e, lrm1_0, lrm2_0, lrm1_i, lrm1_r, lrm1_n, lrm1_l, lrm2_i, lrm2_r, lrm2_n, lrm2_l, popN_0, popN_s, acat_i, acat_l, acat_r, acat_n, stw_0, stw_s, psh_s, psh_n, wgf_r, wgf_i, wgf_b, wgf_n, wgf_m, wpf_i, wpf_r, wpf_b, wnew_e, callE_e, rbk_0, rbk_1, tsw_0, tsw_s, lsw_0, lsw_s, wp_s, wq_t, wq_f, oV_e, pick_0, pick_s, oZ_e, oY_e, r_Roots_connect_0, r_Roots_connect_1, r_Roots_connect_2, r_Roots_connect_3, r_Roots_connect_4, r_Roots_connect_7, r_Roots_connect_10, r_Roots_connect_11, r_Roots_connect_14, r_Roots_connect_15, r_Roots_connect_16, r_Roots_connect_17, r_Roots_connect_20, r_Roots_connect_21, r_Roots_connect_22, r_Roots_connect_25, r_Roots_connect_26, r_Roots_connect_27, r_Roots_connect_30, r_Roots_connect_31, r_Roots_connect_32, r_Roots_connect_33, r_Roots_connect_36, r_Roots_connect_37, r_Roots_connect_38, r_Roots_connect_41, r_Roots_connect_42, r_Roots_connect_43, r_Roots_connect_46, r_Roots_connect_49, r_Roots_connect_52, xf_Roots_connect_9, xf_Roots_connect_15, xf_Roots_connect_18, xf_Roots_connect_22, xe_Roots_connect_100, xd_Roots_connect, xrb_Roots_connect, xin_Roots_connect, T_Things_find_e, TF_Things_find, rh, rp0, rp1, rq0, rq1, lh, lp0, lp1, lp2, lp3, lp4, lp5, lp6, lp7, lp8, lp9, lp10, lp11, lq0, lq1, lq2, lq3, lq4, lq5, lq6, lq7, lq8, lq9, lq10, lq11, fu_f1, fu_f2, fu_f3, fu_f4, hto, Nat.reduceAdd, Nat.reduceMul, Nat.reduceEqDiff, reduceIte, Int.reduceNeg, Int.reduceLE, Int.reduceLT, Int.reduceAdd, Int.reduceSub, Int.reduceToNat, true_and, and_true, inR_e, Nat.reduceLT, Nat.reduceLeDiff, reduceCtorEq, Nat.add_zero, Nat.zero_add, or_false, false_or, or_true, true_or, not_true_eq_false, not_false_eq_true, Classical.not_not, Nat.add_eq_zero_iff, and_false, false_and, Int.reduceEq, List.mem_cons, List.not_mem_nil, forall_eq_or_imp, forall_eq, false_implies, implies_true, forall_const, aargs_0, aargs_i, aargs_r, aargs_l, aargs_n, nfT_e, eq_self, and_self, Nat.le_refl, fu_s, fu_fu, iu_iu, iu_s, fu_am, fu_a0, fu_0a, iu_l, Nat.reduceBEq, Int.reduceBEq, T_objInit_e]
    rw [hJd]
    refine ⟨rfl, 0, σ (o + 2), 0, by omega, (fun i hi => by omega), rfl, rfl, ?_⟩
    rw [fu_self, iu_self2 hu.symm, fu_self]
  · intro cp vs M1 hvs hM1 hlen hJ
    rw [hJd] at hJ
    obtain ⟨rfl, n, f, u, h1, h2, h3, rfl, rfl⟩ := hJ
    have hB2 : ThB (fu (fu σ (o + 2) f) o (iu (σ o) 3 u)) t := hB.cong (by simp only [fu_f3, fu_f4, hto]) (by simp only [fu_f1, fu_f2, hto, Nat.reduceLT]) (fun i hi => by simp only [fu_f1, fu_f2, hto, Nat.reduceLT])
    have hu1 := cntZ_R (fun i => decide (fxT σ t (σ (o + 1) i) = -1)) n
    have stepF : ∀ v, v = fxT σ t (σ (o + 1) n) → ∀ i : Int, 0 ≤ i ∧ i < ((n + 1 : Nat) : Int) → iu f n v i = fxT σ t (σ (o + 1) i) := by
      intro v hv i hi
      by_cases e : i = n
      · rw [e, iu_s, hv]
      · rw [iu_n e]; exact h2 i (by omega)
    unfold wps
    simp only [Option.getD_some, List.zip_cons_cons, List.zip_nil_left, List.zip_nil_right, List.zip_nil_right, si_iload_n0, si_iload_n1, si_iload_n2, si_iload_n3, si_iload, si_lload_n0, si_lload_n1, si_lload_n2, si_lload_n3, si_lload, si_aload_n0, si_aload_n1, si_aload_n2, si_aload_n3, si_aload, si_istore_n0, si_istore_n1, si_istore_n2, si_istore_n3, si_istore, si_astore_n0, si_astore_n1, si_astore_n2, si_astore_n3, si_astore, si_lstore_n0, si_lstore_n1, si_lstore_n2, si_lstore_n3, si_lstore, si_iconst, si_bipush, si_sipush, si_ldc, si_ldc2_w, si_lconst0, si_lconst1, si_aconst_null, si_iinc, si_dup, si_dup2, si_iadd, si_isub, si_imul, si_idiv, si_irem, si_iand, si_ior, si_ishl, si_ishr, si_ladd, si_lmul, si_lor, si_lxor, si_lshl, si_lushr, si_lcmp, si_i2b, si_i2l, si_l2i, si_icmp_eq, si_icmp_ne, si_icmp_lt, si_icmp_ge, si_icmp_gt, si_icmp_le, si_if_eq, si_if_ne, si_if_lt, si_if_ge, si_if_gt, si_if_le, si_ifnull, si_ifnonnull, si_goto, si_tableswitch, si_lookupswitch, si_getfield, si_putfield, si_getstatic, si_iaload, si_baload, si_laload, si_aaload, si_iastore, si_bastore, si_lastore, si_aastore, si_arraylength, si_new, si_newarray, si_anewarray, si_invokevirtual, si_invokespecial, si_invokestatic, si_ireturn, si_lreturn, si_areturn, si_return_, pI_e, pL_e, pR_e, pA_r, pA_n, pN_n, pN_r, oI_e, oL_e, oA_r, oA_n, lget_e, lrm1_0, lrm2_0, lrm1_i, lrm1_r, lrm1_n, lrm1_l, lrm2_i, lrm2_r, lrm2_n, lrm2_l, popN_0, popN_s, acat_i, acat_l, acat_r, acat_n, stw_0, stw_s, psh_s, psh_n, wgf_r, wgf_i, wgf_b, wgf_n, wgf_m, wpf_i, wpf_r, wpf_b, wnew_e, callE_e, rbk_0, rbk_1, tsw_0, tsw_s, lsw_0, lsw_s, wp_s, wq_t, wq_f, oV_e, pick_0, pick_s, oZ_e, oY_e, r_Roots_connect_0, r_Roots_connect_1, r_Roots_connect_2, r_Roots_connect_3, r_Roots_connect_4, r_Roots_connect_7, r_Roots_connect_10, r_Roots_connect_11, r_Roots_connect_14, r_Roots_connect_15, r_Roots_connect_16, r_Roots_connect_17, r_Roots_connect_20, r_Roots_connect_21, r_Roots_connect_22, r_Roots_connect_25, r_Roots_connect_26, r_Roots_connect_27, r_Roots_connect_30, r_Roots_connect_31, r_Roots_connect_32, r_Roots_connect_33, r_Roots_connect_36, r_Roots_connect_37, r_Roots_connect_38, r_Roots_connect_41, r_Roots_connect_42, r_Roots_connect_43, r_Roots_connect_46, r_Roots_connect_49, r_Roots_connect_52, xf_Roots_connect_9, xf_Roots_connect_15, xf_Roots_connect_18, xf_Roots_connect_22, xe_Roots_connect_100, xd_Roots_connect, xrb_Roots_connect, xin_Roots_connect, T_Things_find_e, TF_Things_find, rh, rp0, rp1, rq0, rq1, lh, lp0, lp1, lp2, lp3, lp4, lp5, lp6, lp7, lp8, lp9, lp10, lp11, lq0, lq1, lq2, lq3, lq4, lq5, lq6, lq7, lq8, lq9, lq10, lq11, fu_f1, fu_f2, fu_f3, fu_f4, hto, Nat.reduceAdd, Nat.reduceMul, Nat.reduceEqDiff, reduceIte, Int.reduceNeg, Int.reduceLE, Int.reduceLT, Int.reduceAdd, Int.reduceSub, Int.reduceToNat, true_and, and_true, inR_e, Nat.reduceLT, Nat.reduceLeDiff, reduceCtorEq, Nat.add_zero, Nat.zero_add, or_false, false_or, or_true, true_or, not_true_eq_false, not_false_eq_true, Classical.not_not, Nat.add_eq_zero_iff, and_false, false_and, Int.reduceEq, List.mem_cons, List.not_mem_nil, forall_eq_or_imp, forall_eq, false_implies, implies_true, forall_const, aargs_0, aargs_i, aargs_r, aargs_l, aargs_n, nfT_e, eq_self, and_self, Nat.le_refl, fu_s, fu_fu, iu_iu, iu_s, fu_am, fu_a0, fu_0a, iu_l, Nat.reduceBEq, Int.reduceBEq, T_objInit_e]
    refine ⟨fun h => ?_, fun h => ⟨by omega, by omega, hL, hn, hB2, fun i hi => ⟨by omega, by omega, by omega, by omega, fun b => ?_, fun b => absurd b (by omega)⟩, fun hno => ⟨by omega, by omega, by omega, by omega, ?_⟩⟩⟩
    · refine hT f u (fun i hi => h2 i (by omega)) ?_
      rw [show (σ o 2).toNat = n by omega]; exact h3
    · have ht : fxT σ t (σ (o + 1) n) = i := hB.fx hn.1 hi.1 hi.2
      refine ⟨by omega, ?_, (by rw [hμ]; simp only [gI_e, List.getD_cons_succ, List.getD_cons_zero]; omega)⟩
      rw [hJd]
      refine ⟨rfl, n + 1, iu f n i, u, by omega, stepF i ht.symm, ?_, rfl, ?_⟩
      · rw [cntZ_f (by simp [ht]; omega)]
        exact h3
      · rw [fu_comm (show o ≠ o + 2 by omega), fu_fu]
    · have ht : fxT σ t (σ (o + 1) n) = -1 := fxT_none hn.1 hno
      refine ⟨by omega, by omega, ?_, (by rw [hμ]; simp only [gI_e, List.getD_cons_succ, List.getD_cons_zero]; omega)⟩
      rw [hJd]
      refine ⟨rfl, n + 1, iu f n (-1), u + 1, by omega, stepF (-1) ht.symm, ?_, rfl, ?_⟩
      · rw [cntZ_t (by simp [ht]), h3]
      · rw [fu_comm (show o ≠ o + 2 by omega), fu_fu, fu_fu]
def TF_Spread_size (o : Nat) (sz sl : Nat) (lay : Nat → Nat × Int) (ρ : Nat → Int → Nat) (σ : Nat → Int → Int) (τ : Nat → Int → Int64) (k : Option AV → Mm → Prop) : Prop := k (some (vI (σ o 3))) (sz, sl, lay, ρ, σ, τ)
def T_Spread_size : Tr := mkT 5 fun o as M k => as = [] ∧ TF_Spread_size o M.1 M.2.1 M.2.2.1 M.2.2.2.1 M.2.2.2.2.1 M.2.2.2.2.2 k
theorem T_Spread_size_e {o : Nat} {sz sl : Nat} {lay : Nat → Nat × Int} {ρ : Nat → Int → Nat} {σ : Nat → Int → Int} {τ : Nat → Int → Int64} {k : Option AV → Mm → Prop} : T_Spread_size [vR o] (sz, sl, lay, ρ, σ, τ) k = (lay o = (15, 0) ∧ TF_Spread_size o sz sl lay ρ σ τ k) := by simp [T_Spread_size, mkT_e, pI_e, pR_e, pL_e]
theorem T_Spread_size_r (as : List AV) (M : Mm) (k : Option AV → Mm → Prop) (h : T_Spread_size as M k) : ∃ b As, as = vR b :: As ∧ M.2.2.1 b = (10 + 5, 0) := by
  obtain ⟨b, As, h1, h2, -⟩ := mkT_r h
  exact ⟨b, As, h1, h2⟩
def tb_Spread_size : List (Nat × Option (List Nat) × Instr × List Nat) := [(0, none, .aload_n 0, []), (1, none, .getfield 21, []), (4, none, .ireturn, [])]
def P_Spread_size : Nat → Option (List Nat) × Instr × List Nat := plk tb_Spread_size
theorem r_Spread_size_0 : P_Spread_size 0 = (none, .aload_n 0, []) := by decide +kernel
theorem r_Spread_size_1 : P_Spread_size 1 = (none, .getfield 21, []) := by decide +kernel
theorem r_Spread_size_4 : P_Spread_size 4 = (none, .ireturn, []) := by decide +kernel
def E_Spread_size : List (Nat × Ent) := []
def X_Spread_size : Cx := (llk (0, 0, 9) ftX5, llk 99 ntX5, llk none kcX5, llk none klX5, llk dEnt E_Spread_size, 0, 0, false)
theorem xok_Spread_size : Xok RX5 X_Spread_size := xok_of ftX5_ok ntX5_ok kcX5_ok klX5_ok (E := E_Spread_size) (fun _ h => absurd h List.not_mem_nil)
theorem xf_Spread_size_21 : xfl X_Spread_size 21 = (5, 3, 0) := by decide +kernel
theorem xd_Spread_size : xd X_Spread_size = 0 := rfl
theorem xrb_Spread_size : xrb X_Spread_size = 0 := rfl
theorem xin_Spread_size : xin X_Spread_size = false := rfl
set_option maxHeartbeats 4000000 in
set_option maxRecDepth 100000 in
theorem S_Spread_size : Snd yX5_size cX5_size 1 (some .int) T_Spread_size 0 0 0 := by
  refine snd_of (X := X_Spread_size) (P := P_Spread_size) (tb := tb_Spread_size) (own := RX5) (by decide) rfl rfl (by decide +kernel) xok_Spread_size rfl rk0 (fun h => by first | rfl | cases h) ?_
  intro as M k has hM hT0
  obtain ⟨sz, sl, lay, ρ, σ, τ⟩ := M
  obtain ⟨o, as1, e, hlo, hT1⟩ := mkT_r hT0
  clear hT0
  subst e
  obtain ⟨e, hT⟩ := hT1
  subst e
  replace hlo : lay o = (15, 0) := hlo
  clear has
  replace hM : ∀ a i, -2147483648 ≤ σ a i ∧ σ a i ≤ 2147483647 := hM
  replace hT : TF_Spread_size o sz sl lay ρ σ τ k := hT
  unfold TF_Spread_size at hT
  refine ⟨Nat.le_of_ble_eq_true rfl, fun _ _ _ => False, fun _ _ _ => 0, 11, ?_, fun _ _ _ _ _ _ h => h.elim⟩
  unfold wps
  simp only [si_iload_n0, si_iload_n1, si_iload_n2, si_iload_n3, si_iload, si_lload_n0, si_lload_n1, si_lload_n2, si_lload_n3, si_lload, si_aload_n0, si_aload_n1, si_aload_n2, si_aload_n3, si_aload, si_istore_n0, si_istore_n1, si_istore_n2, si_istore_n3, si_istore, si_astore_n0, si_astore_n1, si_astore_n2, si_astore_n3, si_astore, si_lstore_n0, si_lstore_n1, si_lstore_n2, si_lstore_n3, si_lstore, si_iconst, si_bipush, si_sipush, si_ldc, si_ldc2_w, si_lconst0, si_lconst1, si_aconst_null, si_iinc, si_dup, si_dup2, si_iadd, si_isub, si_imul, si_idiv, si_irem, si_iand, si_ior, si_ishl, si_ishr, si_ladd, si_lmul, si_lor, si_lxor, si_lshl, si_lushr, si_lcmp, si_i2b, si_i2l, si_l2i, si_icmp_eq, si_icmp_ne, si_icmp_lt, si_icmp_ge, si_icmp_gt, si_icmp_le, si_if_eq, si_if_ne, si_if_lt, si_if_ge, si_if_gt, si_if_le, si_ifnull, si_ifnonnull, si_goto, si_tableswitch, si_lookupswitch, si_getfield, si_putfield, si_getstatic, si_iaload, si_baload, si_laload, si_aaload, si_iastore, si_bastore, si_lastore, si_aastore, si_arraylength, si_new, si_newarray, si_anewarray, si_invokevirtual, si_invokespecial, si_invokestatic, si_ireturn, si_lreturn, si_areturn, si_return_, pI_e, pL_e, pR_e, pA_r, pA_n, pN_n, pN_r, oI_e, oL_e, oA_r, oA_n, lget_e, lrm1_0, lrm2_0, lrm1_i, lrm1_r, lrm1_n, lrm1_l, lrm2_i, lrm2_r, lrm2_n, lrm2_l, popN_0, popN_s, acat_i, acat_l, acat_r, acat_n, stw_0, stw_s, psh_s, psh_n, wgf_r, wgf_i, wgf_b, wgf_n, wgf_m, wpf_i, wpf_r, wpf_b, wnew_e, callE_e, rbk_0, rbk_1, tsw_0, tsw_s, lsw_0, lsw_s, wp_s, wq_t, wq_f, oV_e, pick_0, pick_s, oZ_e, oY_e, r_Spread_size_0, r_Spread_size_1, r_Spread_size_4, xf_Spread_size_21, xd_Spread_size, xrb_Spread_size, xin_Spread_size, Nat.reduceAdd, Nat.reduceMul, Nat.reduceEqDiff, reduceIte, Int.reduceNeg, Int.reduceLE, Int.reduceLT, Int.reduceAdd, Int.reduceSub, Int.reduceToNat, true_and, and_true, inR_e, Nat.reduceLT, Nat.reduceLeDiff, reduceCtorEq, Nat.add_zero, Nat.zero_add, or_false, false_or, or_true, true_or, not_true_eq_false, not_false_eq_true, Classical.not_not, Nat.add_eq_zero_iff, and_false, false_and, Int.reduceEq, List.mem_cons, List.not_mem_nil, forall_eq_or_imp, forall_eq, false_implies, implies_true, forall_const, aargs_0, aargs_i, aargs_r, aargs_l, aargs_n, nfT_e, eq_self, and_self, Nat.le_refl, fu_s, fu_fu, iu_iu, iu_s, fu_am, fu_a0, fu_0a, iu_l, Nat.reduceBEq, Int.reduceBEq, T_objInit_e]
  exact ⟨hlo, hT⟩
def TF_Spread_idAt (o : Nat) (i : Int) (sz sl : Nat) (lay : Nat → Nat × Int) (ρ : Nat → Int → Nat) (σ : Nat → Int → Int) (τ : Nat → Int → Int64) (k : Option AV → Mm → Prop) : Prop := LSpread lay ρ o ∧ (0 ≤ σ o 3 ∧ σ o 3 ≤ 600) ∧ (0 ≤ i ∧ i < σ o 3 → k (some (vI (σ (o + 1) i))) (sz, sl, lay, ρ, σ, τ)) ∧ (¬ (0 ≤ i ∧ i < σ o 3) → k (some (vI (-1))) (sz, sl, lay, ρ, σ, τ))
def T_Spread_idAt : Tr := mkT 5 fun o as M k => pI as fun i as => as = [] ∧ TF_Spread_idAt o i M.1 M.2.1 M.2.2.1 M.2.2.2.1 M.2.2.2.2.1 M.2.2.2.2.2 k
theorem T_Spread_idAt_e {o : Nat} {i : Int} {sz sl : Nat} {lay : Nat → Nat × Int} {ρ : Nat → Int → Nat} {σ : Nat → Int → Int} {τ : Nat → Int → Int64} {k : Option AV → Mm → Prop} : T_Spread_idAt [vR o, vI i] (sz, sl, lay, ρ, σ, τ) k = (lay o = (15, 0) ∧ TF_Spread_idAt o i sz sl lay ρ σ τ k) := by simp [T_Spread_idAt, mkT_e, pI_e, pR_e, pL_e]
theorem T_Spread_idAt_r (as : List AV) (M : Mm) (k : Option AV → Mm → Prop) (h : T_Spread_idAt as M k) : ∃ b As, as = vR b :: As ∧ M.2.2.1 b = (10 + 5, 0) := by
  obtain ⟨b, As, h1, h2, -⟩ := mkT_r h
  exact ⟨b, As, h1, h2⟩
def tb_Spread_idAt : List (Nat × Option (List Nat) × Instr × List Nat) := [(0, none, .iload_n 1, []), (1, none, .ifCond .lt 11, [12]), (4, none, .iload_n 1, []), (5, none, .aload_n 0, []), (6, none, .getfield 21, []), (9, none, .if_icmp .lt 7, [16]), (12, none, .iconst (-1), []), (13, none, .goto 9, [22]), (16, none, .aload_n 0, []), (17, none, .getfield 9, []), (20, none, .iload_n 1, []), (21, none, .iaload, []), (22, none, .ireturn, [])]
def P_Spread_idAt : Nat → Option (List Nat) × Instr × List Nat := plk tb_Spread_idAt
theorem r_Spread_idAt_0 : P_Spread_idAt 0 = (none, .iload_n 1, []) := by decide +kernel
theorem r_Spread_idAt_1 : P_Spread_idAt 1 = (none, .ifCond .lt 11, [12]) := by decide +kernel
theorem r_Spread_idAt_4 : P_Spread_idAt 4 = (none, .iload_n 1, []) := by decide +kernel
theorem r_Spread_idAt_5 : P_Spread_idAt 5 = (none, .aload_n 0, []) := by decide +kernel
theorem r_Spread_idAt_6 : P_Spread_idAt 6 = (none, .getfield 21, []) := by decide +kernel
theorem r_Spread_idAt_9 : P_Spread_idAt 9 = (none, .if_icmp .lt 7, [16]) := by decide +kernel
theorem r_Spread_idAt_12 : P_Spread_idAt 12 = (none, .iconst (-1), []) := by decide +kernel
theorem r_Spread_idAt_13 : P_Spread_idAt 13 = (none, .goto 9, [22]) := by decide +kernel
theorem r_Spread_idAt_16 : P_Spread_idAt 16 = (none, .aload_n 0, []) := by decide +kernel
theorem r_Spread_idAt_17 : P_Spread_idAt 17 = (none, .getfield 9, []) := by decide +kernel
theorem r_Spread_idAt_20 : P_Spread_idAt 20 = (none, .iload_n 1, []) := by decide +kernel
theorem r_Spread_idAt_21 : P_Spread_idAt 21 = (none, .iaload, []) := by decide +kernel
theorem r_Spread_idAt_22 : P_Spread_idAt 22 = (none, .ireturn, []) := by decide +kernel
def E_Spread_idAt : List (Nat × Ent) := []
def X_Spread_idAt : Cx := (llk (0, 0, 9) ftX5, llk 99 ntX5, llk none kcX5, llk none klX5, llk dEnt E_Spread_idAt, 0, 0, false)
theorem xok_Spread_idAt : Xok RX5 X_Spread_idAt := xok_of ftX5_ok ntX5_ok kcX5_ok klX5_ok (E := E_Spread_idAt) (fun _ h => absurd h List.not_mem_nil)
theorem xf_Spread_idAt_9 : xfl X_Spread_idAt 9 = (5, 0, 1) := by decide +kernel
theorem xf_Spread_idAt_21 : xfl X_Spread_idAt 21 = (5, 3, 0) := by decide +kernel
theorem xd_Spread_idAt : xd X_Spread_idAt = 0 := rfl
theorem xrb_Spread_idAt : xrb X_Spread_idAt = 0 := rfl
theorem xin_Spread_idAt : xin X_Spread_idAt = false := rfl
set_option maxHeartbeats 4000000 in
set_option maxRecDepth 100000 in
theorem S_Spread_idAt : Snd yX5_idAt cX5_idAt 2 (some .int) T_Spread_idAt 0 0 0 := by
  refine snd_of (X := X_Spread_idAt) (P := P_Spread_idAt) (tb := tb_Spread_idAt) (own := RX5) (by decide) rfl rfl (by decide +kernel) xok_Spread_idAt rfl rk0 (fun h => by first | rfl | cases h) ?_
  intro as M k has hM hT0
  obtain ⟨sz, sl, lay, ρ, σ, τ⟩ := M
  obtain ⟨o, as1, e, hlo, hT1⟩ := mkT_r hT0
  clear hT0
  subst e
  obtain ⟨i, as2, e, hT2⟩ := pI_x hT1
  clear hT1
  subst e
  obtain ⟨e, hT⟩ := hT2
  subst e
  replace hlo : lay o = (15, 0) := hlo
  have r_i : -2147483648 ≤ i ∧ i ≤ 2147483647 := has (vI i) (by simp)
  clear has
  replace hM : ∀ a i, -2147483648 ≤ σ a i ∧ σ a i ≤ 2147483647 := hM
  replace hT : TF_Spread_idAt o i sz sl lay ρ σ τ k := hT
  unfold TF_Spread_idAt at hT
  obtain ⟨hL, hc, h1, h0⟩ := hT
  obtain ⟨lh, lp0, lp1, lp2, lq0, lq1, lq2⟩ := (show LSpread lay ρ _ from hL)
  refine ⟨Nat.le_of_ble_eq_true rfl, fun _ _ _ => False, fun _ _ _ => 0, 21, ?_, fun _ _ _ _ _ _ h => h.elim⟩
  unfold wps
  simp only [si_iload_n0, si_iload_n1, si_iload_n2, si_iload_n3, si_iload, si_lload_n0, si_lload_n1, si_lload_n2, si_lload_n3, si_lload, si_aload_n0, si_aload_n1, si_aload_n2, si_aload_n3, si_aload, si_istore_n0, si_istore_n1, si_istore_n2, si_istore_n3, si_istore, si_astore_n0, si_astore_n1, si_astore_n2, si_astore_n3, si_astore, si_lstore_n0, si_lstore_n1, si_lstore_n2, si_lstore_n3, si_lstore, si_iconst, si_bipush, si_sipush, si_ldc, si_ldc2_w, si_lconst0, si_lconst1, si_aconst_null, si_iinc, si_dup, si_dup2, si_iadd, si_isub, si_imul, si_idiv, si_irem, si_iand, si_ior, si_ishl, si_ishr, si_ladd, si_lmul, si_lor, si_lxor, si_lshl, si_lushr, si_lcmp, si_i2b, si_i2l, si_l2i, si_icmp_eq, si_icmp_ne, si_icmp_lt, si_icmp_ge, si_icmp_gt, si_icmp_le, si_if_eq, si_if_ne, si_if_lt, si_if_ge, si_if_gt, si_if_le, si_ifnull, si_ifnonnull, si_goto, si_tableswitch, si_lookupswitch, si_getfield, si_putfield, si_getstatic, si_iaload, si_baload, si_laload, si_aaload, si_iastore, si_bastore, si_lastore, si_aastore, si_arraylength, si_new, si_newarray, si_anewarray, si_invokevirtual, si_invokespecial, si_invokestatic, si_ireturn, si_lreturn, si_areturn, si_return_, pI_e, pL_e, pR_e, pA_r, pA_n, pN_n, pN_r, oI_e, oL_e, oA_r, oA_n, lget_e, lrm1_0, lrm2_0, lrm1_i, lrm1_r, lrm1_n, lrm1_l, lrm2_i, lrm2_r, lrm2_n, lrm2_l, popN_0, popN_s, acat_i, acat_l, acat_r, acat_n, stw_0, stw_s, psh_s, psh_n, wgf_r, wgf_i, wgf_b, wgf_n, wgf_m, wpf_i, wpf_r, wpf_b, wnew_e, callE_e, rbk_0, rbk_1, tsw_0, tsw_s, lsw_0, lsw_s, wp_s, wq_t, wq_f, oV_e, pick_0, pick_s, oZ_e, oY_e, r_Spread_idAt_0, r_Spread_idAt_1, r_Spread_idAt_4, r_Spread_idAt_5, r_Spread_idAt_6, r_Spread_idAt_9, r_Spread_idAt_12, r_Spread_idAt_13, r_Spread_idAt_16, r_Spread_idAt_17, r_Spread_idAt_20, r_Spread_idAt_21, r_Spread_idAt_22, xf_Spread_idAt_9, xf_Spread_idAt_21, xd_Spread_idAt, xrb_Spread_idAt, xin_Spread_idAt, lh, lp0, lp1, lp2, lq0, lq1, lq2, Nat.reduceAdd, Nat.reduceMul, Nat.reduceEqDiff, reduceIte, Int.reduceNeg, Int.reduceLE, Int.reduceLT, Int.reduceAdd, Int.reduceSub, Int.reduceToNat, true_and, and_true, inR_e, Nat.reduceLT, Nat.reduceLeDiff, reduceCtorEq, Nat.add_zero, Nat.zero_add, or_false, false_or, or_true, true_or, not_true_eq_false, not_false_eq_true, Classical.not_not, Nat.add_eq_zero_iff, and_false, false_and, Int.reduceEq, List.mem_cons, List.not_mem_nil, forall_eq_or_imp, forall_eq, false_implies, implies_true, forall_const, aargs_0, aargs_i, aargs_r, aargs_l, aargs_n, nfT_e, eq_self, and_self, Nat.le_refl, fu_s, fu_fu, iu_iu, iu_s, fu_am, fu_a0, fu_0a, iu_l, Nat.reduceBEq, Int.reduceBEq, T_objInit_e]
  repeat' (first | assumption | intro _ | apply And.intro)
  all_goals first | omega | assumption | (exact h1 (by omega)) | (exact h0 (by omega)) | (exact h1 ⟨by omega, by omega⟩) | (exact h0 ⟨by omega, by omega⟩) | (exact h1 ⟨by omega, by omega, by omega⟩) | (exact h0 ⟨by omega, by omega, by omega⟩)
theorem co_X5_250 : CallOK RX5 (.invokestatic 62) (1, 0, 0, 0, T_PR_isId) := call_S S_PR_isId (by decide) (by decide +kernel) (Or.inr (by decide +kernel)) (by decide +kernel) (by decide +kernel) (by decide +kernel)
def TF_Spread_distanceOf (o : Nat) (i : Int) (sz sl : Nat) (lay : Nat → Nat × Int) (ρ : Nat → Int → Nat) (σ : Nat → Int → Int) (τ : Nat → Int → Int64) (k : Option AV → Mm → Prop) : Prop := LSpread lay ρ o ∧ (0 ≤ i ∧ i < 600 → k (some (vI (σ (o + 2) i))) (sz, sl, lay, ρ, σ, τ)) ∧ (¬ (0 ≤ i ∧ i < 600) → k (some (vI (-1))) (sz, sl, lay, ρ, σ, τ))
def T_Spread_distanceOf : Tr := mkT 5 fun o as M k => pI as fun i as => as = [] ∧ TF_Spread_distanceOf o i M.1 M.2.1 M.2.2.1 M.2.2.2.1 M.2.2.2.2.1 M.2.2.2.2.2 k
theorem T_Spread_distanceOf_e {o : Nat} {i : Int} {sz sl : Nat} {lay : Nat → Nat × Int} {ρ : Nat → Int → Nat} {σ : Nat → Int → Int} {τ : Nat → Int → Int64} {k : Option AV → Mm → Prop} : T_Spread_distanceOf [vR o, vI i] (sz, sl, lay, ρ, σ, τ) k = (lay o = (15, 0) ∧ TF_Spread_distanceOf o i sz sl lay ρ σ τ k) := by simp [T_Spread_distanceOf, mkT_e, pI_e, pR_e, pL_e]
theorem T_Spread_distanceOf_r (as : List AV) (M : Mm) (k : Option AV → Mm → Prop) (h : T_Spread_distanceOf as M k) : ∃ b As, as = vR b :: As ∧ M.2.2.1 b = (10 + 5, 0) := by
  obtain ⟨b, As, h1, h2, -⟩ := mkT_r h
  exact ⟨b, As, h1, h2⟩
def tb_Spread_distanceOf : List (Nat × Option (List Nat) × Instr × List Nat) := [(0, none, .iload_n 1, []), (1, none, .invokestatic 62, []), (4, none, .ifCond .eq 12, [16]), (7, none, .aload_n 0, []), (8, none, .getfield 15, []), (11, none, .iload_n 1, []), (12, none, .iaload, []), (13, none, .goto 4, [17]), (16, none, .iconst (-1), []), (17, none, .ireturn, [])]
def P_Spread_distanceOf : Nat → Option (List Nat) × Instr × List Nat := plk tb_Spread_distanceOf
theorem r_Spread_distanceOf_0 : P_Spread_distanceOf 0 = (none, .iload_n 1, []) := by decide +kernel
theorem r_Spread_distanceOf_1 : P_Spread_distanceOf 1 = (none, .invokestatic 62, []) := by decide +kernel
theorem r_Spread_distanceOf_4 : P_Spread_distanceOf 4 = (none, .ifCond .eq 12, [16]) := by decide +kernel
theorem r_Spread_distanceOf_7 : P_Spread_distanceOf 7 = (none, .aload_n 0, []) := by decide +kernel
theorem r_Spread_distanceOf_8 : P_Spread_distanceOf 8 = (none, .getfield 15, []) := by decide +kernel
theorem r_Spread_distanceOf_11 : P_Spread_distanceOf 11 = (none, .iload_n 1, []) := by decide +kernel
theorem r_Spread_distanceOf_12 : P_Spread_distanceOf 12 = (none, .iaload, []) := by decide +kernel
theorem r_Spread_distanceOf_13 : P_Spread_distanceOf 13 = (none, .goto 4, [17]) := by decide +kernel
theorem r_Spread_distanceOf_16 : P_Spread_distanceOf 16 = (none, .iconst (-1), []) := by decide +kernel
theorem r_Spread_distanceOf_17 : P_Spread_distanceOf 17 = (none, .ireturn, []) := by decide +kernel
def E_Spread_distanceOf : List (Nat × Ent) := [(250, (1, 0, 0, 0, T_PR_isId))]
def X_Spread_distanceOf : Cx := (llk (0, 0, 9) ftX5, llk 99 ntX5, llk none kcX5, llk none klX5, llk dEnt E_Spread_distanceOf, 1, 0, false)
theorem xok_Spread_distanceOf : Xok RX5 X_Spread_distanceOf := xok_of ftX5_ok ntX5_ok kcX5_ok klX5_ok (E := E_Spread_distanceOf) (List.forall_mem_cons.mpr ⟨co_X5_250, fun _ h => absurd h List.not_mem_nil⟩)
theorem xf_Spread_distanceOf_15 : xfl X_Spread_distanceOf 15 = (5, 1, 1) := by decide +kernel
theorem xe_Spread_distanceOf_250 : xE X_Spread_distanceOf (4 * 62 + 2) = (1, 0, 0, 0, T_PR_isId) := rfl
theorem xd_Spread_distanceOf : xd X_Spread_distanceOf = 1 := rfl
theorem xrb_Spread_distanceOf : xrb X_Spread_distanceOf = 0 := rfl
theorem xin_Spread_distanceOf : xin X_Spread_distanceOf = false := rfl
set_option maxHeartbeats 4000000 in
set_option maxRecDepth 100000 in
theorem S_Spread_distanceOf : Snd yX5_distanceOf cX5_distanceOf 2 (some .int) T_Spread_distanceOf 1 0 0 := by
  refine snd_of (X := X_Spread_distanceOf) (P := P_Spread_distanceOf) (tb := tb_Spread_distanceOf) (own := RX5) (by decide) rfl rfl (by decide +kernel) xok_Spread_distanceOf rfl rk0 (fun h => by first | rfl | cases h) ?_
  intro as M k has hM hT0
  obtain ⟨sz, sl, lay, ρ, σ, τ⟩ := M
  obtain ⟨o, as1, e, hlo, hT1⟩ := mkT_r hT0
  clear hT0
  subst e
  obtain ⟨i, as2, e, hT2⟩ := pI_x hT1
  clear hT1
  subst e
  obtain ⟨e, hT⟩ := hT2
  subst e
  replace hlo : lay o = (15, 0) := hlo
  have r_i : -2147483648 ≤ i ∧ i ≤ 2147483647 := has (vI i) (by simp)
  clear has
  replace hM : ∀ a i, -2147483648 ≤ σ a i ∧ σ a i ≤ 2147483647 := hM
  replace hT : TF_Spread_distanceOf o i sz sl lay ρ σ τ k := hT
  unfold TF_Spread_distanceOf at hT
  obtain ⟨hL, h1, h0⟩ := hT
  obtain ⟨lh, lp0, lp1, lp2, lq0, lq1, lq2⟩ := (show LSpread lay ρ _ from hL)
  refine ⟨Nat.le_of_ble_eq_true rfl, fun _ _ _ => False, fun _ _ _ => 0, 18, ?_, fun _ _ _ _ _ _ h => h.elim⟩
  unfold wps
  simp only [si_iload_n0, si_iload_n1, si_iload_n2, si_iload_n3, si_iload, si_lload_n0, si_lload_n1, si_lload_n2, si_lload_n3, si_lload, si_aload_n0, si_aload_n1, si_aload_n2, si_aload_n3, si_aload, si_istore_n0, si_istore_n1, si_istore_n2, si_istore_n3, si_istore, si_astore_n0, si_astore_n1, si_astore_n2, si_astore_n3, si_astore, si_lstore_n0, si_lstore_n1, si_lstore_n2, si_lstore_n3, si_lstore, si_iconst, si_bipush, si_sipush, si_ldc, si_ldc2_w, si_lconst0, si_lconst1, si_aconst_null, si_iinc, si_dup, si_dup2, si_iadd, si_isub, si_imul, si_idiv, si_irem, si_iand, si_ior, si_ishl, si_ishr, si_ladd, si_lmul, si_lor, si_lxor, si_lshl, si_lushr, si_lcmp, si_i2b, si_i2l, si_l2i, si_icmp_eq, si_icmp_ne, si_icmp_lt, si_icmp_ge, si_icmp_gt, si_icmp_le, si_if_eq, si_if_ne, si_if_lt, si_if_ge, si_if_gt, si_if_le, si_ifnull, si_ifnonnull, si_goto, si_tableswitch, si_lookupswitch, si_getfield, si_putfield, si_getstatic, si_iaload, si_baload, si_laload, si_aaload, si_iastore, si_bastore, si_lastore, si_aastore, si_arraylength, si_new, si_newarray, si_anewarray, si_invokevirtual, si_invokespecial, si_invokestatic, si_ireturn, si_lreturn, si_areturn, si_return_, pI_e, pL_e, pR_e, pA_r, pA_n, pN_n, pN_r, oI_e, oL_e, oA_r, oA_n, lget_e, lrm1_0, lrm2_0, lrm1_i, lrm1_r, lrm1_n, lrm1_l, lrm2_i, lrm2_r, lrm2_n, lrm2_l, popN_0, popN_s, acat_i, acat_l, acat_r, acat_n, stw_0, stw_s, psh_s, psh_n, wgf_r, wgf_i, wgf_b, wgf_n, wgf_m, wpf_i, wpf_r, wpf_b, wnew_e, callE_e, rbk_0, rbk_1, tsw_0, tsw_s, lsw_0, lsw_s, wp_s, wq_t, wq_f, oV_e, pick_0, pick_s, oZ_e, oY_e, r_Spread_distanceOf_0, r_Spread_distanceOf_1, r_Spread_distanceOf_4, r_Spread_distanceOf_7, r_Spread_distanceOf_8, r_Spread_distanceOf_11, r_Spread_distanceOf_12, r_Spread_distanceOf_13, r_Spread_distanceOf_16, r_Spread_distanceOf_17, xf_Spread_distanceOf_15, xe_Spread_distanceOf_250, xd_Spread_distanceOf, xrb_Spread_distanceOf, xin_Spread_distanceOf, T_PR_isId_e, TF_PR_isId, lh, lp0, lp1, lp2, lq0, lq1, lq2, Nat.reduceAdd, Nat.reduceMul, Nat.reduceEqDiff, reduceIte, Int.reduceNeg, Int.reduceLE, Int.reduceLT, Int.reduceAdd, Int.reduceSub, Int.reduceToNat, true_and, and_true, inR_e, Nat.reduceLT, Nat.reduceLeDiff, reduceCtorEq, Nat.add_zero, Nat.zero_add, or_false, false_or, or_true, true_or, not_true_eq_false, not_false_eq_true, Classical.not_not, Nat.add_eq_zero_iff, and_false, false_and, Int.reduceEq, List.mem_cons, List.not_mem_nil, forall_eq_or_imp, forall_eq, false_implies, implies_true, forall_const, aargs_0, aargs_i, aargs_r, aargs_l, aargs_n, nfT_e, eq_self, and_self, Nat.le_refl, fu_s, fu_fu, iu_iu, iu_s, fu_am, fu_a0, fu_0a, iu_l, Nat.reduceBEq, Int.reduceBEq, T_objInit_e]
  repeat' (first | assumption | intro _ | apply And.intro)
  all_goals first | omega | assumption | (exact h1 (by omega)) | (exact h0 (by omega)) | (exact h1 ⟨by omega, by omega⟩) | (exact h0 ⟨by omega, by omega⟩) | (exact h1 ⟨by omega, by omega, by omega⟩) | (exact h0 ⟨by omega, by omega, by omega⟩)
def TF_Spread_beforeOf (o : Nat) (i : Int) (sz sl : Nat) (lay : Nat → Nat × Int) (ρ : Nat → Int → Nat) (σ : Nat → Int → Int) (τ : Nat → Int → Int64) (k : Option AV → Mm → Prop) : Prop := LSpread lay ρ o ∧ (0 ≤ i ∧ i < 600 → k (some (vI (σ (o + 3) i))) (sz, sl, lay, ρ, σ, τ)) ∧ (¬ (0 ≤ i ∧ i < 600) → k (some (vI (-1))) (sz, sl, lay, ρ, σ, τ))
def T_Spread_beforeOf : Tr := mkT 5 fun o as M k => pI as fun i as => as = [] ∧ TF_Spread_beforeOf o i M.1 M.2.1 M.2.2.1 M.2.2.2.1 M.2.2.2.2.1 M.2.2.2.2.2 k
theorem T_Spread_beforeOf_e {o : Nat} {i : Int} {sz sl : Nat} {lay : Nat → Nat × Int} {ρ : Nat → Int → Nat} {σ : Nat → Int → Int} {τ : Nat → Int → Int64} {k : Option AV → Mm → Prop} : T_Spread_beforeOf [vR o, vI i] (sz, sl, lay, ρ, σ, τ) k = (lay o = (15, 0) ∧ TF_Spread_beforeOf o i sz sl lay ρ σ τ k) := by simp [T_Spread_beforeOf, mkT_e, pI_e, pR_e, pL_e]
theorem T_Spread_beforeOf_r (as : List AV) (M : Mm) (k : Option AV → Mm → Prop) (h : T_Spread_beforeOf as M k) : ∃ b As, as = vR b :: As ∧ M.2.2.1 b = (10 + 5, 0) := by
  obtain ⟨b, As, h1, h2, -⟩ := mkT_r h
  exact ⟨b, As, h1, h2⟩
def tb_Spread_beforeOf : List (Nat × Option (List Nat) × Instr × List Nat) := [(0, none, .iload_n 1, []), (1, none, .invokestatic 62, []), (4, none, .ifCond .eq 12, [16]), (7, none, .aload_n 0, []), (8, none, .getfield 18, []), (11, none, .iload_n 1, []), (12, none, .iaload, []), (13, none, .goto 4, [17]), (16, none, .iconst (-1), []), (17, none, .ireturn, [])]
def P_Spread_beforeOf : Nat → Option (List Nat) × Instr × List Nat := plk tb_Spread_beforeOf
theorem r_Spread_beforeOf_0 : P_Spread_beforeOf 0 = (none, .iload_n 1, []) := by decide +kernel
theorem r_Spread_beforeOf_1 : P_Spread_beforeOf 1 = (none, .invokestatic 62, []) := by decide +kernel
theorem r_Spread_beforeOf_4 : P_Spread_beforeOf 4 = (none, .ifCond .eq 12, [16]) := by decide +kernel
theorem r_Spread_beforeOf_7 : P_Spread_beforeOf 7 = (none, .aload_n 0, []) := by decide +kernel
theorem r_Spread_beforeOf_8 : P_Spread_beforeOf 8 = (none, .getfield 18, []) := by decide +kernel
theorem r_Spread_beforeOf_11 : P_Spread_beforeOf 11 = (none, .iload_n 1, []) := by decide +kernel
theorem r_Spread_beforeOf_12 : P_Spread_beforeOf 12 = (none, .iaload, []) := by decide +kernel
theorem r_Spread_beforeOf_13 : P_Spread_beforeOf 13 = (none, .goto 4, [17]) := by decide +kernel
theorem r_Spread_beforeOf_16 : P_Spread_beforeOf 16 = (none, .iconst (-1), []) := by decide +kernel
theorem r_Spread_beforeOf_17 : P_Spread_beforeOf 17 = (none, .ireturn, []) := by decide +kernel
def E_Spread_beforeOf : List (Nat × Ent) := [(250, (1, 0, 0, 0, T_PR_isId))]
def X_Spread_beforeOf : Cx := (llk (0, 0, 9) ftX5, llk 99 ntX5, llk none kcX5, llk none klX5, llk dEnt E_Spread_beforeOf, 1, 0, false)
theorem xok_Spread_beforeOf : Xok RX5 X_Spread_beforeOf := xok_of ftX5_ok ntX5_ok kcX5_ok klX5_ok (E := E_Spread_beforeOf) (List.forall_mem_cons.mpr ⟨co_X5_250, fun _ h => absurd h List.not_mem_nil⟩)
theorem xf_Spread_beforeOf_18 : xfl X_Spread_beforeOf 18 = (5, 2, 1) := by decide +kernel
theorem xe_Spread_beforeOf_250 : xE X_Spread_beforeOf (4 * 62 + 2) = (1, 0, 0, 0, T_PR_isId) := rfl
theorem xd_Spread_beforeOf : xd X_Spread_beforeOf = 1 := rfl
theorem xrb_Spread_beforeOf : xrb X_Spread_beforeOf = 0 := rfl
theorem xin_Spread_beforeOf : xin X_Spread_beforeOf = false := rfl
set_option maxHeartbeats 4000000 in
set_option maxRecDepth 100000 in
theorem S_Spread_beforeOf : Snd yX5_beforeOf cX5_beforeOf 2 (some .int) T_Spread_beforeOf 1 0 0 := by
  refine snd_of (X := X_Spread_beforeOf) (P := P_Spread_beforeOf) (tb := tb_Spread_beforeOf) (own := RX5) (by decide) rfl rfl (by decide +kernel) xok_Spread_beforeOf rfl rk0 (fun h => by first | rfl | cases h) ?_
  intro as M k has hM hT0
  obtain ⟨sz, sl, lay, ρ, σ, τ⟩ := M
  obtain ⟨o, as1, e, hlo, hT1⟩ := mkT_r hT0
  clear hT0
  subst e
  obtain ⟨i, as2, e, hT2⟩ := pI_x hT1
  clear hT1
  subst e
  obtain ⟨e, hT⟩ := hT2
  subst e
  replace hlo : lay o = (15, 0) := hlo
  have r_i : -2147483648 ≤ i ∧ i ≤ 2147483647 := has (vI i) (by simp)
  clear has
  replace hM : ∀ a i, -2147483648 ≤ σ a i ∧ σ a i ≤ 2147483647 := hM
  replace hT : TF_Spread_beforeOf o i sz sl lay ρ σ τ k := hT
  unfold TF_Spread_beforeOf at hT
  obtain ⟨hL, h1, h0⟩ := hT
  obtain ⟨lh, lp0, lp1, lp2, lq0, lq1, lq2⟩ := (show LSpread lay ρ _ from hL)
  refine ⟨Nat.le_of_ble_eq_true rfl, fun _ _ _ => False, fun _ _ _ => 0, 18, ?_, fun _ _ _ _ _ _ h => h.elim⟩
  unfold wps
  simp only [si_iload_n0, si_iload_n1, si_iload_n2, si_iload_n3, si_iload, si_lload_n0, si_lload_n1, si_lload_n2, si_lload_n3, si_lload, si_aload_n0, si_aload_n1, si_aload_n2, si_aload_n3, si_aload, si_istore_n0, si_istore_n1, si_istore_n2, si_istore_n3, si_istore, si_astore_n0, si_astore_n1, si_astore_n2, si_astore_n3, si_astore, si_lstore_n0, si_lstore_n1, si_lstore_n2, si_lstore_n3, si_lstore, si_iconst, si_bipush, si_sipush, si_ldc, si_ldc2_w, si_lconst0, si_lconst1, si_aconst_null, si_iinc, si_dup, si_dup2, si_iadd, si_isub, si_imul, si_idiv, si_irem, si_iand, si_ior, si_ishl, si_ishr, si_ladd, si_lmul, si_lor, si_lxor, si_lshl, si_lushr, si_lcmp, si_i2b, si_i2l, si_l2i, si_icmp_eq, si_icmp_ne, si_icmp_lt, si_icmp_ge, si_icmp_gt, si_icmp_le, si_if_eq, si_if_ne, si_if_lt, si_if_ge, si_if_gt, si_if_le, si_ifnull, si_ifnonnull, si_goto, si_tableswitch, si_lookupswitch, si_getfield, si_putfield, si_getstatic, si_iaload, si_baload, si_laload, si_aaload, si_iastore, si_bastore, si_lastore, si_aastore, si_arraylength, si_new, si_newarray, si_anewarray, si_invokevirtual, si_invokespecial, si_invokestatic, si_ireturn, si_lreturn, si_areturn, si_return_, pI_e, pL_e, pR_e, pA_r, pA_n, pN_n, pN_r, oI_e, oL_e, oA_r, oA_n, lget_e, lrm1_0, lrm2_0, lrm1_i, lrm1_r, lrm1_n, lrm1_l, lrm2_i, lrm2_r, lrm2_n, lrm2_l, popN_0, popN_s, acat_i, acat_l, acat_r, acat_n, stw_0, stw_s, psh_s, psh_n, wgf_r, wgf_i, wgf_b, wgf_n, wgf_m, wpf_i, wpf_r, wpf_b, wnew_e, callE_e, rbk_0, rbk_1, tsw_0, tsw_s, lsw_0, lsw_s, wp_s, wq_t, wq_f, oV_e, pick_0, pick_s, oZ_e, oY_e, r_Spread_beforeOf_0, r_Spread_beforeOf_1, r_Spread_beforeOf_4, r_Spread_beforeOf_7, r_Spread_beforeOf_8, r_Spread_beforeOf_11, r_Spread_beforeOf_12, r_Spread_beforeOf_13, r_Spread_beforeOf_16, r_Spread_beforeOf_17, xf_Spread_beforeOf_18, xe_Spread_beforeOf_250, xd_Spread_beforeOf, xrb_Spread_beforeOf, xin_Spread_beforeOf, T_PR_isId_e, TF_PR_isId, lh, lp0, lp1, lp2, lq0, lq1, lq2, Nat.reduceAdd, Nat.reduceMul, Nat.reduceEqDiff, reduceIte, Int.reduceNeg, Int.reduceLE, Int.reduceLT, Int.reduceAdd, Int.reduceSub, Int.reduceToNat, true_and, and_true, inR_e, Nat.reduceLT, Nat.reduceLeDiff, reduceCtorEq, Nat.add_zero, Nat.zero_add, or_false, false_or, or_true, true_or, not_true_eq_false, not_false_eq_true, Classical.not_not, Nat.add_eq_zero_iff, and_false, false_and, Int.reduceEq, List.mem_cons, List.not_mem_nil, forall_eq_or_imp, forall_eq, false_implies, implies_true, forall_const, aargs_0, aargs_i, aargs_r, aargs_l, aargs_n, nfT_e, eq_self, and_self, Nat.le_refl, fu_s, fu_fu, iu_iu, iu_s, fu_am, fu_a0, fu_0a, iu_l, Nat.reduceBEq, Int.reduceBEq, T_objInit_e]
  repeat' (first | assumption | intro _ | apply And.intro)
  all_goals first | omega | assumption | (exact h1 (by omega)) | (exact h0 (by omega)) | (exact h1 ⟨by omega, by omega⟩) | (exact h0 ⟨by omega, by omega⟩) | (exact h1 ⟨by omega, by omega, by omega⟩) | (exact h0 ⟨by omega, by omega, by omega⟩)

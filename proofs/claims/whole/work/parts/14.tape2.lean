def gI (v : AV) : Int := match v with
  | Sum.inl z => z
  | _ => 0
theorem gI_e {z : Int} : gI (vI z) = z := rfl
theorem fu_skip {α : Type} {f : Nat → α} {a b : Nat} {u v w : α} : fu (fu (fu f a v) b w) a u = fu (fu f b w) a u := by
  by_cases e : a = b
  · subst e; rw [fu_fu, fu_fu, fu_fu]
  · rw [fu_comm e, fu_fu]
def LenT (σ : Nat → Int → Int) (o : Nat) : Prop := 0 ≤ σ o 1 ∧ σ o 1 ≤ 8000
def TF_Tape_size (o : Nat) (sz sl : Nat) (lay : Nat → Nat × Int) (ρ : Nat → Int → Nat) (σ : Nat → Int → Int) (τ : Nat → Int → Int64) (k : Option AV → Mm → Prop) : Prop := k (some (vI (σ o 1))) (sz, sl, lay, ρ, σ, τ)
def T_Tape_size : Tr := mkT 6 fun o as M k => as = [] ∧ TF_Tape_size o M.1 M.2.1 M.2.2.1 M.2.2.2.1 M.2.2.2.2.1 M.2.2.2.2.2 k
theorem T_Tape_size_e {o : Nat} {sz sl : Nat} {lay : Nat → Nat × Int} {ρ : Nat → Int → Nat} {σ : Nat → Int → Int} {τ : Nat → Int → Int64} {k : Option AV → Mm → Prop} : T_Tape_size [vR o] (sz, sl, lay, ρ, σ, τ) k = (lay o = (16, 0) ∧ TF_Tape_size o sz sl lay ρ σ τ k) := by simp [T_Tape_size, mkT_e, pI_e, pR_e, pL_e]
theorem T_Tape_size_r (as : List AV) (M : Mm) (k : Option AV → Mm → Prop) (h : T_Tape_size as M k) : ∃ b As, as = vR b :: As ∧ M.2.2.1 b = (10 + 6, 0) := by
  obtain ⟨b, As, h1, h2, -⟩ := mkT_r h
  exact ⟨b, As, h1, h2⟩
def tb_Tape_size : List (Nat × Option (List Nat) × Instr × List Nat) := [(0, none, .aload_n 0, []), (1, none, .getfield 15, []), (4, none, .ireturn, [])]
def P_Tape_size : Nat → Option (List Nat) × Instr × List Nat := plk tb_Tape_size
theorem r_Tape_size_0 : P_Tape_size 0 = (none, .aload_n 0, []) := by decide +kernel
theorem r_Tape_size_1 : P_Tape_size 1 = (none, .getfield 15, []) := by decide +kernel
theorem r_Tape_size_4 : P_Tape_size 4 = (none, .ireturn, []) := by decide +kernel
def E_Tape_size : List (Nat × Ent) := []
def X_Tape_size : Cx := (llk (0, 0, 9) ftX6, llk 99 ntX6, llk none kcX6, llk none klX6, llk dEnt E_Tape_size, 0, 0, false)
theorem xok_Tape_size : Xok RX6 X_Tape_size := xok_of ftX6_ok ntX6_ok kcX6_ok klX6_ok (E := E_Tape_size) (fun _ h => absurd h List.not_mem_nil)
theorem xf_Tape_size_15 : xfl X_Tape_size 15 = (6, 1, 0) := by decide +kernel
theorem xd_Tape_size : xd X_Tape_size = 0 := rfl
theorem xrb_Tape_size : xrb X_Tape_size = 0 := rfl
theorem xin_Tape_size : xin X_Tape_size = false := rfl
set_option maxHeartbeats 4000000 in
set_option maxRecDepth 100000 in
theorem S_Tape_size : Snd yX6_size cX6_size 1 (some .int) T_Tape_size 0 0 0 := by
  refine snd_of (X := X_Tape_size) (P := P_Tape_size) (tb := tb_Tape_size) (own := RX6) (by decide) rfl rfl (by decide +kernel) xok_Tape_size rfl rk0 (fun h => by first | rfl | cases h) ?_
  intro as M k has hM hT0
  obtain ⟨sz, sl, lay, ρ, σ, τ⟩ := M
  obtain ⟨o, as1, e, hlo, hT1⟩ := mkT_r hT0
  clear hT0
  subst e
  obtain ⟨e, hT⟩ := hT1
  subst e
  replace hlo : lay o = (16, 0) := hlo
  clear has
  replace hM : ∀ a i, -2147483648 ≤ σ a i ∧ σ a i ≤ 2147483647 := hM
  replace hT : TF_Tape_size o sz sl lay ρ σ τ k := hT
  unfold TF_Tape_size at hT
  refine ⟨Nat.le_of_ble_eq_true rfl, fun _ _ _ => False, fun _ _ _ => 0, 11, ?_, fun _ _ _ _ _ _ h => h.elim⟩
  unfold wps
  simp only [si_iload_n0, si_iload_n1, si_iload_n2, si_iload_n3, si_iload, si_lload_n0, si_lload_n1, si_lload_n2, si_lload_n3, si_lload, si_aload_n0, si_aload_n1, si_aload_n2, si_aload_n3, si_aload, si_istore_n0, si_istore_n1, si_istore_n2, si_istore_n3, si_istore, si_astore_n0, si_astore_n1, si_astore_n2, si_astore_n3, si_astore, si_lstore_n0, si_lstore_n1, si_lstore_n2, si_lstore_n3, si_lstore, si_iconst, si_bipush, si_sipush, si_ldc, si_ldc2_w, si_lconst0, si_lconst1, si_aconst_null, si_iinc, si_dup, si_dup2, si_iadd, si_isub, si_imul, si_idiv, si_irem, si_iand, si_ior, si_ishl, si_ishr, si_ladd, si_lmul, si_lor, si_lxor, si_lshl, si_lushr, si_lcmp, si_i2b, si_i2l, si_l2i, si_icmp_eq, si_icmp_ne, si_icmp_lt, si_icmp_ge, si_icmp_gt, si_icmp_le, si_if_eq, si_if_ne, si_if_lt, si_if_ge, si_if_gt, si_if_le, si_ifnull, si_ifnonnull, si_goto, si_tableswitch, si_lookupswitch, si_getfield, si_putfield, si_getstatic, si_iaload, si_baload, si_laload, si_aaload, si_iastore, si_bastore, si_lastore, si_aastore, si_arraylength, si_new, si_newarray, si_anewarray, si_invokevirtual, si_invokespecial, si_invokestatic, si_ireturn, si_lreturn, si_areturn, si_return_, pI_e, pL_e, pR_e, pA_r, pA_n, pN_n, pN_r, oI_e, oL_e, oA_r, oA_n, lget_e, lrm1_0, lrm2_0, lrm1_i, lrm1_r, lrm1_n, lrm1_l, lrm2_i, lrm2_r, lrm2_n, lrm2_l, popN_0, popN_s, acat_i, acat_l, acat_r, acat_n, stw_0, stw_s, psh_s, psh_n, wgf_r, wgf_i, wgf_b, wgf_n, wgf_m, wpf_i, wpf_r, wpf_b, wnew_e, callE_e, rbk_0, rbk_1, tsw_0, tsw_s, lsw_0, lsw_s, wp_s, wq_t, wq_f, oV_e, pick_0, pick_s, oZ_e, oY_e, r_Tape_size_0, r_Tape_size_1, r_Tape_size_4, xf_Tape_size_15, xd_Tape_size, xrb_Tape_size, xin_Tape_size, Nat.reduceAdd, Nat.reduceMul, Nat.reduceEqDiff, reduceIte, Int.reduceNeg, Int.reduceLE, Int.reduceLT, Int.reduceAdd, Int.reduceSub, Int.reduceToNat, true_and, and_true, inR_e, Nat.reduceLT, Nat.reduceLeDiff, reduceCtorEq, Nat.add_zero, Nat.zero_add, or_false, false_or, or_true, true_or, not_true_eq_false, not_false_eq_true, Classical.not_not, Nat.add_eq_zero_iff, and_false, false_and, Int.reduceEq, List.mem_cons, List.not_mem_nil, forall_eq_or_imp, forall_eq, false_implies, implies_true, forall_const, aargs_0, aargs_i, aargs_r, aargs_l, aargs_n, nfT_e, eq_self, and_self, Nat.le_refl, fu_s, fu_fu, iu_iu, iu_s, fu_am, fu_a0, fu_0a, iu_l, Nat.reduceBEq, Int.reduceBEq, T_objInit_e]
  exact ⟨hlo, hT⟩
def TF_Tape_hasRoom (o : Nat) (m : Int) (sz sl : Nat) (lay : Nat → Nat × Int) (ρ : Nat → Int → Nat) (σ : Nat → Int → Int) (τ : Nat → Int → Int64) (k : Option AV → Mm → Prop) : Prop := (0 ≤ σ o 1 ∧ σ o 1 ≤ 8000) ∧ (m ≤ 8000 - σ o 1 → k (some (vI (1))) (sz, sl, lay, ρ, σ, τ)) ∧ (¬ (m ≤ 8000 - σ o 1) → k (some (vI (0))) (sz, sl, lay, ρ, σ, τ))
def T_Tape_hasRoom : Tr := mkT 6 fun o as M k => pI as fun m as => as = [] ∧ TF_Tape_hasRoom o m M.1 M.2.1 M.2.2.1 M.2.2.2.1 M.2.2.2.2.1 M.2.2.2.2.2 k
theorem T_Tape_hasRoom_e {o : Nat} {m : Int} {sz sl : Nat} {lay : Nat → Nat × Int} {ρ : Nat → Int → Nat} {σ : Nat → Int → Int} {τ : Nat → Int → Int64} {k : Option AV → Mm → Prop} : T_Tape_hasRoom [vR o, vI m] (sz, sl, lay, ρ, σ, τ) k = (lay o = (16, 0) ∧ TF_Tape_hasRoom o m sz sl lay ρ σ τ k) := by simp [T_Tape_hasRoom, mkT_e, pI_e, pR_e, pL_e]
theorem T_Tape_hasRoom_r (as : List AV) (M : Mm) (k : Option AV → Mm → Prop) (h : T_Tape_hasRoom as M k) : ∃ b As, as = vR b :: As ∧ M.2.2.1 b = (10 + 6, 0) := by
  obtain ⟨b, As, h1, h2, -⟩ := mkT_r h
  exact ⟨b, As, h1, h2⟩
def tb_Tape_hasRoom : List (Nat × Option (List Nat) × Instr × List Nat) := [(0, none, .iload_n 1, []), (1, none, .sipush 8000, []), (4, none, .aload_n 0, []), (5, none, .getfield 15, []), (8, none, .isub, []), (9, none, .if_icmp .gt 7, [16]), (12, none, .iconst 1, []), (13, none, .goto 4, [17]), (16, none, .iconst 0, []), (17, none, .ireturn, [])]
def P_Tape_hasRoom : Nat → Option (List Nat) × Instr × List Nat := plk tb_Tape_hasRoom
theorem r_Tape_hasRoom_0 : P_Tape_hasRoom 0 = (none, .iload_n 1, []) := by decide +kernel
theorem r_Tape_hasRoom_1 : P_Tape_hasRoom 1 = (none, .sipush 8000, []) := by decide +kernel
theorem r_Tape_hasRoom_4 : P_Tape_hasRoom 4 = (none, .aload_n 0, []) := by decide +kernel
theorem r_Tape_hasRoom_5 : P_Tape_hasRoom 5 = (none, .getfield 15, []) := by decide +kernel
theorem r_Tape_hasRoom_8 : P_Tape_hasRoom 8 = (none, .isub, []) := by decide +kernel
theorem r_Tape_hasRoom_9 : P_Tape_hasRoom 9 = (none, .if_icmp .gt 7, [16]) := by decide +kernel
theorem r_Tape_hasRoom_12 : P_Tape_hasRoom 12 = (none, .iconst 1, []) := by decide +kernel
theorem r_Tape_hasRoom_13 : P_Tape_hasRoom 13 = (none, .goto 4, [17]) := by decide +kernel
theorem r_Tape_hasRoom_16 : P_Tape_hasRoom 16 = (none, .iconst 0, []) := by decide +kernel
theorem r_Tape_hasRoom_17 : P_Tape_hasRoom 17 = (none, .ireturn, []) := by decide +kernel
def E_Tape_hasRoom : List (Nat × Ent) := []
def X_Tape_hasRoom : Cx := (llk (0, 0, 9) ftX6, llk 99 ntX6, llk none kcX6, llk none klX6, llk dEnt E_Tape_hasRoom, 0, 1, false)
theorem xok_Tape_hasRoom : Xok RX6 X_Tape_hasRoom := xok_of ftX6_ok ntX6_ok kcX6_ok klX6_ok (E := E_Tape_hasRoom) (fun _ h => absurd h List.not_mem_nil)
theorem xf_Tape_hasRoom_15 : xfl X_Tape_hasRoom 15 = (6, 1, 0) := by decide +kernel
theorem xd_Tape_hasRoom : xd X_Tape_hasRoom = 0 := rfl
theorem xrb_Tape_hasRoom : xrb X_Tape_hasRoom = 1 := rfl
theorem xin_Tape_hasRoom : xin X_Tape_hasRoom = false := rfl
set_option maxHeartbeats 4000000 in
set_option maxRecDepth 100000 in
theorem S_Tape_hasRoom : Snd yX6_hasRoom cX6_hasRoom 2 (some .boolean) T_Tape_hasRoom 0 0 0 := by
  refine snd_of (X := X_Tape_hasRoom) (P := P_Tape_hasRoom) (tb := tb_Tape_hasRoom) (own := RX6) (by decide) rfl rfl (by decide +kernel) xok_Tape_hasRoom rfl rk1 (fun h => by first | rfl | cases h) ?_
  intro as M k has hM hT0
  obtain ⟨sz, sl, lay, ρ, σ, τ⟩ := M
  obtain ⟨o, as1, e, hlo, hT1⟩ := mkT_r hT0
  clear hT0
  subst e
  obtain ⟨m, as2, e, hT2⟩ := pI_x hT1
  clear hT1
  subst e
  obtain ⟨e, hT⟩ := hT2
  subst e
  replace hlo : lay o = (16, 0) := hlo
  have r_m : -2147483648 ≤ m ∧ m ≤ 2147483647 := has (vI m) (by simp)
  clear has
  replace hM : ∀ a i, -2147483648 ≤ σ a i ∧ σ a i ≤ 2147483647 := hM
  replace hT : TF_Tape_hasRoom o m sz sl lay ρ σ τ k := hT
  unfold TF_Tape_hasRoom at hT
  obtain ⟨hn, h1, h0⟩ := hT
  refine ⟨Nat.le_of_ble_eq_true rfl, fun _ _ _ => False, fun _ _ _ => 0, 18, ?_, fun _ _ _ _ _ _ h => h.elim⟩
  unfold wps
  simp only [si_iload_n0, si_iload_n1, si_iload_n2, si_iload_n3, si_iload, si_lload_n0, si_lload_n1, si_lload_n2, si_lload_n3, si_lload, si_aload_n0, si_aload_n1, si_aload_n2, si_aload_n3, si_aload, si_istore_n0, si_istore_n1, si_istore_n2, si_istore_n3, si_istore, si_astore_n0, si_astore_n1, si_astore_n2, si_astore_n3, si_astore, si_lstore_n0, si_lstore_n1, si_lstore_n2, si_lstore_n3, si_lstore, si_iconst, si_bipush, si_sipush, si_ldc, si_ldc2_w, si_lconst0, si_lconst1, si_aconst_null, si_iinc, si_dup, si_dup2, si_iadd, si_isub, si_imul, si_idiv, si_irem, si_iand, si_ior, si_ishl, si_ishr, si_ladd, si_lmul, si_lor, si_lxor, si_lshl, si_lushr, si_lcmp, si_i2b, si_i2l, si_l2i, si_icmp_eq, si_icmp_ne, si_icmp_lt, si_icmp_ge, si_icmp_gt, si_icmp_le, si_if_eq, si_if_ne, si_if_lt, si_if_ge, si_if_gt, si_if_le, si_ifnull, si_ifnonnull, si_goto, si_tableswitch, si_lookupswitch, si_getfield, si_putfield, si_getstatic, si_iaload, si_baload, si_laload, si_aaload, si_iastore, si_bastore, si_lastore, si_aastore, si_arraylength, si_new, si_newarray, si_anewarray, si_invokevirtual, si_invokespecial, si_invokestatic, si_ireturn, si_lreturn, si_areturn, si_return_, pI_e, pL_e, pR_e, pA_r, pA_n, pN_n, pN_r, oI_e, oL_e, oA_r, oA_n, lget_e, lrm1_0, lrm2_0, lrm1_i, lrm1_r, lrm1_n, lrm1_l, lrm2_i, lrm2_r, lrm2_n, lrm2_l, popN_0, popN_s, acat_i, acat_l, acat_r, acat_n, stw_0, stw_s, psh_s, psh_n, wgf_r, wgf_i, wgf_b, wgf_n, wgf_m, wpf_i, wpf_r, wpf_b, wnew_e, callE_e, rbk_0, rbk_1, tsw_0, tsw_s, lsw_0, lsw_s, wp_s, wq_t, wq_f, oV_e, pick_0, pick_s, oZ_e, oY_e, r_Tape_hasRoom_0, r_Tape_hasRoom_1, r_Tape_hasRoom_4, r_Tape_hasRoom_5, r_Tape_hasRoom_8, r_Tape_hasRoom_9, r_Tape_hasRoom_12, r_Tape_hasRoom_13, r_Tape_hasRoom_16, r_Tape_hasRoom_17, xf_Tape_hasRoom_15, xd_Tape_hasRoom, xrb_Tape_hasRoom, xin_Tape_hasRoom, hlo, Nat.reduceAdd, Nat.reduceMul, Nat.reduceEqDiff, reduceIte, Int.reduceNeg, Int.reduceLE, Int.reduceLT, Int.reduceAdd, Int.reduceSub, Int.reduceToNat, true_and, and_true, inR_e, Nat.reduceLT, Nat.reduceLeDiff, reduceCtorEq, Nat.add_zero, Nat.zero_add, or_false, false_or, or_true, true_or, not_true_eq_false, not_false_eq_true, Classical.not_not, Nat.add_eq_zero_iff, and_false, false_and, Int.reduceEq, List.mem_cons, List.not_mem_nil, forall_eq_or_imp, forall_eq, false_implies, implies_true, forall_const, aargs_0, aargs_i, aargs_r, aargs_l, aargs_n, nfT_e, eq_self, and_self, Nat.le_refl, fu_s, fu_fu, iu_iu, iu_s, fu_am, fu_a0, fu_0a, iu_l, Nat.reduceBEq, Int.reduceBEq, T_objInit_e]
  repeat' (first | assumption | intro _ | apply And.intro)
  all_goals first | omega | assumption | (exact h1 (by omega)) | (exact h0 (by omega)) | (exact h1 ⟨by omega, by omega⟩) | (exact h0 ⟨by omega, by omega⟩) | (exact h1 ⟨by omega, by omega, by omega⟩) | (exact h0 ⟨by omega, by omega, by omega⟩)
def TF_Tape_cut (o : Nat) (n : Int) (sz sl : Nat) (lay : Nat → Nat × Int) (ρ : Nat → Int → Nat) (σ : Nat → Int → Int) (τ : Nat → Int → Int64) (k : Option AV → Mm → Prop) : Prop := (0 ≤ n ∧ n < σ o 1 → k none (sz, sl, lay, ρ, fu σ o (iu (σ o) 1 n), τ)) ∧ (¬ (0 ≤ n ∧ n < σ o 1) → k none (sz, sl, lay, ρ, σ, τ))
def T_Tape_cut : Tr := mkT 6 fun o as M k => pI as fun n as => as = [] ∧ TF_Tape_cut o n M.1 M.2.1 M.2.2.1 M.2.2.2.1 M.2.2.2.2.1 M.2.2.2.2.2 k
theorem T_Tape_cut_e {o : Nat} {n : Int} {sz sl : Nat} {lay : Nat → Nat × Int} {ρ : Nat → Int → Nat} {σ : Nat → Int → Int} {τ : Nat → Int → Int64} {k : Option AV → Mm → Prop} : T_Tape_cut [vR o, vI n] (sz, sl, lay, ρ, σ, τ) k = (lay o = (16, 0) ∧ TF_Tape_cut o n sz sl lay ρ σ τ k) := by simp [T_Tape_cut, mkT_e, pI_e, pR_e, pL_e]
theorem T_Tape_cut_r (as : List AV) (M : Mm) (k : Option AV → Mm → Prop) (h : T_Tape_cut as M k) : ∃ b As, as = vR b :: As ∧ M.2.2.1 b = (10 + 6, 0) := by
  obtain ⟨b, As, h1, h2, -⟩ := mkT_r h
  exact ⟨b, As, h1, h2⟩
def tb_Tape_cut : List (Nat × Option (List Nat) × Instr × List Nat) := [(0, none, .iload_n 1, []), (1, none, .ifCond .lt 16, [17]), (4, none, .iload_n 1, []), (5, none, .aload_n 0, []), (6, none, .getfield 15, []), (9, none, .if_icmp .ge 8, [17]), (12, none, .aload_n 0, []), (13, none, .iload_n 1, []), (14, none, .putfield 15, []), (17, none, .return_, [])]
def P_Tape_cut : Nat → Option (List Nat) × Instr × List Nat := plk tb_Tape_cut
theorem r_Tape_cut_0 : P_Tape_cut 0 = (none, .iload_n 1, []) := by decide +kernel
theorem r_Tape_cut_1 : P_Tape_cut 1 = (none, .ifCond .lt 16, [17]) := by decide +kernel
theorem r_Tape_cut_4 : P_Tape_cut 4 = (none, .iload_n 1, []) := by decide +kernel
theorem r_Tape_cut_5 : P_Tape_cut 5 = (none, .aload_n 0, []) := by decide +kernel
theorem r_Tape_cut_6 : P_Tape_cut 6 = (none, .getfield 15, []) := by decide +kernel
theorem r_Tape_cut_9 : P_Tape_cut 9 = (none, .if_icmp .ge 8, [17]) := by decide +kernel
theorem r_Tape_cut_12 : P_Tape_cut 12 = (none, .aload_n 0, []) := by decide +kernel
theorem r_Tape_cut_13 : P_Tape_cut 13 = (none, .iload_n 1, []) := by decide +kernel
theorem r_Tape_cut_14 : P_Tape_cut 14 = (none, .putfield 15, []) := by decide +kernel
theorem r_Tape_cut_17 : P_Tape_cut 17 = (none, .return_, []) := by decide +kernel
def E_Tape_cut : List (Nat × Ent) := []
def X_Tape_cut : Cx := (llk (0, 0, 9) ftX6, llk 99 ntX6, llk none kcX6, llk none klX6, llk dEnt E_Tape_cut, 0, 3, false)
theorem xok_Tape_cut : Xok RX6 X_Tape_cut := xok_of ftX6_ok ntX6_ok kcX6_ok klX6_ok (E := E_Tape_cut) (fun _ h => absurd h List.not_mem_nil)
theorem xf_Tape_cut_15 : xfl X_Tape_cut 15 = (6, 1, 0) := by decide +kernel
theorem xd_Tape_cut : xd X_Tape_cut = 0 := rfl
theorem xrb_Tape_cut : xrb X_Tape_cut = 3 := rfl
theorem xin_Tape_cut : xin X_Tape_cut = false := rfl
set_option maxHeartbeats 4000000 in
set_option maxRecDepth 100000 in
theorem S_Tape_cut : Snd yX6_cut cX6_cut 2 none T_Tape_cut 0 0 0 := by
  refine snd_of (X := X_Tape_cut) (P := P_Tape_cut) (tb := tb_Tape_cut) (own := RX6) (by decide) rfl rfl (by decide +kernel) xok_Tape_cut rfl rk3 (fun h => by first | rfl | cases h) ?_
  intro as M k has hM hT0
  obtain ⟨sz, sl, lay, ρ, σ, τ⟩ := M
  obtain ⟨o, as1, e, hlo, hT1⟩ := mkT_r hT0
  clear hT0
  subst e
  obtain ⟨n, as2, e, hT2⟩ := pI_x hT1
  clear hT1
  subst e
  obtain ⟨e, hT⟩ := hT2
  subst e
  replace hlo : lay o = (16, 0) := hlo
  have r_n : -2147483648 ≤ n ∧ n ≤ 2147483647 := has (vI n) (by simp)
  clear has
  replace hM : ∀ a i, -2147483648 ≤ σ a i ∧ σ a i ≤ 2147483647 := hM
  replace hT : TF_Tape_cut o n sz sl lay ρ σ τ k := hT
  unfold TF_Tape_cut at hT
  obtain ⟨h1, h0⟩ := hT
  refine ⟨Nat.le_of_ble_eq_true rfl, fun _ _ _ => False, fun _ _ _ => 0, 18, ?_, fun _ _ _ _ _ _ h => h.elim⟩
  unfold wps
  simp only [si_iload_n0, si_iload_n1, si_iload_n2, si_iload_n3, si_iload, si_lload_n0, si_lload_n1, si_lload_n2, si_lload_n3, si_lload, si_aload_n0, si_aload_n1, si_aload_n2, si_aload_n3, si_aload, si_istore_n0, si_istore_n1, si_istore_n2, si_istore_n3, si_istore, si_astore_n0, si_astore_n1, si_astore_n2, si_astore_n3, si_astore, si_lstore_n0, si_lstore_n1, si_lstore_n2, si_lstore_n3, si_lstore, si_iconst, si_bipush, si_sipush, si_ldc, si_ldc2_w, si_lconst0, si_lconst1, si_aconst_null, si_iinc, si_dup, si_dup2, si_iadd, si_isub, si_imul, si_idiv, si_irem, si_iand, si_ior, si_ishl, si_ishr, si_ladd, si_lmul, si_lor, si_lxor, si_lshl, si_lushr, si_lcmp, si_i2b, si_i2l, si_l2i, si_icmp_eq, si_icmp_ne, si_icmp_lt, si_icmp_ge, si_icmp_gt, si_icmp_le, si_if_eq, si_if_ne, si_if_lt, si_if_ge, si_if_gt, si_if_le, si_ifnull, si_ifnonnull, si_goto, si_tableswitch, si_lookupswitch, si_getfield, si_putfield, si_getstatic, si_iaload, si_baload, si_laload, si_aaload, si_iastore, si_bastore, si_lastore, si_aastore, si_arraylength, si_new, si_newarray, si_anewarray, si_invokevirtual, si_invokespecial, si_invokestatic, si_ireturn, si_lreturn, si_areturn, si_return_, pI_e, pL_e, pR_e, pA_r, pA_n, pN_n, pN_r, oI_e, oL_e, oA_r, oA_n, lget_e, lrm1_0, lrm2_0, lrm1_i, lrm1_r, lrm1_n, lrm1_l, lrm2_i, lrm2_r, lrm2_n, lrm2_l, popN_0, popN_s, acat_i, acat_l, acat_r, acat_n, stw_0, stw_s, psh_s, psh_n, wgf_r, wgf_i, wgf_b, wgf_n, wgf_m, wpf_i, wpf_r, wpf_b, wnew_e, callE_e, rbk_0, rbk_1, tsw_0, tsw_s, lsw_0, lsw_s, wp_s, wq_t, wq_f, oV_e, pick_0, pick_s, oZ_e, oY_e, r_Tape_cut_0, r_Tape_cut_1, r_Tape_cut_4, r_Tape_cut_5, r_Tape_cut_6, r_Tape_cut_9, r_Tape_cut_12, r_Tape_cut_13, r_Tape_cut_14, r_Tape_cut_17, xf_Tape_cut_15, xd_Tape_cut, xrb_Tape_cut, xin_Tape_cut, hlo, Nat.reduceAdd, Nat.reduceMul, Nat.reduceEqDiff, reduceIte, Int.reduceNeg, Int.reduceLE, Int.reduceLT, Int.reduceAdd, Int.reduceSub, Int.reduceToNat, true_and, and_true, inR_e, Nat.reduceLT, Nat.reduceLeDiff, reduceCtorEq, Nat.add_zero, Nat.zero_add, or_false, false_or, or_true, true_or, not_true_eq_false, not_false_eq_true, Classical.not_not, Nat.add_eq_zero_iff, and_false, false_and, Int.reduceEq, List.mem_cons, List.not_mem_nil, forall_eq_or_imp, forall_eq, false_implies, implies_true, forall_const, aargs_0, aargs_i, aargs_r, aargs_l, aargs_n, nfT_e, eq_self, and_self, Nat.le_refl, fu_s, fu_fu, iu_iu, iu_s, fu_am, fu_a0, fu_0a, iu_l, Nat.reduceBEq, Int.reduceBEq, T_objInit_e]
  repeat' (first | assumption | intro _ | apply And.intro)
  all_goals first | omega | assumption | (exact h1 (by omega)) | (exact h0 (by omega)) | (exact h1 ⟨by omega, by omega⟩) | (exact h0 ⟨by omega, by omega⟩) | (exact h1 ⟨by omega, by omega, by omega⟩) | (exact h0 ⟨by omega, by omega, by omega⟩)
def putS (o : Nat) (w : Int) : Nat → (Nat → Int → Int) → (Nat → Int → Int)
  | 0, σ => σ
  | n + 1, σ => fu (fu (putS o w n σ) (o + 1) (iu (putS o w n σ (o + 1)) (putS o w n σ o 1) (i2bZ (shrZ w (24 - 8 * n))))) o (iu (putS o w n σ o) 1 (putS o w n σ o 1 + 1))
theorem putS_len (o : Nat) (w : Int) (σ : Nat → Int → Int) : ∀ n : Nat, putS o w n σ o 1 = σ o 1 + n
  | 0 => by simp [putS]
  | n + 1 => by
    have ih := putS_len o w σ n
    simp only [putS, fu_s, iu_s]
    omega
def TF_Tape_put (o : Nat) (w : Int) (sz sl : Nat) (lay : Nat → Nat × Int) (ρ : Nat → Int → Nat) (σ : Nat → Int → Int) (τ : Nat → Int → Int64) (k : Option AV → Mm → Prop) : Prop := LTape lay ρ o ∧ (0 ≤ σ o 1 ∧ σ o 1 ≤ 7996) ∧ k none (sz, sl, lay, ρ, putS o w 4 σ, τ)
def T_Tape_put : Tr := mkT 6 fun o as M k => pI as fun w as => as = [] ∧ TF_Tape_put o w M.1 M.2.1 M.2.2.1 M.2.2.2.1 M.2.2.2.2.1 M.2.2.2.2.2 k
theorem T_Tape_put_e {o : Nat} {w : Int} {sz sl : Nat} {lay : Nat → Nat × Int} {ρ : Nat → Int → Nat} {σ : Nat → Int → Int} {τ : Nat → Int → Int64} {k : Option AV → Mm → Prop} : T_Tape_put [vR o, vI w] (sz, sl, lay, ρ, σ, τ) k = (lay o = (16, 0) ∧ TF_Tape_put o w sz sl lay ρ σ τ k) := by simp [T_Tape_put, mkT_e, pI_e, pR_e, pL_e]
theorem T_Tape_put_r (as : List AV) (M : Mm) (k : Option AV → Mm → Prop) (h : T_Tape_put as M k) : ∃ b As, as = vR b :: As ∧ M.2.2.1 b = (10 + 6, 0) := by
  obtain ⟨b, As, h1, h2, -⟩ := mkT_r h
  exact ⟨b, As, h1, h2⟩
def tb_Tape_put : List (Nat × Option (List Nat) × Instr × List Nat) := [(0, none, .bipush 24, []), (2, none, .istore_n 2, []), (3, some [0, 1, 2], .iload_n 2, []), (4, none, .ifCond .lt 42, [46]), (7, none, .aload_n 0, []), (8, none, .getfield 15, []), (11, none, .sipush 8000, []), (14, none, .if_icmp .ge 26, [40]), (17, none, .aload_n 0, []), (18, none, .getfield 9, []), (21, none, .aload_n 0, []), (22, none, .getfield 15, []), (25, none, .iload_n 1, []), (26, none, .iload_n 2, []), (27, none, .ishr, []), (28, none, .i2b, []), (29, none, .bastore, []), (30, none, .aload_n 0, []), (31, none, .dup, []), (32, none, .getfield 15, []), (35, none, .iconst 1, []), (36, none, .iadd, []), (37, none, .putfield 15, []), (40, none, .iinc 2 (-8), []), (43, none, .goto (-40), [3]), (46, none, .return_, [])]
def P_Tape_put : Nat → Option (List Nat) × Instr × List Nat := plk tb_Tape_put
theorem r_Tape_put_0 : P_Tape_put 0 = (none, .bipush 24, []) := by decide +kernel
theorem r_Tape_put_2 : P_Tape_put 2 = (none, .istore_n 2, []) := by decide +kernel
theorem r_Tape_put_3 : P_Tape_put 3 = (some [0, 1, 2], .iload_n 2, []) := by decide +kernel
theorem r_Tape_put_4 : P_Tape_put 4 = (none, .ifCond .lt 42, [46]) := by decide +kernel
theorem r_Tape_put_7 : P_Tape_put 7 = (none, .aload_n 0, []) := by decide +kernel
theorem r_Tape_put_8 : P_Tape_put 8 = (none, .getfield 15, []) := by decide +kernel
theorem r_Tape_put_11 : P_Tape_put 11 = (none, .sipush 8000, []) := by decide +kernel
theorem r_Tape_put_14 : P_Tape_put 14 = (none, .if_icmp .ge 26, [40]) := by decide +kernel
theorem r_Tape_put_17 : P_Tape_put 17 = (none, .aload_n 0, []) := by decide +kernel
theorem r_Tape_put_18 : P_Tape_put 18 = (none, .getfield 9, []) := by decide +kernel
theorem r_Tape_put_21 : P_Tape_put 21 = (none, .aload_n 0, []) := by decide +kernel
theorem r_Tape_put_22 : P_Tape_put 22 = (none, .getfield 15, []) := by decide +kernel
theorem r_Tape_put_25 : P_Tape_put 25 = (none, .iload_n 1, []) := by decide +kernel
theorem r_Tape_put_26 : P_Tape_put 26 = (none, .iload_n 2, []) := by decide +kernel
theorem r_Tape_put_27 : P_Tape_put 27 = (none, .ishr, []) := by decide +kernel
theorem r_Tape_put_28 : P_Tape_put 28 = (none, .i2b, []) := by decide +kernel
theorem r_Tape_put_29 : P_Tape_put 29 = (none, .bastore, []) := by decide +kernel
theorem r_Tape_put_30 : P_Tape_put 30 = (none, .aload_n 0, []) := by decide +kernel
theorem r_Tape_put_31 : P_Tape_put 31 = (none, .dup, []) := by decide +kernel
theorem r_Tape_put_32 : P_Tape_put 32 = (none, .getfield 15, []) := by decide +kernel
theorem r_Tape_put_35 : P_Tape_put 35 = (none, .iconst 1, []) := by decide +kernel
theorem r_Tape_put_36 : P_Tape_put 36 = (none, .iadd, []) := by decide +kernel
theorem r_Tape_put_37 : P_Tape_put 37 = (none, .putfield 15, []) := by decide +kernel
theorem r_Tape_put_40 : P_Tape_put 40 = (none, .iinc 2 (-8), []) := by decide +kernel
theorem r_Tape_put_43 : P_Tape_put 43 = (none, .goto (-40), [3]) := by decide +kernel
theorem r_Tape_put_46 : P_Tape_put 46 = (none, .return_, []) := by decide +kernel
def E_Tape_put : List (Nat × Ent) := []
def X_Tape_put : Cx := (llk (0, 0, 9) ftX6, llk 99 ntX6, llk none kcX6, llk none klX6, llk dEnt E_Tape_put, 0, 3, false)
theorem xok_Tape_put : Xok RX6 X_Tape_put := xok_of ftX6_ok ntX6_ok kcX6_ok klX6_ok (E := E_Tape_put) (fun _ h => absurd h List.not_mem_nil)
theorem xf_Tape_put_9 : xfl X_Tape_put 9 = (6, 0, 1) := by decide +kernel
theorem xf_Tape_put_15 : xfl X_Tape_put 15 = (6, 1, 0) := by decide +kernel
theorem xd_Tape_put : xd X_Tape_put = 0 := rfl
theorem xrb_Tape_put : xrb X_Tape_put = 3 := rfl
theorem xin_Tape_put : xin X_Tape_put = false := rfl
set_option maxHeartbeats 4000000 in
set_option maxRecDepth 100000 in
theorem S_Tape_put : Snd yX6_put cX6_put 3 none T_Tape_put 0 0 0 := by
  refine snd_of (X := X_Tape_put) (P := P_Tape_put) (tb := tb_Tape_put) (own := RX6) (by decide) rfl rfl (by decide +kernel) xok_Tape_put rfl rk3 (fun h => by first | rfl | cases h) ?_
  intro as M k has hM hT0
  obtain ⟨sz, sl, lay, ρ, σ, τ⟩ := M
  obtain ⟨o, as1, e, hlo, hT1⟩ := mkT_r hT0
  clear hT0
  subst e
  obtain ⟨w, as2, e, hT2⟩ := pI_x hT1
  clear hT1
  subst e
  obtain ⟨e, hT⟩ := hT2
  subst e
  replace hlo : lay o = (16, 0) := hlo
  have r_w : -2147483648 ≤ w ∧ w ≤ 2147483647 := has (vI w) (by simp)
  clear has
  replace hM : ∀ a i, -2147483648 ≤ σ a i ∧ σ a i ≤ 2147483647 := hM
  replace hT : TF_Tape_put o w sz sl lay ρ σ τ k := hT
  unfold TF_Tape_put at hT
  obtain ⟨hL, hn, hT⟩ := hT
  obtain ⟨lh, lp0, lq0⟩ := (show LTape lay ρ _ from hL)
  obtain ⟨J, hJd⟩ : ∃ J : Nat → List AV → Mm → Prop, J = (fun c vs M1 => c = 3 ∧ ∃ n : Nat, n ≤ 4 ∧ vs = [vR o, vI w, vI (24 - 8 * n)] ∧ M1 = (sz, sl, lay, ρ, putS o w n σ, τ)) := ⟨_, rfl⟩
  obtain ⟨μ, hμ⟩ : ∃ μ : Nat → List AV → Mm → Nat, μ = (fun _ vs _ => (gI (vs.getD 2 vN) + 8).toNat) := ⟨_, rfl⟩
  refine ⟨Nat.le_of_ble_eq_true rfl, J, μ, 34, ?_, ?_⟩
  · unfold wps
    simp only [si_iload_n0, si_iload_n1, si_iload_n2, si_iload_n3, si_iload, si_lload_n0, si_lload_n1, si_lload_n2, si_lload_n3, si_lload, si_aload_n0, si_aload_n1, si_aload_n2, si_aload_n3, si_aload, si_istore_n0, si_istore_n1, si_istore_n2, si_istore_n3, si_istore, si_astore_n0, si_astore_n1, si_astore_n2, si_astore_n3, si_astore, si_lstore_n0, si_lstore_n1, si_lstore_n2, si_lstore_n3, si_lstore, si_iconst, si_bipush, si_sipush, si_ldc, si_ldc2_w, si_lconst0, si_lconst1, si_aconst_null, si_iinc, si_dup, si_dup2, si_iadd, si_isub, si_imul, si_idiv, si_irem, si_iand, si_ior, si_ishl, si_ishr, si_ladd, si_lmul, si_lor, si_lxor, si_lshl, si_lushr, si_lcmp, si_i2b, si_i2l, si_l2i, si_icmp_eq, si_icmp_ne, si_icmp_lt, si_icmp_ge, si_icmp_gt, si_icmp_le, si_if_eq, si_if_ne, si_if_lt, si_if_ge, si_if_gt, si_if_le, si_ifnull, si_ifnonnull, si_goto, si_tableswitch, si_lookupswitch, si_getfield, si_putfield, si_getstatic, si_iaload, si_baload, si_laload, si_aaload, si_iastore, si_bastore, si_lastore, si_aastore, si_arraylength, si_new, si_newarray, si_anewarray, si_invokevirtual, si_invokespecial, si_invokestatic, si_ireturn, si_lreturn, si_areturn, si_return_, pI_e, pL_e, pR_e, pA_r, pA_n, pN_n, pN_r, oI_e, oL_e, oA_r, oA_n, lget_e, lrm1_0, lrm2_0, lrm1_i, lrm1_r, lrm1_n, lrm1_l, lrm2_i, lrm2_r, lrm2_n, lrm2_l, popN_0, popN_s, acat_i, acat_l, acat_r, acat_n, stw_0, stw_s, psh_s, psh_n, wgf_r, wgf_i, wgf_b, wgf_n, wgf_m, wpf_i, wpf_r, wpf_b, wnew_e, callE_e, rbk_0, rbk_1, tsw_0, tsw_s, lsw_0, lsw_s, wp_s, wq_t, wq_f, oV_e, pick_0, pick_s, oZ_e, oY_e, r_Tape_put_0, r_Tape_put_2, r_Tape_put_3, r_Tape_put_4, r_Tape_put_7, r_Tape_put_8, r_Tape_put_11, r_Tape_put_14, r_Tape_put_17, r_Tape_put_18, r_Tape_put_21, r_Tape_put_22, r_Tape_put_25, r_Tape_put_26, r_Tape_put_27, r_Tape_put_28, r_Tape_put_29, r_Tape_put_30, r_Tape_put_31, r_Tape_put_32, r_Tape_put_35, r_Tape_put_36, r_Tape_put_37, r_Tape_put_40, r_Tape_put_43, r_Tape_put_46, xf_Tape_put_9, xf_Tape_put_15, xd_Tape_put, xrb_Tape_put, xin_Tape_put, lh, lp0, lq0, Nat.reduceAdd, Nat.reduceMul, Nat.reduceEqDiff, reduceIte, Int.reduceNeg, Int.reduceLE, Int.reduceLT, Int.reduceAdd, Int.reduceSub, Int.reduceToNat, true_and, and_true, inR_e, Nat.reduceLT, Nat.reduceLeDiff, reduceCtorEq, Nat.add_zero, Nat.zero_add, or_false, false_or, or_true, true_or, not_true_eq_false, not_false_eq_true, Classical.not_not, Nat.add_eq_zero_iff, and_false, false_and, Int.reduceEq, List.mem_cons, List.not_mem_nil, forall_eq_or_imp, forall_eq, false_implies, implies_true, forall_const, aargs_0, aargs_i, aargs_r, aargs_l, aargs_n, nfT_e, eq_self, and_self, Nat.le_refl, fu_s, fu_fu, iu_iu, iu_s, fu_am, fu_a0, fu_0a, iu_l, Nat.reduceBEq, Int.reduceBEq, T_objInit_e]
    rw [hJd]
    exact ⟨rfl, 0, by omega, rfl, rfl⟩
  · intro cp vs M1 hvs hM1 hlen hJ
    rw [hJd] at hJ
    obtain ⟨rfl, n, hn4, rfl, rfl⟩ := hJ
    have hl := putS_len o w σ n
    have hR := i2bZ_R (shrZ w (24 - 8 * n))
    have hM2 : ∀ a i, -2147483648 ≤ putS o w n σ a i ∧ putS o w n σ a i ≤ 2147483647 := hM1
    unfold wps
    simp only [Option.getD_some, List.zip_cons_cons, List.zip_nil_left, List.zip_nil_right, List.zip_nil_right, si_iload_n0, si_iload_n1, si_iload_n2, si_iload_n3, si_iload, si_lload_n0, si_lload_n1, si_lload_n2, si_lload_n3, si_lload, si_aload_n0, si_aload_n1, si_aload_n2, si_aload_n3, si_aload, si_istore_n0, si_istore_n1, si_istore_n2, si_istore_n3, si_istore, si_astore_n0, si_astore_n1, si_astore_n2, si_astore_n3, si_astore, si_lstore_n0, si_lstore_n1, si_lstore_n2, si_lstore_n3, si_lstore, si_iconst, si_bipush, si_sipush, si_ldc, si_ldc2_w, si_lconst0, si_lconst1, si_aconst_null, si_iinc, si_dup, si_dup2, si_iadd, si_isub, si_imul, si_idiv, si_irem, si_iand, si_ior, si_ishl, si_ishr, si_ladd, si_lmul, si_lor, si_lxor, si_lshl, si_lushr, si_lcmp, si_i2b, si_i2l, si_l2i, si_icmp_eq, si_icmp_ne, si_icmp_lt, si_icmp_ge, si_icmp_gt, si_icmp_le, si_if_eq, si_if_ne, si_if_lt, si_if_ge, si_if_gt, si_if_le, si_ifnull, si_ifnonnull, si_goto, si_tableswitch, si_lookupswitch, si_getfield, si_putfield, si_getstatic, si_iaload, si_baload, si_laload, si_aaload, si_iastore, si_bastore, si_lastore, si_aastore, si_arraylength, si_new, si_newarray, si_anewarray, si_invokevirtual, si_invokespecial, si_invokestatic, si_ireturn, si_lreturn, si_areturn, si_return_, pI_e, pL_e, pR_e, pA_r, pA_n, pN_n, pN_r, oI_e, oL_e, oA_r, oA_n, lget_e, lrm1_0, lrm2_0, lrm1_i, lrm1_r, lrm1_n, lrm1_l, lrm2_i, lrm2_r, lrm2_n, lrm2_l, popN_0, popN_s, acat_i, acat_l, acat_r, acat_n, stw_0, stw_s, psh_s, psh_n, wgf_r, wgf_i, wgf_b, wgf_n, wgf_m, wpf_i, wpf_r, wpf_b, wnew_e, callE_e, rbk_0, rbk_1, tsw_0, tsw_s, lsw_0, lsw_s, wp_s, wq_t, wq_f, oV_e, pick_0, pick_s, oZ_e, oY_e, r_Tape_put_0, r_Tape_put_2, r_Tape_put_3, r_Tape_put_4, r_Tape_put_7, r_Tape_put_8, r_Tape_put_11, r_Tape_put_14, r_Tape_put_17, r_Tape_put_18, r_Tape_put_21, r_Tape_put_22, r_Tape_put_25, r_Tape_put_26, r_Tape_put_27, r_Tape_put_28, r_Tape_put_29, r_Tape_put_30, r_Tape_put_31, r_Tape_put_32, r_Tape_put_35, r_Tape_put_36, r_Tape_put_37, r_Tape_put_40, r_Tape_put_43, r_Tape_put_46, xf_Tape_put_9, xf_Tape_put_15, xd_Tape_put, xrb_Tape_put, xin_Tape_put, lh, lp0, lq0, Nat.reduceAdd, Nat.reduceMul, Nat.reduceEqDiff, reduceIte, Int.reduceNeg, Int.reduceLE, Int.reduceLT, Int.reduceAdd, Int.reduceSub, Int.reduceToNat, true_and, and_true, inR_e, Nat.reduceLT, Nat.reduceLeDiff, reduceCtorEq, Nat.add_zero, Nat.zero_add, or_false, false_or, or_true, true_or, not_true_eq_false, not_false_eq_true, Classical.not_not, Nat.add_eq_zero_iff, and_false, false_and, Int.reduceEq, List.mem_cons, List.not_mem_nil, forall_eq_or_imp, forall_eq, false_implies, implies_true, forall_const, aargs_0, aargs_i, aargs_r, aargs_l, aargs_n, nfT_e, eq_self, and_self, Nat.le_refl, fu_s, fu_fu, iu_iu, iu_s, fu_am, fu_a0, fu_0a, iu_l, Nat.reduceBEq, Int.reduceBEq, T_objInit_e]
    refine ⟨fun h => ?_, fun h => ⟨fun h2 => by omega, fun h2 => ?_⟩⟩
    · have e : n = 4 := by omega
      subst e
      exact hT
    · repeat' apply And.intro
      all_goals first | omega | skip
      · rw [hJd]
        exact ⟨rfl, n + 1, by omega, congrArg (fun z => [vR o, vI w, vI z]) (by omega), rfl⟩
      · exact (by rw [hμ]; simp only [gI_e, List.getD_cons_succ, List.getD_cons_zero]; omega)
def TF_Tape_at (o : Nat) (p : Int) (sz sl : Nat) (lay : Nat → Nat × Int) (ρ : Nat → Int → Nat) (σ : Nat → Int → Int) (τ : Nat → Int → Int64) (k : Option AV → Mm → Prop) : Prop := LTape lay ρ o ∧ (0 ≤ σ o 1 ∧ σ o 1 ≤ 8000) ∧ (0 ≤ p ∧ p < σ o 1 → k (some (vI (σ (o + 1) p % 256))) (sz, sl, lay, ρ, σ, τ)) ∧ (¬ (0 ≤ p ∧ p < σ o 1) → k (some (vI (-1))) (sz, sl, lay, ρ, σ, τ))
def T_Tape_at : Tr := mkT 6 fun o as M k => pI as fun p as => as = [] ∧ TF_Tape_at o p M.1 M.2.1 M.2.2.1 M.2.2.2.1 M.2.2.2.2.1 M.2.2.2.2.2 k
theorem T_Tape_at_e {o : Nat} {p : Int} {sz sl : Nat} {lay : Nat → Nat × Int} {ρ : Nat → Int → Nat} {σ : Nat → Int → Int} {τ : Nat → Int → Int64} {k : Option AV → Mm → Prop} : T_Tape_at [vR o, vI p] (sz, sl, lay, ρ, σ, τ) k = (lay o = (16, 0) ∧ TF_Tape_at o p sz sl lay ρ σ τ k) := by simp [T_Tape_at, mkT_e, pI_e, pR_e, pL_e]
theorem T_Tape_at_r (as : List AV) (M : Mm) (k : Option AV → Mm → Prop) (h : T_Tape_at as M k) : ∃ b As, as = vR b :: As ∧ M.2.2.1 b = (10 + 6, 0) := by
  obtain ⟨b, As, h1, h2, -⟩ := mkT_r h
  exact ⟨b, As, h1, h2⟩
def tb_Tape_at : List (Nat × Option (List Nat) × Instr × List Nat) := [(0, none, .iload_n 1, []), (1, none, .ifCond .lt 11, [12]), (4, none, .iload_n 1, []), (5, none, .aload_n 0, []), (6, none, .getfield 15, []), (9, none, .if_icmp .lt 7, [16]), (12, none, .iconst (-1), []), (13, none, .goto 13, [26]), (16, none, .aload_n 0, []), (17, none, .getfield 9, []), (20, none, .iload_n 1, []), (21, none, .baload, []), (22, none, .sipush 255, []), (25, none, .iand, []), (26, none, .ireturn, [])]
def P_Tape_at : Nat → Option (List Nat) × Instr × List Nat := plk tb_Tape_at
theorem r_Tape_at_0 : P_Tape_at 0 = (none, .iload_n 1, []) := by decide +kernel
theorem r_Tape_at_1 : P_Tape_at 1 = (none, .ifCond .lt 11, [12]) := by decide +kernel
theorem r_Tape_at_4 : P_Tape_at 4 = (none, .iload_n 1, []) := by decide +kernel
theorem r_Tape_at_5 : P_Tape_at 5 = (none, .aload_n 0, []) := by decide +kernel
theorem r_Tape_at_6 : P_Tape_at 6 = (none, .getfield 15, []) := by decide +kernel
theorem r_Tape_at_9 : P_Tape_at 9 = (none, .if_icmp .lt 7, [16]) := by decide +kernel
theorem r_Tape_at_12 : P_Tape_at 12 = (none, .iconst (-1), []) := by decide +kernel
theorem r_Tape_at_13 : P_Tape_at 13 = (none, .goto 13, [26]) := by decide +kernel
theorem r_Tape_at_16 : P_Tape_at 16 = (none, .aload_n 0, []) := by decide +kernel
theorem r_Tape_at_17 : P_Tape_at 17 = (none, .getfield 9, []) := by decide +kernel
theorem r_Tape_at_20 : P_Tape_at 20 = (none, .iload_n 1, []) := by decide +kernel
theorem r_Tape_at_21 : P_Tape_at 21 = (none, .baload, []) := by decide +kernel
theorem r_Tape_at_22 : P_Tape_at 22 = (none, .sipush 255, []) := by decide +kernel
theorem r_Tape_at_25 : P_Tape_at 25 = (none, .iand, []) := by decide +kernel
theorem r_Tape_at_26 : P_Tape_at 26 = (none, .ireturn, []) := by decide +kernel
def E_Tape_at : List (Nat × Ent) := []
def X_Tape_at : Cx := (llk (0, 0, 9) ftX6, llk 99 ntX6, llk none kcX6, llk none klX6, llk dEnt E_Tape_at, 0, 0, false)
theorem xok_Tape_at : Xok RX6 X_Tape_at := xok_of ftX6_ok ntX6_ok kcX6_ok klX6_ok (E := E_Tape_at) (fun _ h => absurd h List.not_mem_nil)
theorem xf_Tape_at_9 : xfl X_Tape_at 9 = (6, 0, 1) := by decide +kernel
theorem xf_Tape_at_15 : xfl X_Tape_at 15 = (6, 1, 0) := by decide +kernel
theorem xd_Tape_at : xd X_Tape_at = 0 := rfl
theorem xrb_Tape_at : xrb X_Tape_at = 0 := rfl
theorem xin_Tape_at : xin X_Tape_at = false := rfl
set_option maxHeartbeats 4000000 in
set_option maxRecDepth 100000 in
theorem S_Tape_at : Snd yX6_at cX6_at 2 (some .int) T_Tape_at 0 0 0 := by
  refine snd_of (X := X_Tape_at) (P := P_Tape_at) (tb := tb_Tape_at) (own := RX6) (by decide) rfl rfl (by decide +kernel) xok_Tape_at rfl rk0 (fun h => by first | rfl | cases h) ?_
  intro as M k has hM hT0
  obtain ⟨sz, sl, lay, ρ, σ, τ⟩ := M
  obtain ⟨o, as1, e, hlo, hT1⟩ := mkT_r hT0
  clear hT0
  subst e
  obtain ⟨p, as2, e, hT2⟩ := pI_x hT1
  clear hT1
  subst e
  obtain ⟨e, hT⟩ := hT2
  subst e
  replace hlo : lay o = (16, 0) := hlo
  have r_p : -2147483648 ≤ p ∧ p ≤ 2147483647 := has (vI p) (by simp)
  clear has
  replace hM : ∀ a i, -2147483648 ≤ σ a i ∧ σ a i ≤ 2147483647 := hM
  replace hT : TF_Tape_at o p sz sl lay ρ σ τ k := hT
  unfold TF_Tape_at at hT
  obtain ⟨hL, hn, h1, h0⟩ := hT
  obtain ⟨lh, lp0, lq0⟩ := (show LTape lay ρ _ from hL)
  refine ⟨Nat.le_of_ble_eq_true rfl, fun _ _ _ => False, fun _ _ _ => 0, 23, ?_, fun _ _ _ _ _ _ h => h.elim⟩
  unfold wps
  simp only [si_iload_n0, si_iload_n1, si_iload_n2, si_iload_n3, si_iload, si_lload_n0, si_lload_n1, si_lload_n2, si_lload_n3, si_lload, si_aload_n0, si_aload_n1, si_aload_n2, si_aload_n3, si_aload, si_istore_n0, si_istore_n1, si_istore_n2, si_istore_n3, si_istore, si_astore_n0, si_astore_n1, si_astore_n2, si_astore_n3, si_astore, si_lstore_n0, si_lstore_n1, si_lstore_n2, si_lstore_n3, si_lstore, si_iconst, si_bipush, si_sipush, si_ldc, si_ldc2_w, si_lconst0, si_lconst1, si_aconst_null, si_iinc, si_dup, si_dup2, si_iadd, si_isub, si_imul, si_idiv, si_irem, si_iand, si_ior, si_ishl, si_ishr, si_ladd, si_lmul, si_lor, si_lxor, si_lshl, si_lushr, si_lcmp, si_i2b, si_i2l, si_l2i, si_icmp_eq, si_icmp_ne, si_icmp_lt, si_icmp_ge, si_icmp_gt, si_icmp_le, si_if_eq, si_if_ne, si_if_lt, si_if_ge, si_if_gt, si_if_le, si_ifnull, si_ifnonnull, si_goto, si_tableswitch, si_lookupswitch, si_getfield, si_putfield, si_getstatic, si_iaload, si_baload, si_laload, si_aaload, si_iastore, si_bastore, si_lastore, si_aastore, si_arraylength, si_new, si_newarray, si_anewarray, si_invokevirtual, si_invokespecial, si_invokestatic, si_ireturn, si_lreturn, si_areturn, si_return_, pI_e, pL_e, pR_e, pA_r, pA_n, pN_n, pN_r, oI_e, oL_e, oA_r, oA_n, lget_e, lrm1_0, lrm2_0, lrm1_i, lrm1_r, lrm1_n, lrm1_l, lrm2_i, lrm2_r, lrm2_n, lrm2_l, popN_0, popN_s, acat_i, acat_l, acat_r, acat_n, stw_0, stw_s, psh_s, psh_n, wgf_r, wgf_i, wgf_b, wgf_n, wgf_m, wpf_i, wpf_r, wpf_b, wnew_e, callE_e, rbk_0, rbk_1, tsw_0, tsw_s, lsw_0, lsw_s, wp_s, wq_t, wq_f, oV_e, pick_0, pick_s, oZ_e, oY_e, r_Tape_at_0, r_Tape_at_1, r_Tape_at_4, r_Tape_at_5, r_Tape_at_6, r_Tape_at_9, r_Tape_at_12, r_Tape_at_13, r_Tape_at_16, r_Tape_at_17, r_Tape_at_20, r_Tape_at_21, r_Tape_at_22, r_Tape_at_25, r_Tape_at_26, xf_Tape_at_9, xf_Tape_at_15, xd_Tape_at, xrb_Tape_at, xin_Tape_at, lh, lp0, lq0, andZ_255, Nat.reduceAdd, Nat.reduceMul, Nat.reduceEqDiff, reduceIte, Int.reduceNeg, Int.reduceLE, Int.reduceLT, Int.reduceAdd, Int.reduceSub, Int.reduceToNat, true_and, and_true, inR_e, Nat.reduceLT, Nat.reduceLeDiff, reduceCtorEq, Nat.add_zero, Nat.zero_add, or_false, false_or, or_true, true_or, not_true_eq_false, not_false_eq_true, Classical.not_not, Nat.add_eq_zero_iff, and_false, false_and, Int.reduceEq, List.mem_cons, List.not_mem_nil, forall_eq_or_imp, forall_eq, false_implies, implies_true, forall_const, aargs_0, aargs_i, aargs_r, aargs_l, aargs_n, nfT_e, eq_self, and_self, Nat.le_refl, fu_s, fu_fu, iu_iu, iu_s, fu_am, fu_a0, fu_0a, iu_l, Nat.reduceBEq, Int.reduceBEq, T_objInit_e]
  repeat' (first | assumption | intro _ | apply And.intro)
  all_goals first | omega | assumption | (exact h1 (by omega)) | (exact h0 (by omega)) | (exact h1 ⟨by omega, by omega⟩) | (exact h0 ⟨by omega, by omega⟩) | (exact h1 ⟨by omega, by omega, by omega⟩) | (exact h0 ⟨by omega, by omega, by omega⟩)
theorem co_X6_76 : CallOK RX6 (.invokevirtual 19) (2, 0, 0, 0, T_Tape_at) := call_V S_Tape_at (by decide) (ci := 6) rfl (by decide +kernel) (by decide +kernel) (by decide +kernel) (by decide +kernel) (by decide +kernel) (by decide +kernel) T_Tape_at_r
def TF_Tape_pairAt (o : Nat) (p : Int) (sz sl : Nat) (lay : Nat → Nat × Int) (ρ : Nat → Int → Nat) (σ : Nat → Int → Int) (τ : Nat → Int → Int64) (k : Option AV → Mm → Prop) : Prop := LTape lay ρ o ∧ (0 ≤ σ o 1 ∧ σ o 1 ≤ 8000) ∧ p ≤ 2147483646 ∧ (0 ≤ p ∧ p + 1 < σ o 1 → k (some (vI (256 * (σ (o + 1) p % 256) + σ (o + 1) (p + 1) % 256))) (sz, sl, lay, ρ, σ, τ)) ∧ (¬ (0 ≤ p ∧ p + 1 < σ o 1) → k (some (vI (-1))) (sz, sl, lay, ρ, σ, τ))
def T_Tape_pairAt : Tr := mkT 6 fun o as M k => pI as fun p as => as = [] ∧ TF_Tape_pairAt o p M.1 M.2.1 M.2.2.1 M.2.2.2.1 M.2.2.2.2.1 M.2.2.2.2.2 k
theorem T_Tape_pairAt_e {o : Nat} {p : Int} {sz sl : Nat} {lay : Nat → Nat × Int} {ρ : Nat → Int → Nat} {σ : Nat → Int → Int} {τ : Nat → Int → Int64} {k : Option AV → Mm → Prop} : T_Tape_pairAt [vR o, vI p] (sz, sl, lay, ρ, σ, τ) k = (lay o = (16, 0) ∧ TF_Tape_pairAt o p sz sl lay ρ σ τ k) := by simp [T_Tape_pairAt, mkT_e, pI_e, pR_e, pL_e]
theorem T_Tape_pairAt_r (as : List AV) (M : Mm) (k : Option AV → Mm → Prop) (h : T_Tape_pairAt as M k) : ∃ b As, as = vR b :: As ∧ M.2.2.1 b = (10 + 6, 0) := by
  obtain ⟨b, As, h1, h2, -⟩ := mkT_r h
  exact ⟨b, As, h1, h2⟩
def tb_Tape_pairAt : List (Nat × Option (List Nat) × Instr × List Nat) := [(0, none, .aload_n 0, []), (1, none, .iload_n 1, []), (2, none, .invokevirtual 19, []), (5, none, .istore_n 2, []), (6, none, .aload_n 0, []), (7, none, .iload_n 1, []), (8, none, .iconst 1, []), (9, none, .iadd, []), (10, none, .invokevirtual 19, []), (13, none, .istore_n 3, []), (14, none, .iload_n 2, []), (15, none, .iconst (-1), []), (16, none, .if_icmp .eq 8, [24]), (19, none, .iload_n 3, []), (20, none, .iconst (-1), []), (21, none, .if_icmp .ne 7, [28]), (24, none, .iconst (-1), []), (25, none, .goto 9, [34]), (28, none, .iload_n 2, []), (29, none, .bipush 8, []), (31, none, .ishl, []), (32, none, .iload_n 3, []), (33, none, .ior, []), (34, none, .ireturn, [])]
def P_Tape_pairAt : Nat → Option (List Nat) × Instr × List Nat := plk tb_Tape_pairAt
theorem r_Tape_pairAt_0 : P_Tape_pairAt 0 = (none, .aload_n 0, []) := by decide +kernel
theorem r_Tape_pairAt_1 : P_Tape_pairAt 1 = (none, .iload_n 1, []) := by decide +kernel
theorem r_Tape_pairAt_2 : P_Tape_pairAt 2 = (none, .invokevirtual 19, []) := by decide +kernel
theorem r_Tape_pairAt_5 : P_Tape_pairAt 5 = (none, .istore_n 2, []) := by decide +kernel
theorem r_Tape_pairAt_6 : P_Tape_pairAt 6 = (none, .aload_n 0, []) := by decide +kernel
theorem r_Tape_pairAt_7 : P_Tape_pairAt 7 = (none, .iload_n 1, []) := by decide +kernel
theorem r_Tape_pairAt_8 : P_Tape_pairAt 8 = (none, .iconst 1, []) := by decide +kernel
theorem r_Tape_pairAt_9 : P_Tape_pairAt 9 = (none, .iadd, []) := by decide +kernel
theorem r_Tape_pairAt_10 : P_Tape_pairAt 10 = (none, .invokevirtual 19, []) := by decide +kernel
theorem r_Tape_pairAt_13 : P_Tape_pairAt 13 = (none, .istore_n 3, []) := by decide +kernel
theorem r_Tape_pairAt_14 : P_Tape_pairAt 14 = (none, .iload_n 2, []) := by decide +kernel
theorem r_Tape_pairAt_15 : P_Tape_pairAt 15 = (none, .iconst (-1), []) := by decide +kernel
theorem r_Tape_pairAt_16 : P_Tape_pairAt 16 = (none, .if_icmp .eq 8, [24]) := by decide +kernel
theorem r_Tape_pairAt_19 : P_Tape_pairAt 19 = (none, .iload_n 3, []) := by decide +kernel
theorem r_Tape_pairAt_20 : P_Tape_pairAt 20 = (none, .iconst (-1), []) := by decide +kernel
theorem r_Tape_pairAt_21 : P_Tape_pairAt 21 = (none, .if_icmp .ne 7, [28]) := by decide +kernel
theorem r_Tape_pairAt_24 : P_Tape_pairAt 24 = (none, .iconst (-1), []) := by decide +kernel
theorem r_Tape_pairAt_25 : P_Tape_pairAt 25 = (none, .goto 9, [34]) := by decide +kernel
theorem r_Tape_pairAt_28 : P_Tape_pairAt 28 = (none, .iload_n 2, []) := by decide +kernel
theorem r_Tape_pairAt_29 : P_Tape_pairAt 29 = (none, .bipush 8, []) := by decide +kernel
theorem r_Tape_pairAt_31 : P_Tape_pairAt 31 = (none, .ishl, []) := by decide +kernel
theorem r_Tape_pairAt_32 : P_Tape_pairAt 32 = (none, .iload_n 3, []) := by decide +kernel
theorem r_Tape_pairAt_33 : P_Tape_pairAt 33 = (none, .ior, []) := by decide +kernel
theorem r_Tape_pairAt_34 : P_Tape_pairAt 34 = (none, .ireturn, []) := by decide +kernel
def E_Tape_pairAt : List (Nat × Ent) := [(76, (2, 0, 0, 0, T_Tape_at))]
def X_Tape_pairAt : Cx := (llk (0, 0, 9) ftX6, llk 99 ntX6, llk none kcX6, llk none klX6, llk dEnt E_Tape_pairAt, 1, 0, false)
theorem xok_Tape_pairAt : Xok RX6 X_Tape_pairAt := xok_of ftX6_ok ntX6_ok kcX6_ok klX6_ok (E := E_Tape_pairAt) (List.forall_mem_cons.mpr ⟨co_X6_76, fun _ h => absurd h List.not_mem_nil⟩)
theorem xe_Tape_pairAt_76 : xE X_Tape_pairAt (4 * 19 + 0) = (2, 0, 0, 0, T_Tape_at) := rfl
theorem xd_Tape_pairAt : xd X_Tape_pairAt = 1 := rfl
theorem xrb_Tape_pairAt : xrb X_Tape_pairAt = 0 := rfl
theorem xin_Tape_pairAt : xin X_Tape_pairAt = false := rfl
set_option maxHeartbeats 4000000 in
set_option maxRecDepth 100000 in
theorem S_Tape_pairAt : Snd yX6_pairAt cX6_pairAt 4 (some .int) T_Tape_pairAt 1 0 0 := by
  refine snd_of (X := X_Tape_pairAt) (P := P_Tape_pairAt) (tb := tb_Tape_pairAt) (own := RX6) (by decide) rfl rfl (by decide +kernel) xok_Tape_pairAt rfl rk0 (fun h => by first | rfl | cases h) ?_
  intro as M k has hM hT0
  obtain ⟨sz, sl, lay, ρ, σ, τ⟩ := M
  obtain ⟨o, as1, e, hlo, hT1⟩ := mkT_r hT0
  clear hT0
  subst e
  obtain ⟨p, as2, e, hT2⟩ := pI_x hT1
  clear hT1
  subst e
  obtain ⟨e, hT⟩ := hT2
  subst e
  replace hlo : lay o = (16, 0) := hlo
  have r_p : -2147483648 ≤ p ∧ p ≤ 2147483647 := has (vI p) (by simp)
  clear has
  replace hM : ∀ a i, -2147483648 ≤ σ a i ∧ σ a i ≤ 2147483647 := hM
  replace hT : TF_Tape_pairAt o p sz sl lay ρ σ τ k := hT
  unfold TF_Tape_pairAt at hT
  obtain ⟨hL, hn, hp, h1, h0⟩ := hT
  obtain ⟨lh, lp0, lq0⟩ := (show LTape lay ρ _ from hL)
  refine ⟨Nat.le_of_ble_eq_true rfl, fun _ _ _ => False, fun _ _ _ => 0, 32, ?_, fun _ _ _ _ _ _ h => h.elim⟩
  unfold wps
  simp only [si_iload_n0, si_iload_n1, si_iload_n2, si_iload_n3, si_iload, si_lload_n0, si_lload_n1, si_lload_n2, si_lload_n3, si_lload, si_aload_n0, si_aload_n1, si_aload_n2, si_aload_n3, si_aload, si_istore_n0, si_istore_n1, si_istore_n2, si_istore_n3, si_istore, si_astore_n0, si_astore_n1, si_astore_n2, si_astore_n3, si_astore, si_lstore_n0, si_lstore_n1, si_lstore_n2, si_lstore_n3, si_lstore, si_iconst, si_bipush, si_sipush, si_ldc, si_ldc2_w, si_lconst0, si_lconst1, si_aconst_null, si_iinc, si_dup, si_dup2, si_iadd, si_isub, si_imul, si_idiv, si_irem, si_iand, si_ior, si_ishl, si_ishr, si_ladd, si_lmul, si_lor, si_lxor, si_lshl, si_lushr, si_lcmp, si_i2b, si_i2l, si_l2i, si_icmp_eq, si_icmp_ne, si_icmp_lt, si_icmp_ge, si_icmp_gt, si_icmp_le, si_if_eq, si_if_ne, si_if_lt, si_if_ge, si_if_gt, si_if_le, si_ifnull, si_ifnonnull, si_goto, si_tableswitch, si_lookupswitch, si_getfield, si_putfield, si_getstatic, si_iaload, si_baload, si_laload, si_aaload, si_iastore, si_bastore, si_lastore, si_aastore, si_arraylength, si_new, si_newarray, si_anewarray, si_invokevirtual, si_invokespecial, si_invokestatic, si_ireturn, si_lreturn, si_areturn, si_return_, pI_e, pL_e, pR_e, pA_r, pA_n, pN_n, pN_r, oI_e, oL_e, oA_r, oA_n, lget_e, lrm1_0, lrm2_0, lrm1_i, lrm1_r, lrm1_n, lrm1_l, lrm2_i, lrm2_r, lrm2_n, lrm2_l, popN_0, popN_s, acat_i, acat_l, acat_r, acat_n, stw_0, stw_s, psh_s, psh_n, wgf_r, wgf_i, wgf_b, wgf_n, wgf_m, wpf_i, wpf_r, wpf_b, wnew_e, callE_e, rbk_0, rbk_1, tsw_0, tsw_s, lsw_0, lsw_s, wp_s, wq_t, wq_f, oV_e, pick_0, pick_s, oZ_e, oY_e, r_Tape_pairAt_0, r_Tape_pairAt_1, r_Tape_pairAt_2, r_Tape_pairAt_5, r_Tape_pairAt_6, r_Tape_pairAt_7, r_Tape_pairAt_8, r_Tape_pairAt_9, r_Tape_pairAt_10, r_Tape_pairAt_13, r_Tape_pairAt_14, r_Tape_pairAt_15, r_Tape_pairAt_16, r_Tape_pairAt_19, r_Tape_pairAt_20, r_Tape_pairAt_21, r_Tape_pairAt_24, r_Tape_pairAt_25, r_Tape_pairAt_28, r_Tape_pairAt_29, r_Tape_pairAt_31, r_Tape_pairAt_32, r_Tape_pairAt_33, r_Tape_pairAt_34, xe_Tape_pairAt_76, xd_Tape_pairAt, xrb_Tape_pairAt, xin_Tape_pairAt, T_Tape_at_e, TF_Tape_at, lh, lp0, lq0, Nat.reduceAdd, Nat.reduceMul, Nat.reduceEqDiff, reduceIte, Int.reduceNeg, Int.reduceLE, Int.reduceLT, Int.reduceAdd, Int.reduceSub, Int.reduceToNat, true_and, and_true, inR_e, Nat.reduceLT, Nat.reduceLeDiff, reduceCtorEq, Nat.add_zero, Nat.zero_add, or_false, false_or, or_true, true_or, not_true_eq_false, not_false_eq_true, Classical.not_not, Nat.add_eq_zero_iff, and_false, false_and, Int.reduceEq, List.mem_cons, List.not_mem_nil, forall_eq_or_imp, forall_eq, false_implies, implies_true, forall_const, aargs_0, aargs_i, aargs_r, aargs_l, aargs_n, nfT_e, eq_self, and_self, Nat.le_refl, fu_s, fu_fu, iu_iu, iu_s, fu_am, fu_a0, fu_0a, iu_l, Nat.reduceBEq, Int.reduceBEq, T_objInit_e]
  refine ⟨hL, hn, fun a => ?_, fun a => ?_⟩
  · refine ⟨by omega, hL, hn, fun b => ?_, fun b => ?_⟩
    · have e1 := orZ_pair (a := σ (o + 1) p % 256) (b := σ (o + 1) (p + 1) % 256) (by omega) (by omega)
      rw [e1]
      have h1 := h1 (by omega)
      repeat' (first | assumption | intro _ | apply And.intro)
      all_goals first | omega | assumption | (exact h1 (by omega)) | (exact h0 (by omega)) | (exact h1 ⟨by omega, by omega⟩) | (exact h0 ⟨by omega, by omega⟩) | (exact h1 ⟨by omega, by omega, by omega⟩) | (exact h0 ⟨by omega, by omega, by omega⟩) | skip
    · have h0 := h0 (by omega)
      repeat' (first | assumption | intro _ | apply And.intro)
      all_goals first | omega | assumption | (exact h1 (by omega)) | (exact h0 (by omega)) | (exact h1 ⟨by omega, by omega⟩) | (exact h0 ⟨by omega, by omega⟩) | (exact h1 ⟨by omega, by omega, by omega⟩) | (exact h0 ⟨by omega, by omega, by omega⟩) | skip
  · have h0 := h0 (by omega)
    repeat' (first | assumption | intro _ | apply And.intro)
    all_goals first | omega | assumption | (exact h1 (by omega)) | (exact h0 (by omega)) | (exact h1 ⟨by omega, by omega⟩) | (exact h0 ⟨by omega, by omega⟩) | (exact h1 ⟨by omega, by omega, by omega⟩) | (exact h0 ⟨by omega, by omega, by omega⟩) | skip

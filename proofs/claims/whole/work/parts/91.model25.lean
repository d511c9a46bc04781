/-- the least of a set above y; -1: there is none -/
def Lst (S : Int → Prop) (y b : Int) : Prop := (b = -1 ∧ ∀ n, S n → n ≤ y) ∨ (S b ∧ y < b ∧ ∀ n, S n → y < n → b ≤ n)
theorem Lst.c {S T : Int → Prop} {y b : Int} (h : Lst S y b) (e : ∀ n, S n ↔ T n) : Lst T y b := by
  rcases h with ⟨h1, h2⟩ | ⟨h1, h2, h3⟩
  · exact Or.inl ⟨h1, fun n hn => h2 n ((e n).mpr hn)⟩
  · exact Or.inr ⟨(e b).mp h1, h2, fun n hn => h3 n ((e n).mpr hn)⟩
theorem Lst.old {S T : Int → Prop} {y b m : Int} (h : Lst S y b) (e : ∀ n, T n ↔ S n ∨ n = m) (g : m ≤ y ∨ (0 ≤ b ∧ b ≤ m)) : Lst T y b := by
  rcases h with ⟨h1, h2⟩ | ⟨h1, h2, h3⟩
  · refine Or.inl ⟨h1, fun n hn => ?_⟩
    rcases (e n).mp hn with z | z
    · exact h2 n z
    · omega
  · refine Or.inr ⟨(e b).mpr (Or.inl h1), h2, fun n hn hy => ?_⟩
    rcases (e n).mp hn with z | z
    · exact h3 n z hy
    · omega
theorem Lst.new {S T : Int → Prop} {y b m : Int} (h : Lst S y b) (e : ∀ n, T n ↔ S n ∨ n = m) (g : y < m) (g2 : b < 0 ∨ m < b) (hy : 0 ≤ y) : Lst T y m := by
  refine Or.inr ⟨(e m).mpr (Or.inr rfl), g, fun n hn hyn => ?_⟩
  rcases (e n).mp hn with z | z
  · rcases h with ⟨h1, h2⟩ | ⟨h1, h2, h3⟩
    · have := h2 n z; omega
    · have := h3 n z hyn; omega
  · omega
def inP (U : Int → Int) (st : Nat → Int → Int) (V : Int → Int) (su : Nat → Int → Int) (n : Int) : Prop := 0 ≤ fn U st n ∨ 0 ≤ fn V su n
def upN (U : Int → Int) (st : Nat → Int → Int) (i n : Int) : Prop := ∃ j, (0 ≤ j ∧ j < i) ∧ numA U (st 2) j = n
theorem upN_s {U : Int → Int} {st : Nat → Int → Int} {i n : Int} (hi : 0 ≤ i) : upN U st (i + 1) n ↔ upN U st i n ∨ n = numA U (st 2) i := by
  constructor
  · intro ⟨j, hj, e⟩
    by_cases g : j = i
    · rw [g] at e; exact Or.inr e.symm
    · exact Or.inl ⟨j, by omega, e⟩
  · intro h
    rcases h with ⟨j, hj, e⟩ | e
    · exact ⟨j, by omega, e⟩
    · exact ⟨i, by omega, e.symm⟩
theorem upN_f {U : Int → Int} {len : Int} {st : Nat → Int → Int} (h : SW U len st) (n : Int) : upN U st (st 0 7) n ↔ 0 ≤ fn U st n := by
  constructor
  · intro ⟨j, hj, e⟩
    rw [← e, h.fnN hj]
    exact hj.1
  · intro z
    rcases h.fnR n with e | e
    · omega
    · exact ⟨_, e.1, e.2⟩
def TF_Model_nextNumber (o : Nat) (p : Int) (q : Int) (y : Int) (sz sl : Nat) (lay : Nat → Nat × Int) (ρ : Nat → Int → Nat) (σ : Nat → Int → Int) (τ : Nat → Int → Int64) (k : Option AV → Mm → Prop) : Prop := LModel lay ρ o ∧ ∃ (U : Int → Int) (len : Int) (st : Nat → Int → Int) (V : Int → Int) (lem : Int) (su : Nat → Int → Int), (SW U len st ∧ MR σ o p U len st) ∧ (SW V lem su ∧ MR σ o q V lem su) ∧ 0 ≤ y ∧ ∀ z, Lst (inP U st V su) y z → k (some (vI (z))) (sz, sl, lay, ρ, σ, τ)
def T_Model_nextNumber : Tr := mkT 11 fun o as M k => pI as fun p as => pI as fun q as => pI as fun y as => as = [] ∧ TF_Model_nextNumber o p q y M.1 M.2.1 M.2.2.1 M.2.2.2.1 M.2.2.2.2.1 M.2.2.2.2.2 k
theorem T_Model_nextNumber_e {o : Nat} {p : Int} {q : Int} {y : Int} {sz sl : Nat} {lay : Nat → Nat × Int} {ρ : Nat → Int → Nat} {σ : Nat → Int → Int} {τ : Nat → Int → Int64} {k : Option AV → Mm → Prop} : T_Model_nextNumber [vR o, vI p, vI q, vI y] (sz, sl, lay, ρ, σ, τ) k = (lay o = (21, 0) ∧ TF_Model_nextNumber o p q y sz sl lay ρ σ τ k) := by simp [T_Model_nextNumber, mkT_e, pI_e, pR_e, pL_e]
theorem T_Model_nextNumber_r (as : List AV) (M : Mm) (k : Option AV → Mm → Prop) (h : T_Model_nextNumber as M k) : ∃ b As, as = vR b :: As ∧ M.2.2.1 b = (10 + 11, 0) := by
  obtain ⟨b, As, h1, h2, -⟩ := mkT_r h
  exact ⟨b, As, h1, h2⟩
def tb_Model_nextNumber : List (Nat × Option (List Nat) × Instr × List Nat) := [(0, none, .iconst (-1), []), (1, none, .istore 4, []), (3, none, .iconst 0, []), (4, none, .istore 5, []), (6, some [0, 1, 2, 3, 4, 5], .iload 5, []), (8, none, .aload_n 0, []), (9, none, .getfield 50, []), (12, none, .iload_n 1, []), (13, none, .iaload, []), (14, none, .if_icmp .ge 45, [59]), (17, none, .aload_n 0, []), (18, none, .iload_n 1, []), (19, none, .iload 5, []), (21, none, .invokevirtual 165, []), (24, none, .istore 6, []), (26, none, .iload 6, []), (28, none, .iload_n 3, []), (29, none, .if_icmp .le 20, [49]), (32, none, .iload 4, []), (34, none, .ifCond .lt 10, [44]), (37, none, .iload 6, []), (39, none, .iload 4, []), (41, none, .if_icmp .ge 8, [49]), (44, none, .iload 6, []), (46, none, .goto 5, [51]), (49, none, .iload 4, []), (51, none, .istore 4, []), (53, none, .iinc 5 1, []), (56, none, .goto (-50), [6]), (59, none, .iconst 0, []), (60, none, .istore 5, []), (62, some [0, 1, 2, 3, 4, 5], .iload 5, []), (64, none, .aload_n 0, []), (65, none, .getfield 50, []), (68, none, .iload_n 2, []), (69, none, .iaload, []), (70, none, .if_icmp .ge 45, [115]), (73, none, .aload_n 0, []), (74, none, .iload_n 2, []), (75, none, .iload 5, []), (77, none, .invokevirtual 165, []), (80, none, .istore 6, []), (82, none, .iload 6, []), (84, none, .iload_n 3, []), (85, none, .if_icmp .le 20, [105]), (88, none, .iload 4, []), (90, none, .ifCond .lt 10, [100]), (93, none, .iload 6, []), (95, none, .iload 4, []), (97, none, .if_icmp .ge 8, [105]), (100, none, .iload 6, []), (102, none, .goto 5, [107]), (105, none, .iload 4, []), (107, none, .istore 4, []), (109, none, .iinc 5 1, []), (112, none, .goto (-50), [62]), (115, none, .iload 4, []), (117, none, .ireturn, [])]
def P_Model_nextNumber : Nat → Option (List Nat) × Instr × List Nat := plk tb_Model_nextNumber
theorem r_Model_nextNumber_0 : P_Model_nextNumber 0 = (none, .iconst (-1), []) := by decide +kernel
theorem r_Model_nextNumber_1 : P_Model_nextNumber 1 = (none, .istore 4, []) := by decide +kernel
theorem r_Model_nextNumber_3 : P_Model_nextNumber 3 = (none, .iconst 0, []) := by decide +kernel
theorem r_Model_nextNumber_4 : P_Model_nextNumber 4 = (none, .istore 5, []) := by decide +kernel
theorem r_Model_nextNumber_6 : P_Model_nextNumber 6 = (some [0, 1, 2, 3, 4, 5], .iload 5, []) := by decide +kernel
theorem r_Model_nextNumber_8 : P_Model_nextNumber 8 = (none, .aload_n 0, []) := by decide +kernel
theorem r_Model_nextNumber_9 : P_Model_nextNumber 9 = (none, .getfield 50, []) := by decide +kernel
theorem r_Model_nextNumber_12 : P_Model_nextNumber 12 = (none, .iload_n 1, []) := by decide +kernel
theorem r_Model_nextNumber_13 : P_Model_nextNumber 13 = (none, .iaload, []) := by decide +kernel
theorem r_Model_nextNumber_14 : P_Model_nextNumber 14 = (none, .if_icmp .ge 45, [59]) := by decide +kernel
theorem r_Model_nextNumber_17 : P_Model_nextNumber 17 = (none, .aload_n 0, []) := by decide +kernel
theorem r_Model_nextNumber_18 : P_Model_nextNumber 18 = (none, .iload_n 1, []) := by decide +kernel
theorem r_Model_nextNumber_19 : P_Model_nextNumber 19 = (none, .iload 5, []) := by decide +kernel
theorem r_Model_nextNumber_21 : P_Model_nextNumber 21 = (none, .invokevirtual 165, []) := by decide +kernel
theorem r_Model_nextNumber_24 : P_Model_nextNumber 24 = (none, .istore 6, []) := by decide +kernel
theorem r_Model_nextNumber_26 : P_Model_nextNumber 26 = (none, .iload 6, []) := by decide +kernel
theorem r_Model_nextNumber_28 : P_Model_nextNumber 28 = (none, .iload_n 3, []) := by decide +kernel
theorem r_Model_nextNumber_29 : P_Model_nextNumber 29 = (none, .if_icmp .le 20, [49]) := by decide +kernel
theorem r_Model_nextNumber_32 : P_Model_nextNumber 32 = (none, .iload 4, []) := by decide +kernel
theorem r_Model_nextNumber_34 : P_Model_nextNumber 34 = (none, .ifCond .lt 10, [44]) := by decide +kernel
theorem r_Model_nextNumber_37 : P_Model_nextNumber 37 = (none, .iload 6, []) := by decide +kernel
theorem r_Model_nextNumber_39 : P_Model_nextNumber 39 = (none, .iload 4, []) := by decide +kernel
theorem r_Model_nextNumber_41 : P_Model_nextNumber 41 = (none, .if_icmp .ge 8, [49]) := by decide +kernel
theorem r_Model_nextNumber_44 : P_Model_nextNumber 44 = (none, .iload 6, []) := by decide +kernel
theorem r_Model_nextNumber_46 : P_Model_nextNumber 46 = (none, .goto 5, [51]) := by decide +kernel
theorem r_Model_nextNumber_49 : P_Model_nextNumber 49 = (none, .iload 4, []) := by decide +kernel
theorem r_Model_nextNumber_51 : P_Model_nextNumber 51 = (none, .istore 4, []) := by decide +kernel
theorem r_Model_nextNumber_53 : P_Model_nextNumber 53 = (none, .iinc 5 1, []) := by decide +kernel
theorem r_Model_nextNumber_56 : P_Model_nextNumber 56 = (none, .goto (-50), [6]) := by decide +kernel
theorem r_Model_nextNumber_59 : P_Model_nextNumber 59 = (none, .iconst 0, []) := by decide +kernel
theorem r_Model_nextNumber_60 : P_Model_nextNumber 60 = (none, .istore 5, []) := by decide +kernel
theorem r_Model_nextNumber_62 : P_Model_nextNumber 62 = (some [0, 1, 2, 3, 4, 5], .iload 5, []) := by decide +kernel
theorem r_Model_nextNumber_64 : P_Model_nextNumber 64 = (none, .aload_n 0, []) := by decide +kernel
theorem r_Model_nextNumber_65 : P_Model_nextNumber 65 = (none, .getfield 50, []) := by decide +kernel
theorem r_Model_nextNumber_68 : P_Model_nextNumber 68 = (none, .iload_n 2, []) := by decide +kernel
theorem r_Model_nextNumber_69 : P_Model_nextNumber 69 = (none, .iaload, []) := by decide +kernel
theorem r_Model_nextNumber_70 : P_Model_nextNumber 70 = (none, .if_icmp .ge 45, [115]) := by decide +kernel
theorem r_Model_nextNumber_73 : P_Model_nextNumber 73 = (none, .aload_n 0, []) := by decide +kernel
theorem r_Model_nextNumber_74 : P_Model_nextNumber 74 = (none, .iload_n 2, []) := by decide +kernel
theorem r_Model_nextNumber_75 : P_Model_nextNumber 75 = (none, .iload 5, []) := by decide +kernel
theorem r_Model_nextNumber_77 : P_Model_nextNumber 77 = (none, .invokevirtual 165, []) := by decide +kernel
theorem r_Model_nextNumber_80 : P_Model_nextNumber 80 = (none, .istore 6, []) := by decide +kernel
theorem r_Model_nextNumber_82 : P_Model_nextNumber 82 = (none, .iload 6, []) := by decide +kernel
theorem r_Model_nextNumber_84 : P_Model_nextNumber 84 = (none, .iload_n 3, []) := by decide +kernel
theorem r_Model_nextNumber_85 : P_Model_nextNumber 85 = (none, .if_icmp .le 20, [105]) := by decide +kernel
theorem r_Model_nextNumber_88 : P_Model_nextNumber 88 = (none, .iload 4, []) := by decide +kernel
theorem r_Model_nextNumber_90 : P_Model_nextNumber 90 = (none, .ifCond .lt 10, [100]) := by decide +kernel
theorem r_Model_nextNumber_93 : P_Model_nextNumber 93 = (none, .iload 6, []) := by decide +kernel
theorem r_Model_nextNumber_95 : P_Model_nextNumber 95 = (none, .iload 4, []) := by decide +kernel
theorem r_Model_nextNumber_97 : P_Model_nextNumber 97 = (none, .if_icmp .ge 8, [105]) := by decide +kernel
theorem r_Model_nextNumber_100 : P_Model_nextNumber 100 = (none, .iload 6, []) := by decide +kernel
theorem r_Model_nextNumber_102 : P_Model_nextNumber 102 = (none, .goto 5, [107]) := by decide +kernel
theorem r_Model_nextNumber_105 : P_Model_nextNumber 105 = (none, .iload 4, []) := by decide +kernel
theorem r_Model_nextNumber_107 : P_Model_nextNumber 107 = (none, .istore 4, []) := by decide +kernel
theorem r_Model_nextNumber_109 : P_Model_nextNumber 109 = (none, .iinc 5 1, []) := by decide +kernel
theorem r_Model_nextNumber_112 : P_Model_nextNumber 112 = (none, .goto (-50), [62]) := by decide +kernel
theorem r_Model_nextNumber_115 : P_Model_nextNumber 115 = (none, .iload 4, []) := by decide +kernel
theorem r_Model_nextNumber_117 : P_Model_nextNumber 117 = (none, .ireturn, []) := by decide +kernel
def E_Model_nextNumber : List (Nat × Ent) := [(660, (3, 2, 0, 0, T_Model_numberOf))]
def X_Model_nextNumber : Cx := (llk (0, 0, 9) ftX11, llk 99 ntX11, llk none kcX11, llk none klX11, llk dEnt E_Model_nextNumber, 3, 0, false)
theorem xok_Model_nextNumber : Xok RX11 X_Model_nextNumber := xok_of ftX11_ok ntX11_ok kcX11_ok klX11_ok (E := E_Model_nextNumber) (List.forall_mem_cons.mpr ⟨co_X11_660, fun _ h => absurd h List.not_mem_nil⟩)
theorem xf_Model_nextNumber_50 : xfl X_Model_nextNumber 50 = (11, 14, 1) := by decide +kernel
theorem xe_Model_nextNumber_660 : xE X_Model_nextNumber (4 * 165 + 0) = (3, 2, 0, 0, T_Model_numberOf) := rfl
theorem xd_Model_nextNumber : xd X_Model_nextNumber = 3 := rfl
theorem xrb_Model_nextNumber : xrb X_Model_nextNumber = 0 := rfl
theorem xin_Model_nextNumber : xin X_Model_nextNumber = false := rfl
set_option maxHeartbeats 4000000 in
set_option maxRecDepth 100000 in
theorem S_Model_nextNumber : Snd yX11_nextNumber cX11_nextNumber 7 (some .int) T_Model_nextNumber 3 0 0 := by
  refine snd_of (X := X_Model_nextNumber) (P := P_Model_nextNumber) (tb := tb_Model_nextNumber) (own := RX11) (by decide) rfl rfl (by decide +kernel) xok_Model_nextNumber rfl rk0 (fun h => by first | rfl | cases h) ?_
  intro as M k has hM hT0
  obtain ⟨sz, sl, lay, ρ, σ, τ⟩ := M
  obtain ⟨o, as1, e, hlo, hT1⟩ := mkT_r hT0
  clear hT0
  subst e
  obtain ⟨p, as2, e, hT2⟩ := pI_x hT1
  clear hT1
  subst e
  obtain ⟨q, as3, e, hT3⟩ := pI_x hT2
  clear hT2
  subst e
  obtain ⟨y, as4, e, hT4⟩ := pI_x hT3
  clear hT3
  subst e
  obtain ⟨e, hT⟩ := hT4
  subst e
  replace hlo : lay o = (21, 0) := hlo
  have r_p : -2147483648 ≤ p ∧ p ≤ 2147483647 := has (vI p) (by simp)
  have r_q : -2147483648 ≤ q ∧ q ≤ 2147483647 := has (vI q) (by simp)
  have r_y : -2147483648 ≤ y ∧ y ≤ 2147483647 := has (vI y) (by simp)
  clear has
  replace hM : ∀ a i, -2147483648 ≤ σ a i ∧ σ a i ≤ 2147483647 := hM
  replace hT : TF_Model_nextNumber o p q y sz sl lay ρ σ τ k := hT
  unfold TF_Model_nextNumber at hT
  obtain ⟨hL, U, len, st, V, lem, su, ⟨hS, hR⟩, ⟨hS2, hR2⟩, hy, hT⟩ := hT
  obtain ⟨hB, hl3, ⟨m4, m5, m6⟩, ⟨m7, m8, m9⟩, m12, ⟨m14, m13⟩, m15, ⟨m17, m16⟩, m26⟩ := (show MR σ o p U len st from hR)
  obtain ⟨b1, b2, b3, b4, b5, b6, b7⟩ := (show MB σ o p U len (st 1) from hB)
  obtain ⟨nB, nl3, ⟨n4, n5, n6⟩, ⟨n7, n8, n9⟩, n12, ⟨n14, n13⟩, n15, ⟨n17, n16⟩, n26⟩ := (show MR σ o q V lem su from hR2)
  obtain ⟨c1, c2, c3, c4, c5, c6, c7⟩ := (show MB σ o q V lem (su 1) from nB)
  have w9 := hS.2.2.2.2.2.2.2.2.2.1
  have x9 := hS2.2.2.2.2.2.2.2.2.2.1
  obtain ⟨J, hJd⟩ : ∃ J : Nat → List AV → Mm → Prop, J = (fun c vs M1 => (c = 6 ∧ ∃ i b : Int, (0 ≤ i ∧ i ≤ st 0 7) ∧ Lst (fun n => upN U st i n) y b ∧ vs = [vR o, vI p, vI q, vI y, vI b, vI i] ∧ M1 = (sz, sl, lay, ρ, σ, τ)) ∨ (c = 62 ∧ ∃ i b : Int, (0 ≤ i ∧ i ≤ su 0 7) ∧ Lst (fun n => upN U st (st 0 7) n ∨ upN V su i n) y b ∧ vs = [vR o, vI p, vI q, vI y, vI b, vI i] ∧ M1 = (sz, sl, lay, ρ, σ, τ))) := ⟨_, rfl⟩
  obtain ⟨μ, hμ⟩ : ∃ μ : Nat → List AV → Mm → Nat, μ = (fun c vs _ => if c = 6 then (3000 - gI (vs.getD 5 vN)).toNat else (1500 - gI (vs.getD 5 vN)).toNat) := ⟨_, rfl⟩
  refine ⟨Nat.le_of_ble_eq_true rfl, J, μ, 66, ?_, ?_⟩
  · obtain ⟨mh, mp0, mp2, mp3, mp4, mp5, mp6, mp7, mp8, mp9, mp10, mp11, mp12, mp13, mp14, mp15, mp16, mp17, mp18, mp19, mp20, mp21, mp22, mp24, mp25, mp26, mp27, mq0, mq2, mq3, mq4, mq5, mq6, mq7, mq8, mq9, mq10, mq11, mq12, mq13, mq14, mq15, mq16, mq17, mq18, mq19, mq20, mq21, mq22, mq24, mq25, mq26, mq27⟩ := (show LModel lay ρ _ from hL)
    unfold wps
    simp only [si_iload_n0, si_iload_n1, si_iload_n2, si_iload_n3, si_iload, si_lload_n0, si_lload_n1, si_lload_n2, si_lload_n3, si_lload, si_aload_n0, si_aload_n1, si_aload_n2, si_aload_n3, si_aload, si_istore_n0, si_istore_n1, si_istore_n2, si_istore_n3, si_istore, si_astore_n0, si_astore_n1, si_astore_n2, si_astore_n3, si_astore, si_lstore_n0, si_lstore_n1, si_lstore_n2, si_lstore_n3, si_lstore, si_iconst, si_bipush, si_sipush, si_ldc, si_ldc2_w, si_lconst0, si_lconst1, si_aconst_null, si_iinc, si_dup, si_dup2, si_iadd, si_isub, si_imul, si_idiv, si_irem, si_iand, si_ior, si_ishl, si_ishr, si_ladd, si_lmul, si_lor, si_lxor, si_lshl, si_lushr, si_lcmp, si_i2b, si_i2l, si_l2i, si_icmp_eq, si_icmp_ne, si_icmp_lt, si_icmp_ge, si_icmp_gt, si_icmp_le, si_if_eq, si_if_ne, si_if_lt, si_if_ge, si_if_gt, si_if_le, si_ifnull, si_ifnonnull, si_goto, si_tableswitch, si_lookupswitch, si_getfield, si_putfield, si_getstatic, si_iaload, si_baload, si_laload, si_aaload, si_iastore, si_bastore, si_lastore, si_aastore, si_arraylength, si_new, si_newarray, si_anewarray, si_invokevirtual, si_invokespecial, si_invokestatic, si_ireturn, si_lreturn, si_areturn, si_return_, pI_e, pL_e, pR_e, pA_r, pA_n, pN_n, pN_r, oI_e, oL_e, oA_r, oA_n, lget_e, lrm1_0, lrm2_0, lrm1_i, lrm1_r, lrm1_n, lrm1_l, lrm2_i, lrm2_r, lrm2_n, lrm2_l, popN_0, popN_s, acat_i, acat_l, acat_r, acat_n, stw_0, stw_s, psh_s, psh_n, wgf_r, wgf_i, wgf_b, wgf_n, wgf_m, wpf_i, wpf_r, wpf_b, wnew_e, callE_e, rbk_0, rbk_1, tsw_0, tsw_s, lsw_0, lsw_s, wp_s, wq_t, wq_f, oV_e, pick_0, pick_s, oZ_e, oY_e, r_Model_nextNumber_0, r_Model_nextNumber_1, r_Model_nextNumber_3, r_Model_nextNumber_4, r_Model_nextNumber_6, r_Model_nextNumber_8, r_Model_nextNumber_9, r_Model_nextNumber_12, r_Model_nextNumber_13, r_Model_nextNumber_14, r_Model_nextNumber_17, r_Model_nextNumber_18, r_Model_nextNumber_19, r_Model_nextNumber_21, r_Model_nextNumber_24, r_Model_nextNumber_26, r_Model_nextNumber_28, r_Model_nextNumber_29, r_Model_nextNumber_32, r_Model_nextNumber_34, r_Model_nextNumber_37, r_Model_nextNumber_39, r_Model_nextNumber_41, r_Model_nextNumber_44, r_Model_nextNumber_46, r_Model_nextNumber_49, r_Model_nextNumber_51, r_Model_nextNumber_53, r_Model_nextNumber_56, r_Model_nextNumber_59, r_Model_nextNumber_60, r_Model_nextNumber_62, r_Model_nextNumber_64, r_Model_nextNumber_65, r_Model_nextNumber_68, r_Model_nextNumber_69, r_Model_nextNumber_70, r_Model_nextNumber_73, r_Model_nextNumber_74, r_Model_nextNumber_75, r_Model_nextNumber_77, r_Model_nextNumber_80, r_Model_nextNumber_82, r_Model_nextNumber_84, r_Model_nextNumber_85, r_Model_nextNumber_88, r_Model_nextNumber_90, r_Model_nextNumber_93, r_Model_nextNumber_95, r_Model_nextNumber_97, r_Model_nextNumber_100, r_Model_nextNumber_102, r_Model_nextNumber_105, r_Model_nextNumber_107, r_Model_nextNumber_109, r_Model_nextNumber_112, r_Model_nextNumber_115, r_Model_nextNumber_117, xf_Model_nextNumber_50, xe_Model_nextNumber_660, xd_Model_nextNumber, xrb_Model_nextNumber, xin_Model_nextNumber, T_Model_numberOf_e, TF_Model_numberOf, mh, mp0, mp2, mp3, mp4, mp5, mp6, mp7, mp8, mp9, mp10, mp11, mp12, mp13, mp14, mp15, mp16, mp17, mp18, mp19, mp20, mp21, mp22, mp24, mp25, mp26, mp27, mq0, mq2, mq3, mq4, mq5, mq6, mq7, mq8, mq9, mq10, mq11, mq12, mq13, mq14, mq15, mq16, mq17, mq18, mq19, mq20, mq21, mq22, mq24, mq25, mq26, mq27, Nat.reduceAdd, Nat.reduceMul, Nat.reduceEqDiff, reduceIte, Int.reduceNeg, Int.reduceLE, Int.reduceLT, Int.reduceAdd, Int.reduceSub, Int.reduceToNat, true_and, and_true, inR_e, Nat.reduceLT, Nat.reduceLeDiff, reduceCtorEq, Nat.add_zero, Nat.zero_add, or_false, false_or, or_true, true_or, not_true_eq_false, not_false_eq_true, Classical.not_not, Nat.add_eq_zero_iff, and_false, false_and, Int.reduceEq, List.mem_cons, List.not_mem_nil, forall_eq_or_imp, forall_eq, false_implies, implies_true, forall_const, aargs_0, aargs_i, aargs_r, aargs_l, aargs_n, nfT_e, eq_self, and_self, Nat.le_refl, fu_s, fu_fu, iu_iu, iu_s, fu_am, fu_a0, fu_0a, iu_l, Nat.reduceBEq, Int.reduceBEq, T_objInit_e]
    clear mp0 mp2 mp3 mp4 mp5 mp6 mp7 mp8 mp9 mp10 mp11 mp12 mp13 mp14 mp15 mp16 mp17 mp18 mp19 mp20 mp21 mp22 mp24 mp25 mp26 mp27
    rw [hJd]
    exact Or.inl ⟨rfl, 0, -1, by omega, Or.inl ⟨rfl, fun n hn => by obtain ⟨j, hj, -⟩ := hn; omega⟩, rfl, rfl⟩
  · intro cp vs M1 hvs hM1 hlen hJ
    rw [hJd] at hJ
    rcases hJ with ⟨rfl, i, b, hi, hb, rfl, rfl⟩ | ⟨rfl, i, b, hi, hb, rfl, rfl⟩
    · (obtain ⟨mh, mp0, mp2, mp3, mp4, mp5, mp6, mp7, mp8, mp9, mp10, mp11, mp12, mp13, mp14, mp15, mp16, mp17, mp18, mp19, mp20, mp21, mp22, mp24, mp25, mp26, mp27, mq0, mq2, mq3, mq4, mq5, mq6, mq7, mq8, mq9, mq10, mq11, mq12, mq13, mq14, mq15, mq16, mq17, mq18, mq19, mq20, mq21, mq22, mq24, mq25, mq26, mq27⟩ := (show LModel lay ρ _ from hL); unfold wps; simp only [Option.getD_some, List.zip_cons_cons, List.zip_nil_left, List.zip_nil_right, List.zip_nil_right, si_iload_n0, si_iload_n1, si_iload_n2, si_iload_n3, si_iload, si_lload_n0, si_lload_n1, si_lload_n2, si_lload_n3, si_lload, si_aload_n0, si_aload_n1, si_aload_n2, si_aload_n3, si_aload, si_istore_n0, si_istore_n1, si_istore_n2, si_istore_n3, si_istore, si_astore_n0, si_astore_n1, si_astore_n2, si_astore_n3, si_astore, si_lstore_n0, si_lstore_n1, si_lstore_n2, si_lstore_n3, si_lstore, si_iconst, si_bipush, si_sipush, si_ldc, si_ldc2_w, si_lconst0, si_lconst1, si_aconst_null, si_iinc, si_dup, si_dup2, si_iadd, si_isub, si_imul, si_idiv, si_irem, si_iand, si_ior, si_ishl, si_ishr, si_ladd, si_lmul, si_lor, si_lxor, si_lshl, si_lushr, si_lcmp, si_i2b, si_i2l, si_l2i, si_icmp_eq, si_icmp_ne, si_icmp_lt, si_icmp_ge, si_icmp_gt, si_icmp_le, si_if_eq, si_if_ne, si_if_lt, si_if_ge, si_if_gt, si_if_le, si_ifnull, si_ifnonnull, si_goto, si_tableswitch, si_lookupswitch, si_getfield, si_putfield, si_getstatic, si_iaload, si_baload, si_laload, si_aaload, si_iastore, si_bastore, si_lastore, si_aastore, si_arraylength, si_new, si_newarray, si_anewarray, si_invokevirtual, si_invokespecial, si_invokestatic, si_ireturn, si_lreturn, si_areturn, si_return_, pI_e, pL_e, pR_e, pA_r, pA_n, pN_n, pN_r, oI_e, oL_e, oA_r, oA_n, lget_e, lrm1_0, lrm2_0, lrm1_i, lrm1_r, lrm1_n, lrm1_l, lrm2_i, lrm2_r, lrm2_n, lrm2_l, popN_0, popN_s, acat_i, acat_l, acat_r, acat_n, stw_0, stw_s, psh_s, psh_n, wgf_r, wgf_i, wgf_b, wgf_n, wgf_m, wpf_i, wpf_r, wpf_b, wnew_e, callE_e, rbk_0, rbk_1, tsw_0, tsw_s, lsw_0, lsw_s, wp_s, wq_t, wq_f, oV_e, pick_0, pick_s, oZ_e, oY_e, r_Model_nextNumber_0, r_Model_nextNumber_1, r_Model_nextNumber_3, r_Model_nextNumber_4, r_Model_nextNumber_6, r_Model_nextNumber_8, r_Model_nextNumber_9, r_Model_nextNumber_12, r_Model_nextNumber_13, r_Model_nextNumber_14, r_Model_nextNumber_17, r_Model_nextNumber_18, r_Model_nextNumber_19, r_Model_nextNumber_21, r_Model_nextNumber_24, r_Model_nextNumber_26, r_Model_nextNumber_28, r_Model_nextNumber_29, r_Model_nextNumber_32, r_Model_nextNumber_34, r_Model_nextNumber_37, r_Model_nextNumber_39, r_Model_nextNumber_41, r_Model_nextNumber_44, r_Model_nextNumber_46, r_Model_nextNumber_49, r_Model_nextNumber_51, r_Model_nextNumber_53, r_Model_nextNumber_56, r_Model_nextNumber_59, r_Model_nextNumber_60, r_Model_nextNumber_62, r_Model_nextNumber_64, r_Model_nextNumber_65, r_Model_nextNumber_68, r_Model_nextNumber_69, r_Model_nextNumber_70, r_Model_nextNumber_73, r_Model_nextNumber_74, r_Model_nextNumber_75, r_Model_nextNumber_77, r_Model_nextNumber_80, r_Model_nextNumber_82, r_Model_nextNumber_84, r_Model_nextNumber_85, r_Model_nextNumber_88, r_Model_nextNumber_90, r_Model_nextNumber_93, r_Model_nextNumber_95, r_Model_nextNumber_97, r_Model_nextNumber_100, r_Model_nextNumber_102, r_Model_nextNumber_105, r_Model_nextNumber_107, r_Model_nextNumber_109, r_Model_nextNumber_112, r_Model_nextNumber_115, r_Model_nextNumber_117, xf_Model_nextNumber_50, xe_Model_nextNumber_660, xd_Model_nextNumber, xrb_Model_nextNumber, xin_Model_nextNumber, T_Model_numberOf_e, TF_Model_numberOf, mh, mp0, mp2, mp3, mp4, mp5, mp6, mp7, mp8, mp9, mp10, mp11, mp12, mp13, mp14, mp15, mp16, mp17, mp18, mp19, mp20, mp21, mp22, mp24, mp25, mp26, mp27, mq0, mq2, mq3, mq4, mq5, mq6, mq7, mq8, mq9, mq10, mq11, mq12, mq13, mq14, mq15, mq16, mq17, mq18, mq19, mq20, mq21, mq22, mq24, mq25, mq26, mq27, Nat.reduceAdd, Nat.reduceMul, Nat.reduceEqDiff, reduceIte, Int.reduceNeg, Int.reduceLE, Int.reduceLT, Int.reduceAdd, Int.reduceSub, Int.reduceToNat, true_and, and_true, inR_e, Nat.reduceLT, Nat.reduceLeDiff, reduceCtorEq, Nat.add_zero, Nat.zero_add, or_false, false_or, or_true, true_or, not_true_eq_false, not_false_eq_true, Classical.not_not, Nat.add_eq_zero_iff, and_false, false_and, Int.reduceEq, List.mem_cons, List.not_mem_nil, forall_eq_or_imp, forall_eq, false_implies, implies_true, forall_const, aargs_0, aargs_i, aargs_r, aargs_l, aargs_n, nfT_e, eq_self, and_self, Nat.le_refl, fu_s, fu_fu, iu_iu, iu_s, fu_am, fu_a0, fu_0a, iu_l, Nat.reduceBEq, Int.reduceBEq, T_objInit_e]; clear mp0 mp2 mp3 mp4 mp5 mp6 mp7 mp8 mp9 mp10 mp11 mp12 mp13 mp14 mp15 mp16 mp17 mp18 mp19 mp20 mp21 mp22 mp24 mp25 mp26 mp27)
      rw [m14]
      refine ⟨by omega, by omega, fun z => ⟨?_, (by rw [hμ]; simp only [gI_e, List.getD_cons_succ, List.getD_cons_zero, Nat.reduceEqDiff, reduceIte]; omega)⟩, fun z => ?_⟩
      · rw [hJd]
        refine Or.inr ⟨rfl, 0, b, by omega, hb.c (fun n => ?_), rfl, rfl⟩
        rw [show i = st 0 7 by omega]
        exact ⟨Or.inl, fun h => h.elim id (fun h => by obtain ⟨j, hj, -⟩ := h; omega)⟩
      · have tv := hS.tv (i := i) (by omega)
        have t0 := tv.1.2.1
        have t4 := tv.1.2.2.1
        have nm := hS.num (i := i) (by omega)
        have es : ∀ n, upN U st (i + 1) n ↔ upN U st i n ∨ n = numA U (st 2) i := fun n => upN_s hi.1
        rw [m13 i (by omega)]
        refine ⟨hL, U, len, st 1, hB, by omega, by omega, ?_⟩
        rw [show two2 U (st 2 i + 1) = numA U (st 2) i from rfl]
        have old : (numA U (st 2) i ≤ y ∨ (0 ≤ b ∧ b ≤ numA U (st 2) i)) → J 6 [vR o, vI p, vI q, vI y, vI b, vI (i + 1)] (sz, sl, lay, ρ, σ, τ) := fun g => by
          rw [hJd]
          exact Or.inl ⟨rfl, i + 1, b, by omega, hb.old es g, rfl, rfl⟩
        have new : y < numA U (st 2) i → (b < 0 ∨ numA U (st 2) i < b) → J 6 [vR o, vI p, vI q, vI y, vI (numA U (st 2) i), vI (i + 1)] (sz, sl, lay, ρ, σ, τ) := fun g g2 => by
          rw [hJd]
          exact Or.inl ⟨rfl, i + 1, _, by omega, hb.new es g g2 hy, rfl, rfl⟩
        exact ⟨fun a => ⟨by omega, old (Or.inl a), (by rw [hμ]; simp only [gI_e, List.getD_cons_succ, List.getD_cons_zero, Nat.reduceEqDiff, reduceIte]; omega)⟩, fun a => ⟨fun c => ⟨by omega, new (by omega) (Or.inl c), (by rw [hμ]; simp only [gI_e, List.getD_cons_succ, List.getD_cons_zero, Nat.reduceEqDiff, reduceIte]; omega)⟩, fun c => ⟨fun d => ⟨by omega, old (Or.inr ⟨by omega, d⟩), (by rw [hμ]; simp only [gI_e, List.getD_cons_succ, List.getD_cons_zero, Nat.reduceEqDiff, reduceIte]; omega)⟩, fun d => ⟨by omega, new (by omega) (Or.inr (by omega)), (by rw [hμ]; simp only [gI_e, List.getD_cons_succ, List.getD_cons_zero, Nat.reduceEqDiff, reduceIte]; omega)⟩⟩⟩⟩
    · (obtain ⟨mh, mp0, mp2, mp3, mp4, mp5, mp6, mp7, mp8, mp9, mp10, mp11, mp12, mp13, mp14, mp15, mp16, mp17, mp18, mp19, mp20, mp21, mp22, mp24, mp25, mp26, mp27, mq0, mq2, mq3, mq4, mq5, mq6, mq7, mq8, mq9, mq10, mq11, mq12, mq13, mq14, mq15, mq16, mq17, mq18, mq19, mq20, mq21, mq22, mq24, mq25, mq26, mq27⟩ := (show LModel lay ρ _ from hL); unfold wps; simp only [Option.getD_some, List.zip_cons_cons, List.zip_nil_left, List.zip_nil_right, List.zip_nil_right, si_iload_n0, si_iload_n1, si_iload_n2, si_iload_n3, si_iload, si_lload_n0, si_lload_n1, si_lload_n2, si_lload_n3, si_lload, si_aload_n0, si_aload_n1, si_aload_n2, si_aload_n3, si_aload, si_istore_n0, si_istore_n1, si_istore_n2, si_istore_n3, si_istore, si_astore_n0, si_astore_n1, si_astore_n2, si_astore_n3, si_astore, si_lstore_n0, si_lstore_n1, si_lstore_n2, si_lstore_n3, si_lstore, si_iconst, si_bipush, si_sipush, si_ldc, si_ldc2_w, si_lconst0, si_lconst1, si_aconst_null, si_iinc, si_dup, si_dup2, si_iadd, si_isub, si_imul, si_idiv, si_irem, si_iand, si_ior, si_ishl, si_ishr, si_ladd, si_lmul, si_lor, si_lxor, si_lshl, si_lushr, si_lcmp, si_i2b, si_i2l, si_l2i, si_icmp_eq, si_icmp_ne, si_icmp_lt, si_icmp_ge, si_icmp_gt, si_icmp_le, si_if_eq, si_if_ne, si_if_lt, si_if_ge, si_if_gt, si_if_le, si_ifnull, si_ifnonnull, si_goto, si_tableswitch, si_lookupswitch, si_getfield, si_putfield, si_getstatic, si_iaload, si_baload, si_laload, si_aaload, si_iastore, si_bastore, si_lastore, si_aastore, si_arraylength, si_new, si_newarray, si_anewarray, si_invokevirtual, si_invokespecial, si_invokestatic, si_ireturn, si_lreturn, si_areturn, si_return_, pI_e, pL_e, pR_e, pA_r, pA_n, pN_n, pN_r, oI_e, oL_e, oA_r, oA_n, lget_e, lrm1_0, lrm2_0, lrm1_i, lrm1_r, lrm1_n, lrm1_l, lrm2_i, lrm2_r, lrm2_n, lrm2_l, popN_0, popN_s, acat_i, acat_l, acat_r, acat_n, stw_0, stw_s, psh_s, psh_n, wgf_r, wgf_i, wgf_b, wgf_n, wgf_m, wpf_i, wpf_r, wpf_b, wnew_e, callE_e, rbk_0, rbk_1, tsw_0, tsw_s, lsw_0, lsw_s, wp_s, wq_t, wq_f, oV_e, pick_0, pick_s, oZ_e, oY_e, r_Model_nextNumber_0, r_Model_nextNumber_1, r_Model_nextNumber_3, r_Model_nextNumber_4, r_Model_nextNumber_6, r_Model_nextNumber_8, r_Model_nextNumber_9, r_Model_nextNumber_12, r_Model_nextNumber_13, r_Model_nextNumber_14, r_Model_nextNumber_17, r_Model_nextNumber_18, r_Model_nextNumber_19, r_Model_nextNumber_21, r_Model_nextNumber_24, r_Model_nextNumber_26, r_Model_nextNumber_28, r_Model_nextNumber_29, r_Model_nextNumber_32, r_Model_nextNumber_34, r_Model_nextNumber_37, r_Model_nextNumber_39, r_Model_nextNumber_41, r_Model_nextNumber_44, r_Model_nextNumber_46, r_Model_nextNumber_49, r_Model_nextNumber_51, r_Model_nextNumber_53, r_Model_nextNumber_56, r_Model_nextNumber_59, r_Model_nextNumber_60, r_Model_nextNumber_62, r_Model_nextNumber_64, r_Model_nextNumber_65, r_Model_nextNumber_68, r_Model_nextNumber_69, r_Model_nextNumber_70, r_Model_nextNumber_73, r_Model_nextNumber_74, r_Model_nextNumber_75, r_Model_nextNumber_77, r_Model_nextNumber_80, r_Model_nextNumber_82, r_Model_nextNumber_84, r_Model_nextNumber_85, r_Model_nextNumber_88, r_Model_nextNumber_90, r_Model_nextNumber_93, r_Model_nextNumber_95, r_Model_nextNumber_97, r_Model_nextNumber_100, r_Model_nextNumber_102, r_Model_nextNumber_105, r_Model_nextNumber_107, r_Model_nextNumber_109, r_Model_nextNumber_112, r_Model_nextNumber_115, r_Model_nextNumber_117, xf_Model_nextNumber_50, xe_Model_nextNumber_660, xd_Model_nextNumber, xrb_Model_nextNumber, xin_Model_nextNumber, T_Model_numberOf_e, TF_Model_numberOf, mh, mp0, mp2, mp3, mp4, mp5, mp6, mp7, mp8, mp9, mp10, mp11, mp12, mp13, mp14, mp15, mp16, mp17, mp18, mp19, mp20, mp21, mp22, mp24, mp25, mp26, mp27, mq0, mq2, mq3, mq4, mq5, mq6, mq7, mq8, mq9, mq10, mq11, mq12, mq13, mq14, mq15, mq16, mq17, mq18, mq19, mq20, mq21, mq22, mq24, mq25, mq26, mq27, Nat.reduceAdd, Nat.reduceMul, Nat.reduceEqDiff, reduceIte, Int.reduceNeg, Int.reduceLE, Int.reduceLT, Int.reduceAdd, Int.reduceSub, Int.reduceToNat, true_and, and_true, inR_e, Nat.reduceLT, Nat.reduceLeDiff, reduceCtorEq, Nat.add_zero, Nat.zero_add, or_false, false_or, or_true, true_or, not_true_eq_false, not_false_eq_true, Classical.not_not, Nat.add_eq_zero_iff, and_false, false_and, Int.reduceEq, List.mem_cons, List.not_mem_nil, forall_eq_or_imp, forall_eq, false_implies, implies_true, forall_const, aargs_0, aargs_i, aargs_r, aargs_l, aargs_n, nfT_e, eq_self, and_self, Nat.le_refl, fu_s, fu_fu, iu_iu, iu_s, fu_am, fu_a0, fu_0a, iu_l, Nat.reduceBEq, Int.reduceBEq, T_objInit_e]; clear mp0 mp2 mp3 mp4 mp5 mp6 mp7 mp8 mp9 mp10 mp11 mp12 mp13 mp14 mp15 mp16 mp17 mp18 mp19 mp20 mp21 mp22 mp24 mp25 mp26 mp27)
      rw [n14]
      refine ⟨by omega, by omega, fun z => hT b (hb.c (fun n => ?_)), fun z => ?_⟩
      · rw [show i = su 0 7 by omega, upN_f hS, upN_f hS2]
        exact Iff.rfl
      · have tv := hS2.tv (i := i) (by omega)
        have t0 := tv.1.2.1
        have t4 := tv.1.2.2.1
        have nm := hS2.num (i := i) (by omega)
        have es : ∀ n, (upN U st (st 0 7) n ∨ upN V su (i + 1) n) ↔ (upN U st (st 0 7) n ∨ upN V su i n) ∨ n = numA V (su 2) i := fun n => by rw [upN_s hi.1, or_assoc]
        rw [n13 i (by omega)]
        refine ⟨hL, V, lem, su 1, nB, by omega, by omega, ?_⟩
        rw [show two2 V (su 2 i + 1) = numA V (su 2) i from rfl]
        have old : (numA V (su 2) i ≤ y ∨ (0 ≤ b ∧ b ≤ numA V (su 2) i)) → J 62 [vR o, vI p, vI q, vI y, vI b, vI (i + 1)] (sz, sl, lay, ρ, σ, τ) := fun g => by
          rw [hJd]
          exact Or.inr ⟨rfl, i + 1, b, by omega, hb.old es g, rfl, rfl⟩
        have new : y < numA V (su 2) i → (b < 0 ∨ numA V (su 2) i < b) → J 62 [vR o, vI p, vI q, vI y, vI (numA V (su 2) i), vI (i + 1)] (sz, sl, lay, ρ, σ, τ) := fun g g2 => by
          rw [hJd]
          exact Or.inr ⟨rfl, i + 1, _, by omega, hb.new es g g2 hy, rfl, rfl⟩
        exact ⟨fun a => ⟨by omega, old (Or.inl a), (by rw [hμ]; simp only [gI_e, List.getD_cons_succ, List.getD_cons_zero, Nat.reduceEqDiff, reduceIte]; omega)⟩, fun a => ⟨fun c => ⟨by omega, new (by omega) (Or.inl c), (by rw [hμ]; simp only [gI_e, List.getD_cons_succ, List.getD_cons_zero, Nat.reduceEqDiff, reduceIte]; omega)⟩, fun c => ⟨fun d => ⟨by omega, old (Or.inr ⟨by omega, d⟩), (by rw [hμ]; simp only [gI_e, List.getD_cons_succ, List.getD_cons_zero, Nat.reduceEqDiff, reduceIte]; omega)⟩, fun d => ⟨by omega, new (by omega) (Or.inr (by omega)), (by rw [hμ]; simp only [gI_e, List.getD_cons_succ, List.getD_cons_zero, Nat.reduceEqDiff, reduceIte]; omega)⟩⟩⟩⟩

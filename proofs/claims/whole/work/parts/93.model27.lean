theorem ofI_mod {a b : Int} (h : Int64.ofInt a = Int64.ofInt b) : ∃ K : Int, a - b = 256 ^ 8 * K := by
  have h2 : (BitVec.ofInt 64 a).toNat = (BitVec.ofInt 64 b).toNat := congrArg (fun z => z.toBitVec.toNat) h
  rw [BitVec.toNat_ofInt, BitVec.toNat_ofInt] at h2
  refine ⟨a / 18446744073709551616 - b / 18446744073709551616, ?_⟩
  have e : ((2 ^ 64 : Nat) : Int) = 18446744073709551616 := by decide
  have e2 : (256 ^ 8 : Int) = 18446744073709551616 := by decide
  rw [e] at h2
  rw [e2]
  omega
theorem beZ_inj {b : Int → Int} (hb : ∀ x, 0 ≤ b x ∧ b x < 256) : ∀ (n m : Nat) (p q v w K : Int), n ≤ m → beZ b p n v - beZ b q n w = 256 ^ m * K → ∀ i : Int, 0 ≤ i ∧ i < n → b (p + i) = b (q + i)
  | 0, _, _, _, _, _, _, _, _, i, hi => by omega
  | n + 1, 0, _, _, _, _, _, h, _, _, _ => by omega
  | n + 1, m + 1, p, q, v, w, K, h, e, i, hi => by
    rw [beZ_s, beZ_s] at e
    have h1 := hb (p + n)
    have h2 := hb (q + n)
    have e2 : (256 ^ (m + 1) : Int) * K = 256 * (256 ^ m * K) := by
      rw [Int.pow_succ, Int.mul_comm (256 ^ m) 256, Int.mul_assoc]
    rw [e2] at e
    have e3 : b (p + n) = b (q + n) := by omega
    have e4 : beZ b p n v - beZ b q n w = 256 ^ m * K := by omega
    by_cases g : i = n
    · rw [g]; exact e3
    · exact beZ_inj hb n m p q v w K (by omega) e4 i (by omega)
theorem beZ_m {b : Int → Int} : ∀ (n : Nat) (p q v : Int), (∀ i : Int, 0 ≤ i ∧ i < n → b (p + i) = b (q + i)) → beZ b p n v = beZ b q n v
  | 0, _, _, _, _ => rfl
  | n + 1, p, q, v, h => by
    rw [beZ_s, beZ_s, beZ_m n p q v (fun i hi => h i (by omega)), h n (by omega)]
/-- two rows of one sort and length: their values are the same just when their bytes are -/
theorem row_b {U A : Int → Int} {a b : Int} (hU : ∀ x, 0 ≤ U x ∧ U x < 256) (ea : U a = 82) (eb : U b = 82) (hs : U (a + 3) = U (b + 3)) (h5 : U (a + 3) ≤ 5) (hn : two2 U (a + 4) = two2 U (b + 4)) : (∀ k, 0 ≤ k ∧ k < nV U A a → Int64.ofInt (vZ U A a k) = Int64.ofInt (vZ U A b k)) ↔ ∀ k, 6 ≤ k ∧ k < 6 + nV U A a * wd (U (a + 3)) → U (a + k) = U (b + k) := by
  have u3 := hU (a + 3)
  have w1 := wd_1le (s := U (a + 3)) (by omega)
  have w8 := (wd_R (U (a + 3))).2
  have n0 := (two2_R hU (a + 4)).1
  have za : ∀ k, vZ U A a k = beZ U (a + 6 + k * wd (U (a + 3))) (wd (U (a + 3))).toNat (vS U (U (a + 3)) (a + 6 + k * wd (U (a + 3)))) := fun k => by unfold vZ; rw [sA_82 ea, vP_82 ea]
  have zb : ∀ k, vZ U A b k = beZ U (b + 6 + k * wd (U (a + 3))) (wd (U (a + 3))).toNat (vS U (U (a + 3)) (b + 6 + k * wd (U (a + 3)))) := fun k => by unfold vZ; rw [sA_82 eb, vP_82 eb, ← hs]
  rw [nV_82 ea]
  generalize wd (U (a + 3)) = w at *
  constructor
  · intro h k hk
    have d1 := Int.mul_ediv_add_emod (k - 6) w
    have d2 := Int.emod_nonneg (k - 6) (show w ≠ 0 by omega)
    have d3 := Int.emod_lt_of_pos (k - 6) (show 0 < w by omega)
    have d4 := Int.ediv_nonneg (show 0 ≤ k - 6 by omega) (show 0 ≤ w by omega)
    have d5 : (k - 6) / w < two2 U (a + 4) := Int.ediv_lt_of_lt_mul (show 0 < w by omega) (by omega)
    generalize (k - 6) / w = j at *
    generalize (k - 6) % w = i at *
    have hj := h j ⟨d4, d5⟩
    rw [za, zb] at hj
    obtain ⟨K, hK⟩ := ofI_mod hj
    have r := beZ_inj hU w.toNat 8 _ _ _ _ K (by omega) hK i (by omega)
    rw [Int.mul_comm w j] at d1
    rw [show a + k = a + 6 + j * w + i by omega, show b + k = b + 6 + j * w + i by omega]
    exact r
  · intro h k hk
    have d1 : 0 ≤ k * w := Int.mul_nonneg hk.1 (by omega)
    have d2 : (k + 1) * w ≤ two2 U (a + 4) * w := Int.mul_le_mul_of_nonneg_right (by omega) (by omega)
    rw [Int.add_mul, Int.one_mul] at d2
    have hb : ∀ i : Int, 0 ≤ i ∧ i < w → U (a + 6 + k * w + i) = U (b + 6 + k * w + i) := fun i hi => by
      have := h (6 + k * w + i) (by omega)
      rw [show a + 6 + k * w + i = a + (6 + k * w + i) by omega, show b + 6 + k * w + i = b + (6 + k * w + i) by omega]
      exact this
    have h0 := hb 0 (by omega)
    rw [Int.add_zero, Int.add_zero] at h0
    rw [za, zb, show vS U (U (a + 3)) (b + 6 + k * w) = vS U (U (a + 3)) (a + 6 + k * w) from by unfold vS; rw [h0]]
    rw [beZ_m _ _ _ _ (fun i hi => hb i (by omega))]
theorem LkP.sy {U : Int → Int} {st : Nat → Int → Int} {x y : Int} (h : LkP U st x y) : LkP U st y x := ⟨h.1.symm, h.2.1.symm, fun k hk => (h.2.2 k (by rw [h.2.1]; exact hk)).symm⟩
def TF_Model_isLike (o : Nat) (p : Int) (x : Int) (y : Int) (sz sl : Nat) (lay : Nat → Nat × Int) (ρ : Nat → Int → Nat) (σ : Nat → Int → Int) (τ : Nat → Int → Int64) (k : Option AV → Mm → Prop) : Prop := LModel lay ρ o ∧ ∃ (U : Int → Int) (len : Int) (st : Nat → Int → Int), SW U len st ∧ MR σ o p U len st ∧ (0 ≤ x ∧ x < st 0 7) ∧ (0 ≤ y ∧ y < st 0 7) ∧ ((rwP U st x ∧ rwP U st y ∧ LkP U st x y) → ∀ c : Int → Int, k (some (vI (1))) (sz, sl, lay, ρ, fu σ (o + 23) c, τ)) ∧ (¬ (rwP U st x ∧ rwP U st y ∧ LkP U st x y) → ∀ c : Int → Int, k (some (vI (0))) (sz, sl, lay, ρ, fu σ (o + 23) c, τ))
def T_Model_isLike : Tr := mkT 11 fun o as M k => pI as fun p as => pI as fun x as => pI as fun y as => as = [] ∧ TF_Model_isLike o p x y M.1 M.2.1 M.2.2.1 M.2.2.2.1 M.2.2.2.2.1 M.2.2.2.2.2 k
theorem T_Model_isLike_e {o : Nat} {p : Int} {x : Int} {y : Int} {sz sl : Nat} {lay : Nat → Nat × Int} {ρ : Nat → Int → Nat} {σ : Nat → Int → Int} {τ : Nat → Int → Int64} {k : Option AV → Mm → Prop} : T_Model_isLike [vR o, vI p, vI x, vI y] (sz, sl, lay, ρ, σ, τ) k = (lay o = (21, 0) ∧ TF_Model_isLike o p x y sz sl lay ρ σ τ k) := by simp [T_Model_isLike, mkT_e, pI_e, pR_e, pL_e]
theorem T_Model_isLike_r (as : List AV) (M : Mm) (k : Option AV → Mm → Prop) (h : T_Model_isLike as M k) : ∃ b As, as = vR b :: As ∧ M.2.2.1 b = (10 + 11, 0) := by
  obtain ⟨b, As, h1, h2, -⟩ := mkT_r h
  exact ⟨b, As, h1, h2⟩
def tb_Model_isLike : List (Nat × Option (List Nat) × Instr × List Nat) := [(0, none, .aload_n 0, []), (1, none, .iload_n 1, []), (2, none, .iload_n 2, []), (3, none, .invokevirtual 134, []), (6, none, .iconst 1, []), (7, none, .if_icmp .ne 13, [20]), (10, none, .aload_n 0, []), (11, none, .iload_n 1, []), (12, none, .iload_n 3, []), (13, none, .invokevirtual 134, []), (16, none, .iconst 1, []), (17, none, .if_icmp .eq 5, [22]), (20, none, .iconst 0, []), (21, none, .ireturn, []), (22, none, .aload_n 0, []), (23, none, .getfield 47, []), (26, none, .sipush 600, []), (29, none, .iload_n 1, []), (30, none, .imul, []), (31, none, .iload_n 2, []), (32, none, .iadd, []), (33, none, .iaload, []), (34, none, .istore 4, []), (36, none, .aload_n 0, []), (37, none, .getfield 47, []), (40, none, .sipush 600, []), (43, none, .iload_n 1, []), (44, none, .imul, []), (45, none, .iload_n 3, []), (46, none, .iadd, []), (47, none, .iaload, []), (48, none, .istore 5, []), (50, none, .aload_n 0, []), (51, none, .iload_n 1, []), (52, none, .iload 4, []), (54, none, .iconst 3, []), (55, none, .iadd, []), (56, none, .invokevirtual 95, []), (59, none, .aload_n 0, []), (60, none, .iload_n 1, []), (61, none, .iload 5, []), (63, none, .iconst 3, []), (64, none, .iadd, []), (65, none, .invokevirtual 95, []), (68, none, .if_icmp .ne 28, [96]), (71, none, .aload_n 0, []), (72, none, .iload_n 1, []), (73, none, .iload 4, []), (75, none, .iconst 4, []), (76, none, .iadd, []), (77, none, .invokevirtual 107, []), (80, none, .aload_n 0, []), (81, none, .iload_n 1, []), (82, none, .iload 5, []), (84, none, .iconst 4, []), (85, none, .iadd, []), (86, none, .invokevirtual 107, []), (89, none, .if_icmp .ne 7, [96]), (92, none, .iconst 1, []), (93, none, .goto 4, [97]), (96, none, .iconst 0, []), (97, none, .istore 6, []), (99, none, .iload 6, []), (101, none, .ifCond .eq 25, [126]), (104, none, .aload_n 0, []), (105, none, .iload_n 1, []), (106, none, .iload 4, []), (108, none, .aload_n 0, []), (109, none, .iload_n 1, []), (110, none, .iload 4, []), (112, none, .iconst 4, []), (113, none, .iadd, []), (114, none, .invokevirtual 107, []), (117, none, .invokevirtual 124, []), (120, none, .iload 4, []), (122, none, .isub, []), (123, none, .goto 4, [127]), (126, none, .iconst 0, []), (127, none, .istore 7, []), (129, none, .bipush 6, []), (131, none, .istore 8, []), (133, some [0, 1, 2, 3, 4, 5, 6, 7, 8], .iload 8, []), (135, none, .iload 7, []), (137, none, .if_icmp .ge 44, [181]), (140, none, .iload 6, []), (142, none, .ifCond .eq 39, [181]), (145, none, .aload_n 0, []), (146, none, .iload_n 1, []), (147, none, .iload 4, []), (149, none, .iload 8, []), (151, none, .iadd, []), (152, none, .invokevirtual 95, []), (155, none, .aload_n 0, []), (156, none, .iload_n 1, []), (157, none, .iload 5, []), (159, none, .iload 8, []), (161, none, .iadd, []), (162, none, .invokevirtual 95, []), (165, none, .if_icmp .ne 7, [172]), (168, none, .iconst 1, []), (169, none, .goto 4, [173]), (172, none, .iconst 0, []), (173, none, .istore 6, []), (175, none, .iinc 8 1, []), (178, none, .goto (-45), [133]), (181, none, .iload 6, []), (183, none, .ireturn, [])]
def P_Model_isLike : Nat → Option (List Nat) × Instr × List Nat := plk tb_Model_isLike
theorem r_Model_isLike_0 : P_Model_isLike 0 = (none, .aload_n 0, []) := by decide +kernel
theorem r_Model_isLike_1 : P_Model_isLike 1 = (none, .iload_n 1, []) := by decide +kernel
theorem r_Model_isLike_2 : P_Model_isLike 2 = (none, .iload_n 2, []) := by decide +kernel
theorem r_Model_isLike_3 : P_Model_isLike 3 = (none, .invokevirtual 134, []) := by decide +kernel
theorem r_Model_isLike_6 : P_Model_isLike 6 = (none, .iconst 1, []) := by decide +kernel
theorem r_Model_isLike_7 : P_Model_isLike 7 = (none, .if_icmp .ne 13, [20]) := by decide +kernel
theorem r_Model_isLike_10 : P_Model_isLike 10 = (none, .aload_n 0, []) := by decide +kernel
theorem r_Model_isLike_11 : P_Model_isLike 11 = (none, .iload_n 1, []) := by decide +kernel
theorem r_Model_isLike_12 : P_Model_isLike 12 = (none, .iload_n 3, []) := by decide +kernel
theorem r_Model_isLike_13 : P_Model_isLike 13 = (none, .invokevirtual 134, []) := by decide +kernel
theorem r_Model_isLike_16 : P_Model_isLike 16 = (none, .iconst 1, []) := by decide +kernel
theorem r_Model_isLike_17 : P_Model_isLike 17 = (none, .if_icmp .eq 5, [22]) := by decide +kernel
theorem r_Model_isLike_20 : P_Model_isLike 20 = (none, .iconst 0, []) := by decide +kernel
theorem r_Model_isLike_21 : P_Model_isLike 21 = (none, .ireturn, []) := by decide +kernel
theorem r_Model_isLike_22 : P_Model_isLike 22 = (none, .aload_n 0, []) := by decide +kernel
theorem r_Model_isLike_23 : P_Model_isLike 23 = (none, .getfield 47, []) := by decide +kernel
theorem r_Model_isLike_26 : P_Model_isLike 26 = (none, .sipush 600, []) := by decide +kernel
theorem r_Model_isLike_29 : P_Model_isLike 29 = (none, .iload_n 1, []) := by decide +kernel
theorem r_Model_isLike_30 : P_Model_isLike 30 = (none, .imul, []) := by decide +kernel
theorem r_Model_isLike_31 : P_Model_isLike 31 = (none, .iload_n 2, []) := by decide +kernel
theorem r_Model_isLike_32 : P_Model_isLike 32 = (none, .iadd, []) := by decide +kernel
theorem r_Model_isLike_33 : P_Model_isLike 33 = (none, .iaload, []) := by decide +kernel
theorem r_Model_isLike_34 : P_Model_isLike 34 = (none, .istore 4, []) := by decide +kernel
theorem r_Model_isLike_36 : P_Model_isLike 36 = (none, .aload_n 0, []) := by decide +kernel
theorem r_Model_isLike_37 : P_Model_isLike 37 = (none, .getfield 47, []) := by decide +kernel
theorem r_Model_isLike_40 : P_Model_isLike 40 = (none, .sipush 600, []) := by decide +kernel
theorem r_Model_isLike_43 : P_Model_isLike 43 = (none, .iload_n 1, []) := by decide +kernel
theorem r_Model_isLike_44 : P_Model_isLike 44 = (none, .imul, []) := by decide +kernel
theorem r_Model_isLike_45 : P_Model_isLike 45 = (none, .iload_n 3, []) := by decide +kernel
theorem r_Model_isLike_46 : P_Model_isLike 46 = (none, .iadd, []) := by decide +kernel
theorem r_Model_isLike_47 : P_Model_isLike 47 = (none, .iaload, []) := by decide +kernel
theorem r_Model_isLike_48 : P_Model_isLike 48 = (none, .istore 5, []) := by decide +kernel
theorem r_Model_isLike_50 : P_Model_isLike 50 = (none, .aload_n 0, []) := by decide +kernel
theorem r_Model_isLike_51 : P_Model_isLike 51 = (none, .iload_n 1, []) := by decide +kernel
theorem r_Model_isLike_52 : P_Model_isLike 52 = (none, .iload 4, []) := by decide +kernel
theorem r_Model_isLike_54 : P_Model_isLike 54 = (none, .iconst 3, []) := by decide +kernel
theorem r_Model_isLike_55 : P_Model_isLike 55 = (none, .iadd, []) := by decide +kernel
theorem r_Model_isLike_56 : P_Model_isLike 56 = (none, .invokevirtual 95, []) := by decide +kernel
theorem r_Model_isLike_59 : P_Model_isLike 59 = (none, .aload_n 0, []) := by decide +kernel
theorem r_Model_isLike_60 : P_Model_isLike 60 = (none, .iload_n 1, []) := by decide +kernel
theorem r_Model_isLike_61 : P_Model_isLike 61 = (none, .iload 5, []) := by decide +kernel
theorem r_Model_isLike_63 : P_Model_isLike 63 = (none, .iconst 3, []) := by decide +kernel
theorem r_Model_isLike_64 : P_Model_isLike 64 = (none, .iadd, []) := by decide +kernel
theorem r_Model_isLike_65 : P_Model_isLike 65 = (none, .invokevirtual 95, []) := by decide +kernel
theorem r_Model_isLike_68 : P_Model_isLike 68 = (none, .if_icmp .ne 28, [96]) := by decide +kernel
theorem r_Model_isLike_71 : P_Model_isLike 71 = (none, .aload_n 0, []) := by decide +kernel
theorem r_Model_isLike_72 : P_Model_isLike 72 = (none, .iload_n 1, []) := by decide +kernel
theorem r_Model_isLike_73 : P_Model_isLike 73 = (none, .iload 4, []) := by decide +kernel
theorem r_Model_isLike_75 : P_Model_isLike 75 = (none, .iconst 4, []) := by decide +kernel
theorem r_Model_isLike_76 : P_Model_isLike 76 = (none, .iadd, []) := by decide +kernel
theorem r_Model_isLike_77 : P_Model_isLike 77 = (none, .invokevirtual 107, []) := by decide +kernel
theorem r_Model_isLike_80 : P_Model_isLike 80 = (none, .aload_n 0, []) := by decide +kernel
theorem r_Model_isLike_81 : P_Model_isLike 81 = (none, .iload_n 1, []) := by decide +kernel
theorem r_Model_isLike_82 : P_Model_isLike 82 = (none, .iload 5, []) := by decide +kernel
theorem r_Model_isLike_84 : P_Model_isLike 84 = (none, .iconst 4, []) := by decide +kernel
theorem r_Model_isLike_85 : P_Model_isLike 85 = (none, .iadd, []) := by decide +kernel
theorem r_Model_isLike_86 : P_Model_isLike 86 = (none, .invokevirtual 107, []) := by decide +kernel
theorem r_Model_isLike_89 : P_Model_isLike 89 = (none, .if_icmp .ne 7, [96]) := by decide +kernel
theorem r_Model_isLike_92 : P_Model_isLike 92 = (none, .iconst 1, []) := by decide +kernel
theorem r_Model_isLike_93 : P_Model_isLike 93 = (none, .goto 4, [97]) := by decide +kernel
theorem r_Model_isLike_96 : P_Model_isLike 96 = (none, .iconst 0, []) := by decide +kernel
theorem r_Model_isLike_97 : P_Model_isLike 97 = (none, .istore 6, []) := by decide +kernel
theorem r_Model_isLike_99 : P_Model_isLike 99 = (none, .iload 6, []) := by decide +kernel
theorem r_Model_isLike_101 : P_Model_isLike 101 = (none, .ifCond .eq 25, [126]) := by decide +kernel
theorem r_Model_isLike_104 : P_Model_isLike 104 = (none, .aload_n 0, []) := by decide +kernel
theorem r_Model_isLike_105 : P_Model_isLike 105 = (none, .iload_n 1, []) := by decide +kernel
theorem r_Model_isLike_106 : P_Model_isLike 106 = (none, .iload 4, []) := by decide +kernel
theorem r_Model_isLike_108 : P_Model_isLike 108 = (none, .aload_n 0, []) := by decide +kernel
theorem r_Model_isLike_109 : P_Model_isLike 109 = (none, .iload_n 1, []) := by decide +kernel
theorem r_Model_isLike_110 : P_Model_isLike 110 = (none, .iload 4, []) := by decide +kernel
theorem r_Model_isLike_112 : P_Model_isLike 112 = (none, .iconst 4, []) := by decide +kernel
theorem r_Model_isLike_113 : P_Model_isLike 113 = (none, .iadd, []) := by decide +kernel
theorem r_Model_isLike_114 : P_Model_isLike 114 = (none, .invokevirtual 107, []) := by decide +kernel
theorem r_Model_isLike_117 : P_Model_isLike 117 = (none, .invokevirtual 124, []) := by decide +kernel
theorem r_Model_isLike_120 : P_Model_isLike 120 = (none, .iload 4, []) := by decide +kernel
theorem r_Model_isLike_122 : P_Model_isLike 122 = (none, .isub, []) := by decide +kernel
theorem r_Model_isLike_123 : P_Model_isLike 123 = (none, .goto 4, [127]) := by decide +kernel
theorem r_Model_isLike_126 : P_Model_isLike 126 = (none, .iconst 0, []) := by decide +kernel
theorem r_Model_isLike_127 : P_Model_isLike 127 = (none, .istore 7, []) := by decide +kernel
theorem r_Model_isLike_129 : P_Model_isLike 129 = (none, .bipush 6, []) := by decide +kernel
theorem r_Model_isLike_131 : P_Model_isLike 131 = (none, .istore 8, []) := by decide +kernel
theorem r_Model_isLike_133 : P_Model_isLike 133 = (some [0, 1, 2, 3, 4, 5, 6, 7, 8], .iload 8, []) := by decide +kernel
theorem r_Model_isLike_135 : P_Model_isLike 135 = (none, .iload 7, []) := by decide +kernel
theorem r_Model_isLike_137 : P_Model_isLike 137 = (none, .if_icmp .ge 44, [181]) := by decide +kernel
theorem r_Model_isLike_140 : P_Model_isLike 140 = (none, .iload 6, []) := by decide +kernel
theorem r_Model_isLike_142 : P_Model_isLike 142 = (none, .ifCond .eq 39, [181]) := by decide +kernel
theorem r_Model_isLike_145 : P_Model_isLike 145 = (none, .aload_n 0, []) := by decide +kernel
theorem r_Model_isLike_146 : P_Model_isLike 146 = (none, .iload_n 1, []) := by decide +kernel
theorem r_Model_isLike_147 : P_Model_isLike 147 = (none, .iload 4, []) := by decide +kernel
theorem r_Model_isLike_149 : P_Model_isLike 149 = (none, .iload 8, []) := by decide +kernel
theorem r_Model_isLike_151 : P_Model_isLike 151 = (none, .iadd, []) := by decide +kernel
theorem r_Model_isLike_152 : P_Model_isLike 152 = (none, .invokevirtual 95, []) := by decide +kernel
theorem r_Model_isLike_155 : P_Model_isLike 155 = (none, .aload_n 0, []) := by decide +kernel
theorem r_Model_isLike_156 : P_Model_isLike 156 = (none, .iload_n 1, []) := by decide +kernel
theorem r_Model_isLike_157 : P_Model_isLike 157 = (none, .iload 5, []) := by decide +kernel
theorem r_Model_isLike_159 : P_Model_isLike 159 = (none, .iload 8, []) := by decide +kernel
theorem r_Model_isLike_161 : P_Model_isLike 161 = (none, .iadd, []) := by decide +kernel
theorem r_Model_isLike_162 : P_Model_isLike 162 = (none, .invokevirtual 95, []) := by decide +kernel
theorem r_Model_isLike_165 : P_Model_isLike 165 = (none, .if_icmp .ne 7, [172]) := by decide +kernel
theorem r_Model_isLike_168 : P_Model_isLike 168 = (none, .iconst 1, []) := by decide +kernel
theorem r_Model_isLike_169 : P_Model_isLike 169 = (none, .goto 4, [173]) := by decide +kernel
theorem r_Model_isLike_172 : P_Model_isLike 172 = (none, .iconst 0, []) := by decide +kernel
theorem r_Model_isLike_173 : P_Model_isLike 173 = (none, .istore 6, []) := by decide +kernel
theorem r_Model_isLike_175 : P_Model_isLike 175 = (none, .iinc 8 1, []) := by decide +kernel
theorem r_Model_isLike_178 : P_Model_isLike 178 = (none, .goto (-45), [133]) := by decide +kernel
theorem r_Model_isLike_181 : P_Model_isLike 181 = (none, .iload 6, []) := by decide +kernel
theorem r_Model_isLike_183 : P_Model_isLike 183 = (none, .ireturn, []) := by decide +kernel
def E_Model_isLike : List (Nat × Ent) := [(428, (3, 1, 0, 0, T_Model_two)), (496, (4, 4, 0, 0, T_Model_valuePlace)), (536, (3, 1, 0, 0, T_Model_sort)), (380, (3, 0, 0, 0, T_Model_at))]
def X_Model_isLike : Cx := (llk (0, 0, 9) ftX11, llk 99 ntX11, llk none kcX11, llk none klX11, llk dEnt E_Model_isLike, 5, 1, false)
theorem xok_Model_isLike : Xok RX11 X_Model_isLike := xok_of ftX11_ok ntX11_ok kcX11_ok klX11_ok (E := E_Model_isLike) (List.forall_mem_cons.mpr ⟨co_X11_428, List.forall_mem_cons.mpr ⟨co_X11_496, List.forall_mem_cons.mpr ⟨co_X11_536, List.forall_mem_cons.mpr ⟨co_X11_380, fun _ h => absurd h List.not_mem_nil⟩⟩⟩⟩)
theorem xf_Model_isLike_47 : xfl X_Model_isLike 47 = (11, 13, 1) := by decide +kernel
theorem xe_Model_isLike_428 : xE X_Model_isLike (4 * 107 + 0) = (3, 1, 0, 0, T_Model_two) := rfl
theorem xe_Model_isLike_496 : xE X_Model_isLike (4 * 124 + 0) = (4, 4, 0, 0, T_Model_valuePlace) := rfl
theorem xe_Model_isLike_536 : xE X_Model_isLike (4 * 134 + 0) = (3, 1, 0, 0, T_Model_sort) := rfl
theorem xe_Model_isLike_380 : xE X_Model_isLike (4 * 95 + 0) = (3, 0, 0, 0, T_Model_at) := rfl
theorem xd_Model_isLike : xd X_Model_isLike = 5 := rfl
theorem xrb_Model_isLike : xrb X_Model_isLike = 1 := rfl
theorem xin_Model_isLike : xin X_Model_isLike = false := rfl
set_option maxHeartbeats 4000000 in
set_option maxRecDepth 100000 in
theorem S_Model_isLike : Snd yX11_isLike cX11_isLike 9 (some .boolean) T_Model_isLike 5 0 0 := by
  refine snd_of (X := X_Model_isLike) (P := P_Model_isLike) (tb := tb_Model_isLike) (own := RX11) (by decide) rfl rfl (by decide +kernel) xok_Model_isLike rfl rk1 (fun h => by first | rfl | cases h) ?_
  intro as M k has hM hT0
  obtain ⟨sz, sl, lay, ρ, σ, τ⟩ := M
  obtain ⟨o, as1, e, hlo, hT1⟩ := mkT_r hT0
  clear hT0
  subst e
  obtain ⟨p, as2, e, hT2⟩ := pI_x hT1
  clear hT1
  subst e
  obtain ⟨x, as3, e, hT3⟩ := pI_x hT2
  clear hT2
  subst e
  obtain ⟨y, as4, e, hT4⟩ := pI_x hT3
  clear hT3
  subst e
  obtain ⟨e, hT⟩ := hT4
  subst e
  replace hlo : lay o = (21, 0) := hlo
  have r_p : -2147483648 ≤ p ∧ p ≤ 2147483647 := has (vI p) (by simp)
  have r_x : -2147483648 ≤ x ∧ x ≤ 2147483647 := has (vI x) (by simp)
  have r_y : -2147483648 ≤ y ∧ y ≤ 2147483647 := has (vI y) (by simp)
  clear has
  replace hM : ∀ a i, -2147483648 ≤ σ a i ∧ σ a i ≤ 2147483647 := hM
  replace hT : TF_Model_isLike o p x y sz sl lay ρ σ τ k := hT
  unfold TF_Model_isLike at hT
  obtain ⟨hL, U, len, st, hS, hR, hx, hy, h1, h0⟩ := hT
  obtain ⟨hB, hl3, ⟨m4, m5, m6⟩, ⟨m7, m8, m9⟩, m12, ⟨m14, m13⟩, m15, ⟨m17, m16⟩, m26⟩ := (show MR σ o p U len st from hR)
  obtain ⟨b1, b2, b3, b4, b5, b6, b7⟩ := (show MB σ o p U len (st 1) from hB)
  obtain ⟨w0, w1, w2, w3, w4, w5, w6, w7, w8, w9, w10, w11, w12, w13, w14⟩ := (show SW U len st from hS)
  obtain ⟨J, hJd⟩ : ∃ J : Nat → List AV → Mm → Prop, J = (fun c vs M1 => c = 133 ∧ (U (st 2 x) = 82 ∧ U (st 2 x + 3) ≤ 5) ∧ (U (st 2 y) = 82 ∧ U (st 2 y + 3) ≤ 5) ∧ ∃ (c : Int → Int) (r i n : Int), 6 ≤ i ∧ ((r = 1 ∧ (U (st 2 x + 3) = U (st 2 y + 3) ∧ nV U (st 1) (st 2 x) = nV U (st 1) (st 2 y)) ∧ (n = vP U (st 1) (st 2 x) (nV U (st 1) (st 2 x)) - st 2 x ∧ i ≤ n) ∧ ∀ j, 6 ≤ j ∧ j < i → U (st 2 x + j) = U (st 2 y + j)) ∨ (r = 0 ∧ ¬ (rwP U st x ∧ rwP U st y ∧ LkP U st x y))) ∧ (i ≤ 20000 ∧ n ≤ 8000) ∧ vs = [vR o, vI p, vI x, vI y, vI (st 2 x), vI (st 2 y), vI r, vI n, vI i] ∧ M1 = (sz, sl, lay, ρ, fu σ (o + 23) c, τ)) := ⟨_, rfl⟩
  obtain ⟨μ, hμ⟩ : ∃ μ : Nat → List AV → Mm → Nat, μ = (fun _ vs _ => (9000 - gI (vs.getD 8 vN)).toNat) := ⟨_, rfl⟩
  refine ⟨Nat.le_of_ble_eq_true rfl, J, μ, 115, ?_, ?_⟩
  · skip
    have tv := hS.tv hx
    have tw := hS.tv hy
    have t0 := tv.1.2.1
    have t4 := tv.1.2.2.1
    have y0 := tw.1.2.1
    have y4 := tw.1.2.2.1
    have mx := m13 x hx
    have my := m13 y hy
    have h0' : ¬ (rwP U st x ∧ rwP U st y ∧ LkP U st x y) → k (some (vI 0)) (sz, sl, lay, ρ, σ, τ) := fun z => by
      have := h0 z (σ (o + 23))
      rw [fu_self] at this
      exact this
    (obtain ⟨mh, mp0, mp2, mp3, mp4, mp5, mp6, mp7, mp8, mp9, mp10, mp11, mp12, mp13, mp14, mp15, mp16, mp17, mp18, mp19, mp20, mp21, mp22, mp24, mp25, mp26, mp27, mq0, mq2, mq3, mq4, mq5, mq6, mq7, mq8, mq9, mq10, mq11, mq12, mq13, mq14, mq15, mq16, mq17, mq18, mq19, mq20, mq21, mq22, mq24, mq25, mq26, mq27⟩ := (show LModel lay ρ _ from hL); unfold wps; simp only [mx, my, si_iload_n0, si_iload_n1, si_iload_n2, si_iload_n3, si_iload, si_lload_n0, si_lload_n1, si_lload_n2, si_lload_n3, si_lload, si_aload_n0, si_aload_n1, si_aload_n2, si_aload_n3, si_aload, si_istore_n0, si_istore_n1, si_istore_n2, si_istore_n3, si_istore, si_astore_n0, si_astore_n1, si_astore_n2, si_astore_n3, si_astore, si_lstore_n0, si_lstore_n1, si_lstore_n2, si_lstore_n3, si_lstore, si_iconst, si_bipush, si_sipush, si_ldc, si_ldc2_w, si_lconst0, si_lconst1, si_aconst_null, si_iinc, si_dup, si_dup2, si_iadd, si_isub, si_imul, si_idiv, si_irem, si_iand, si_ior, si_ishl, si_ishr, si_ladd, si_lmul, si_lor, si_lxor, si_lshl, si_lushr, si_lcmp, si_i2b, si_i2l, si_l2i, si_icmp_eq, si_icmp_ne, si_icmp_lt, si_icmp_ge, si_icmp_gt, si_icmp_le, si_if_eq, si_if_ne, si_if_lt, si_if_ge, si_if_gt, si_if_le, si_ifnull, si_ifnonnull, si_goto, si_tableswitch, si_lookupswitch, si_getfield, si_putfield, si_getstatic, si_iaload, si_baload, si_laload, si_aaload, si_iastore, si_bastore, si_lastore, si_aastore, si_arraylength, si_new, si_newarray, si_anewarray, si_invokevirtual, si_invokespecial, si_invokestatic, si_ireturn, si_lreturn, si_areturn, si_return_, pI_e, pL_e, pR_e, pA_r, pA_n, pN_n, pN_r, oI_e, oL_e, oA_r, oA_n, lget_e, lrm1_0, lrm2_0, lrm1_i, lrm1_r, lrm1_n, lrm1_l, lrm2_i, lrm2_r, lrm2_n, lrm2_l, popN_0, popN_s, acat_i, acat_l, acat_r, acat_n, stw_0, stw_s, psh_s, psh_n, wgf_r, wgf_i, wgf_b, wgf_n, wgf_m, wpf_i, wpf_r, wpf_b, wnew_e, callE_e, rbk_0, rbk_1, tsw_0, tsw_s, lsw_0, lsw_s, wp_s, wq_t, wq_f, oV_e, pick_0, pick_s, oZ_e, oY_e, r_Model_isLike_0, r_Model_isLike_1, r_Model_isLike_2, r_Model_isLike_3, r_Model_isLike_6, r_Model_isLike_7, r_Model_isLike_10, r_Model_isLike_11, r_Model_isLike_12, r_Model_isLike_13, r_Model_isLike_16, r_Model_isLike_17, r_Model_isLike_20, r_Model_isLike_21, r_Model_isLike_22, r_Model_isLike_23, r_Model_isLike_26, r_Model_isLike_29, r_Model_isLike_30, r_Model_isLike_31, r_Model_isLike_32, r_Model_isLike_33, r_Model_isLike_34, r_Model_isLike_36, r_Model_isLike_37, r_Model_isLike_40, r_Model_isLike_43, r_Model_isLike_44, r_Model_isLike_45, r_Model_isLike_46, r_Model_isLike_47, r_Model_isLike_48, r_Model_isLike_50, r_Model_isLike_51, r_Model_isLike_52, r_Model_isLike_54, r_Model_isLike_55, r_Model_isLike_56, r_Model_isLike_59, r_Model_isLike_60, r_Model_isLike_61, r_Model_isLike_63, r_Model_isLike_64, r_Model_isLike_65, r_Model_isLike_68, r_Model_isLike_71, r_Model_isLike_72, r_Model_isLike_73, r_Model_isLike_75, r_Model_isLike_76, r_Model_isLike_77, r_Model_isLike_80, r_Model_isLike_81, r_Model_isLike_82, r_Model_isLike_84, r_Model_isLike_85, r_Model_isLike_86, r_Model_isLike_89, r_Model_isLike_92, r_Model_isLike_93, r_Model_isLike_96, r_Model_isLike_97, r_Model_isLike_99, r_Model_isLike_101, r_Model_isLike_104, r_Model_isLike_105, r_Model_isLike_106, r_Model_isLike_108, r_Model_isLike_109, r_Model_isLike_110, r_Model_isLike_112, r_Model_isLike_113, r_Model_isLike_114, r_Model_isLike_117, r_Model_isLike_120, r_Model_isLike_122, r_Model_isLike_123, r_Model_isLike_126, r_Model_isLike_127, r_Model_isLike_129, r_Model_isLike_131, r_Model_isLike_133, r_Model_isLike_135, r_Model_isLike_137, r_Model_isLike_140, r_Model_isLike_142, r_Model_isLike_145, r_Model_isLike_146, r_Model_isLike_147, r_Model_isLike_149, r_Model_isLike_151, r_Model_isLike_152, r_Model_isLike_155, r_Model_isLike_156, r_Model_isLike_157, r_Model_isLike_159, r_Model_isLike_161, r_Model_isLike_162, r_Model_isLike_165, r_Model_isLike_168, r_Model_isLike_169, r_Model_isLike_172, r_Model_isLike_173, r_Model_isLike_175, r_Model_isLike_178, r_Model_isLike_181, r_Model_isLike_183, xf_Model_isLike_47, xe_Model_isLike_428, xe_Model_isLike_496, xe_Model_isLike_536, xe_Model_isLike_380, xd_Model_isLike, xrb_Model_isLike, xin_Model_isLike, T_Model_two_e, TF_Model_two, T_Model_valuePlace_e, TF_Model_valuePlace, T_Model_sort_e, TF_Model_sort, T_Model_at_e, TF_Model_at, MB_fu, mh, mp0, mp2, mp3, mp4, mp5, mp6, mp7, mp8, mp9, mp10, mp11, mp12, mp13, mp14, mp15, mp16, mp17, mp18, mp19, mp20, mp21, mp22, mp24, mp25, mp26, mp27, mq0, mq2, mq3, mq4, mq5, mq6, mq7, mq8, mq9, mq10, mq11, mq12, mq13, mq14, mq15, mq16, mq17, mq18, mq19, mq20, mq21, mq22, mq24, mq25, mq26, mq27, Nat.reduceAdd, Nat.reduceMul, Nat.reduceEqDiff, reduceIte, Int.reduceNeg, Int.reduceLE, Int.reduceLT, Int.reduceAdd, Int.reduceSub, Int.reduceToNat, true_and, and_true, inR_e, Nat.reduceLT, Nat.reduceLeDiff, reduceCtorEq, Nat.add_zero, Nat.zero_add, or_false, false_or, or_true, true_or, not_true_eq_false, not_false_eq_true, Classical.not_not, Nat.add_eq_zero_iff, and_false, false_and, Int.reduceEq, List.mem_cons, List.not_mem_nil, forall_eq_or_imp, forall_eq, false_implies, implies_true, forall_const, aargs_0, aargs_i, aargs_r, aargs_l, aargs_n, nfT_e, eq_self, and_self, Nat.le_refl, fu_s, fu_fu, iu_iu, iu_s, fu_am, fu_a0, fu_0a, iu_l, Nat.reduceBEq, Int.reduceBEq, T_objInit_e]; clear mp0 mp2 mp3 mp4 mp5 mp6 mp7 mp8 mp9 mp10 mp11 mp12 mp13 mp14 mp15 mp16 mp17 mp18 mp19 mp20 mp21 mp22 mp24 mp25 mp26 mp27)
    refine ⟨hL, U, len, st 1, hB, by omega, by omega, fun a => h0' (fun z => a z.1), fun a => ⟨hL, U, len, st 1, hB, by omega, by omega, fun b => ?_, fun b => h0' (fun z => b z.2.1)⟩⟩
    have ra : U (st 2 x) = 82 ∧ U (st 2 x + 3) ≤ 5 := by
      unfold srt at a
      rcases tv.1.1 with ⟨e, -⟩ | ⟨e, e2, -⟩ | e
      · rw [if_pos e] at a; omega
      · exact ⟨e, e2.2⟩
      · rw [if_neg (by omega), if_neg (by omega)] at a; omega
    have rb : U (st 2 y) = 82 ∧ U (st 2 y + 3) ≤ 5 := by
      unfold srt at b
      rcases tw.1.1 with ⟨e, -⟩ | ⟨e, e2, -⟩ | e
      · rw [if_pos e] at b; omega
      · exact ⟨e, e2.2⟩
      · rw [if_neg (by omega), if_neg (by omega)] at b; omega
    have t6 := tv.1.2.2.2 ra.1
    have y6 := tw.1.2.2.2 rb.1
    have ka : kdv U (st 2 x) = U (st 2 x + 3) := by unfold kdv; rw [if_neg (by omega)]
    have kb : kdv U (st 2 y) = U (st 2 y + 3) := by unfold kdv; rw [if_neg (by omega)]
    have na : nV U (st 1) (st 2 x) = two2 U (st 2 x + 4) := nV_82 ra.1
    have nb : nV U (st 1) (st 2 y) = two2 U (st 2 y + 4) := nV_82 rb.1
    have bad : ¬ LkP U st x y → J 133 [vR o, vI p, vI x, vI y, vI (st 2 x), vI (st 2 y), vI 0, vI 0, vI 6] (sz, sl, lay, ρ, σ, τ) := fun z => by
      rw [hJd]
      exact ⟨rfl, ra, rb, σ (o + 23), 0, 6, 0, by omega, Or.inr ⟨rfl, fun q => z q.2.2⟩, by omega, rfl, by rw [fu_self]⟩
    have nva := tv.1.1.nv b5
    have vba := tv.1.1.vb b5 (nV U (st 1) (st 2 x)).toNat (by omega)
    rw [show (((nV U (st 1) (st 2 x)).toNat : Nat) : Int) = nV U (st 1) (st 2 x) by omega] at vba
    have hd : hdL U (st 2 x) = 6 := by unfold hdL; rw [if_neg (by omega), if_pos ra.1]
    rw [b3 (st 2 x + 3) (by omega), b3 (st 2 y + 3) (by omega), b3 (st 2 x + 4) (by omega), b3 (st 2 y + 4) (by omega), b3 (st 2 x + 4 + 1) (by omega), b3 (st 2 y + 4 + 1) (by omega)]
    rw [show U (st 2 x + 4) * 256 + U (st 2 x + 4 + 1) = nV U (st 1) (st 2 x) from na.symm, show U (st 2 y + 4) * 256 + U (st 2 y + 4 + 1) = nV U (st 1) (st 2 y) from nb.symm]
    have ten := tv.2
    refine ⟨by omega, by omega, by omega, by omega, by omega, by omega, by omega, by omega, by omega, hL, b1, by omega, by omega, hL, b1, by omega, fun e => bad (fun z => e (by rw [← ka, ← kb]; exact z.1)), fun e => ⟨by omega, hL, b1, by omega, by omega, hL, b1, by omega, fun f => bad (fun z => f z.2.1), fun f => ⟨by omega, hL, b1, by omega, hL, U, len, st 1, hB, tv.1, by omega, fun c => ⟨by omega, ?_⟩⟩⟩⟩
    rw [hJd]
    exact ⟨rfl, ra, rb, c, 1, 6, _, by omega, Or.inl ⟨rfl, ⟨e, f⟩, ⟨rfl, by omega⟩, fun j hj => by omega⟩, by omega, rfl, rfl⟩
  · intro cp vs M1 hvs hM1 hlen hJ
    rw [hJd] at hJ
    obtain ⟨rfl, ra, rb, c, r, i, n, g1, g2, g3, rfl, rfl⟩ := hJ
    have tv := hS.tv hx
    have tw := hS.tv hy
    have t0 := tv.1.2.1
    have y0 := tw.1.2.1
    have vx : vP U (st 1) (st 2 x) (nV U (st 1) (st 2 x)) = st 2 x + 6 + nV U (st 1) (st 2 x) * wd (U (st 2 x + 3)) := vP_82 ra.1
    have vy : vP U (st 1) (st 2 y) (nV U (st 1) (st 2 y)) = st 2 y + 6 + nV U (st 1) (st 2 y) * wd (U (st 2 y + 3)) := vP_82 rb.1
    have ex := tv.2
    have ey := tw.2
    have rx : rwP U st x := by unfold rwP srt; rw [if_neg (by omega), if_pos ra.1]
    have ry : rwP U st y := by unfold rwP srt; rw [if_neg (by omega), if_pos rb.1]
    have ka : kdv U (st 2 x) = U (st 2 x + 3) := by unfold kdv; rw [if_neg (by omega)]
    have kb : kdv U (st 2 y) = U (st 2 y + 3) := by unfold kdv; rw [if_neg (by omega)]
    have na : nV U (st 1) (st 2 x) = two2 U (st 2 x + 4) := nV_82 ra.1
    have nb : nV U (st 1) (st 2 y) = two2 U (st 2 y + 4) := nV_82 rb.1
    have rowb := fun (e : U (st 2 x + 3) = U (st 2 y + 3)) (f : nV U (st 1) (st 2 x) = nV U (st 1) (st 2 y)) => row_b (A := st 1) b5.1 ra.1 rb.1 e ra.2 (by rw [← na, ← nb]; exact f)
    (obtain ⟨mh, mp0, mp2, mp3, mp4, mp5, mp6, mp7, mp8, mp9, mp10, mp11, mp12, mp13, mp14, mp15, mp16, mp17, mp18, mp19, mp20, mp21, mp22, mp24, mp25, mp26, mp27, mq0, mq2, mq3, mq4, mq5, mq6, mq7, mq8, mq9, mq10, mq11, mq12, mq13, mq14, mq15, mq16, mq17, mq18, mq19, mq20, mq21, mq22, mq24, mq25, mq26, mq27⟩ := (show LModel lay ρ _ from hL); unfold wps; simp only [Option.getD_some, List.zip_cons_cons, List.zip_nil_left, List.zip_nil_right, List.zip_nil_right, MB_fu, si_iload_n0, si_iload_n1, si_iload_n2, si_iload_n3, si_iload, si_lload_n0, si_lload_n1, si_lload_n2, si_lload_n3, si_lload, si_aload_n0, si_aload_n1, si_aload_n2, si_aload_n3, si_aload, si_istore_n0, si_istore_n1, si_istore_n2, si_istore_n3, si_istore, si_astore_n0, si_astore_n1, si_astore_n2, si_astore_n3, si_astore, si_lstore_n0, si_lstore_n1, si_lstore_n2, si_lstore_n3, si_lstore, si_iconst, si_bipush, si_sipush, si_ldc, si_ldc2_w, si_lconst0, si_lconst1, si_aconst_null, si_iinc, si_dup, si_dup2, si_iadd, si_isub, si_imul, si_idiv, si_irem, si_iand, si_ior, si_ishl, si_ishr, si_ladd, si_lmul, si_lor, si_lxor, si_lshl, si_lushr, si_lcmp, si_i2b, si_i2l, si_l2i, si_icmp_eq, si_icmp_ne, si_icmp_lt, si_icmp_ge, si_icmp_gt, si_icmp_le, si_if_eq, si_if_ne, si_if_lt, si_if_ge, si_if_gt, si_if_le, si_ifnull, si_ifnonnull, si_goto, si_tableswitch, si_lookupswitch, si_getfield, si_putfield, si_getstatic, si_iaload, si_baload, si_laload, si_aaload, si_iastore, si_bastore, si_lastore, si_aastore, si_arraylength, si_new, si_newarray, si_anewarray, si_invokevirtual, si_invokespecial, si_invokestatic, si_ireturn, si_lreturn, si_areturn, si_return_, pI_e, pL_e, pR_e, pA_r, pA_n, pN_n, pN_r, oI_e, oL_e, oA_r, oA_n, lget_e, lrm1_0, lrm2_0, lrm1_i, lrm1_r, lrm1_n, lrm1_l, lrm2_i, lrm2_r, lrm2_n, lrm2_l, popN_0, popN_s, acat_i, acat_l, acat_r, acat_n, stw_0, stw_s, psh_s, psh_n, wgf_r, wgf_i, wgf_b, wgf_n, wgf_m, wpf_i, wpf_r, wpf_b, wnew_e, callE_e, rbk_0, rbk_1, tsw_0, tsw_s, lsw_0, lsw_s, wp_s, wq_t, wq_f, oV_e, pick_0, pick_s, oZ_e, oY_e, r_Model_isLike_0, r_Model_isLike_1, r_Model_isLike_2, r_Model_isLike_3, r_Model_isLike_6, r_Model_isLike_7, r_Model_isLike_10, r_Model_isLike_11, r_Model_isLike_12, r_Model_isLike_13, r_Model_isLike_16, r_Model_isLike_17, r_Model_isLike_20, r_Model_isLike_21, r_Model_isLike_22, r_Model_isLike_23, r_Model_isLike_26, r_Model_isLike_29, r_Model_isLike_30, r_Model_isLike_31, r_Model_isLike_32, r_Model_isLike_33, r_Model_isLike_34, r_Model_isLike_36, r_Model_isLike_37, r_Model_isLike_40, r_Model_isLike_43, r_Model_isLike_44, r_Model_isLike_45, r_Model_isLike_46, r_Model_isLike_47, r_Model_isLike_48, r_Model_isLike_50, r_Model_isLike_51, r_Model_isLike_52, r_Model_isLike_54, r_Model_isLike_55, r_Model_isLike_56, r_Model_isLike_59, r_Model_isLike_60, r_Model_isLike_61, r_Model_isLike_63, r_Model_isLike_64, r_Model_isLike_65, r_Model_isLike_68, r_Model_isLike_71, r_Model_isLike_72, r_Model_isLike_73, r_Model_isLike_75, r_Model_isLike_76, r_Model_isLike_77, r_Model_isLike_80, r_Model_isLike_81, r_Model_isLike_82, r_Model_isLike_84, r_Model_isLike_85, r_Model_isLike_86, r_Model_isLike_89, r_Model_isLike_92, r_Model_isLike_93, r_Model_isLike_96, r_Model_isLike_97, r_Model_isLike_99, r_Model_isLike_101, r_Model_isLike_104, r_Model_isLike_105, r_Model_isLike_106, r_Model_isLike_108, r_Model_isLike_109, r_Model_isLike_110, r_Model_isLike_112, r_Model_isLike_113, r_Model_isLike_114, r_Model_isLike_117, r_Model_isLike_120, r_Model_isLike_122, r_Model_isLike_123, r_Model_isLike_126, r_Model_isLike_127, r_Model_isLike_129, r_Model_isLike_131, r_Model_isLike_133, r_Model_isLike_135, r_Model_isLike_137, r_Model_isLike_140, r_Model_isLike_142, r_Model_isLike_145, r_Model_isLike_146, r_Model_isLike_147, r_Model_isLike_149, r_Model_isLike_151, r_Model_isLike_152, r_Model_isLike_155, r_Model_isLike_156, r_Model_isLike_157, r_Model_isLike_159, r_Model_isLike_161, r_Model_isLike_162, r_Model_isLike_165, r_Model_isLike_168, r_Model_isLike_169, r_Model_isLike_172, r_Model_isLike_173, r_Model_isLike_175, r_Model_isLike_178, r_Model_isLike_181, r_Model_isLike_183, xf_Model_isLike_47, xe_Model_isLike_428, xe_Model_isLike_496, xe_Model_isLike_536, xe_Model_isLike_380, xd_Model_isLike, xrb_Model_isLike, xin_Model_isLike, T_Model_two_e, TF_Model_two, T_Model_valuePlace_e, TF_Model_valuePlace, T_Model_sort_e, TF_Model_sort, T_Model_at_e, TF_Model_at, MB_fu, mh, mp0, mp2, mp3, mp4, mp5, mp6, mp7, mp8, mp9, mp10, mp11, mp12, mp13, mp14, mp15, mp16, mp17, mp18, mp19, mp20, mp21, mp22, mp24, mp25, mp26, mp27, mq0, mq2, mq3, mq4, mq5, mq6, mq7, mq8, mq9, mq10, mq11, mq12, mq13, mq14, mq15, mq16, mq17, mq18, mq19, mq20, mq21, mq22, mq24, mq25, mq26, mq27, Nat.reduceAdd, Nat.reduceMul, Nat.reduceEqDiff, reduceIte, Int.reduceNeg, Int.reduceLE, Int.reduceLT, Int.reduceAdd, Int.reduceSub, Int.reduceToNat, true_and, and_true, inR_e, Nat.reduceLT, Nat.reduceLeDiff, reduceCtorEq, Nat.add_zero, Nat.zero_add, or_false, false_or, or_true, true_or, not_true_eq_false, not_false_eq_true, Classical.not_not, Nat.add_eq_zero_iff, and_false, false_and, Int.reduceEq, List.mem_cons, List.not_mem_nil, forall_eq_or_imp, forall_eq, false_implies, implies_true, forall_const, aargs_0, aargs_i, aargs_r, aargs_l, aargs_n, nfT_e, eq_self, and_self, Nat.le_refl, fu_s, fu_fu, iu_iu, iu_s, fu_am, fu_a0, fu_0a, iu_l, Nat.reduceBEq, Int.reduceBEq, T_objInit_e]; clear mp0 mp2 mp3 mp4 mp5 mp6 mp7 mp8 mp9 mp10 mp11 mp12 mp13 mp14 mp15 mp16 mp17 mp18 mp19 mp20 mp21 mp22 mp24 mp25 mp26 mp27)
    refine ⟨fun h => ?_, fun h => ⟨fun h2 => ?_, fun h2 => ?_⟩⟩
    · rcases g2 with ⟨q1, q2, q3, q4⟩ | ⟨q1, q2⟩
      · rw [q1]
        exact ⟨Or.inr rfl, h1 ⟨rx, ry, by rw [ka, kb]; exact q2.1, q2.2, (rowb q2.1 q2.2).mpr (fun k hk => q4 k (by omega))⟩ c⟩
      · rw [q1]
        exact ⟨Or.inl rfl, h0 q2 c⟩
    · rcases g2 with ⟨q1, q2, q3, q4⟩ | ⟨q1, q2⟩
      · omega
      · rw [q1]
        exact ⟨Or.inl rfl, h0 q2 c⟩
    · rcases g2 with ⟨q1, q2, q3, q4⟩ | ⟨q1, q2⟩
      · rw [vy, ← q2.1, ← q2.2] at ey
        rw [b3 (st 2 x + i) (by omega), b3 (st 2 y + i) (by omega)]
        refine ⟨by omega, hL, b1, by omega, by omega, hL, b1, by omega, fun e => ⟨by omega, ?_, (by rw [hμ]; simp only [gI_e, List.getD_cons_succ, List.getD_cons_zero]; omega)⟩, fun e => ⟨by omega, ?_, (by rw [hμ]; simp only [gI_e, List.getD_cons_succ, List.getD_cons_zero]; omega)⟩⟩
        · rw [hJd]
          exact ⟨rfl, ra, rb, c, 0, i + 1, n, by omega, Or.inr ⟨rfl, fun z => e ((rowb q2.1 q2.2).mp z.2.2.2.2 i (by omega))⟩, by omega, rfl, rfl⟩
        · rw [hJd]
          refine ⟨rfl, ra, rb, c, 1, i + 1, n, by omega, Or.inl ⟨rfl, q2, by omega, fun j hj => ?_⟩, by omega, rfl, rfl⟩
          by_cases e2 : j = i
          · rw [e2]; exact e
          · exact q4 j (by omega)
      · exact absurd q1 h2

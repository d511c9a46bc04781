/-- the place of a number among the first n; -1 -/
def fidx (f : Int → Int) (x : Int) : Nat → Int
  | 0 => -1
  | n + 1 => if fidx f x n = -1 then (if f n = x then n else -1) else fidx f x n
theorem fidx_R (f : Int → Int) (x : Int) : ∀ n : Nat, fidx f x n = -1 ∨ (0 ≤ fidx f x n ∧ fidx f x n < n ∧ f (fidx f x n) = x)
  | 0 => Or.inl rfl
  | n + 1 => by
    have ih := fidx_R f x n
    unfold fidx
    split
    · split
      · rename_i h; exact Or.inr ⟨by omega, by omega, h⟩
      · exact Or.inl rfl
    · rename_i h
      rcases ih with ih | ih
      · exact absurd ih h
      · exact Or.inr ⟨by omega, by omega, ih.2.2⟩
theorem fidx_no (f : Int → Int) (x : Int) : ∀ n : Nat, fidx f x n = -1 → ∀ i : Int, 0 ≤ i ∧ i < n → ¬ f i = x
  | 0, _, i, hi => by omega
  | n + 1, h, i, hi => by
    unfold fidx at h
    split at h
    · rename_i h1
      split at h
      · omega
      · rename_i h2
        by_cases e : i = n
        · rw [e]; exact h2
        · exact fidx_no f x n h1 i (by omega)
    · rename_i h1; exact absurd h h1
def fxT (σ : Nat → Int → Int) (o : Nat) (x : Int) : Int := fidx (σ (o + 1)) x (σ o 12).toNat
theorem fxT_R (σ : Nat → Int → Int) (o : Nat) (x : Int) (h : 0 ≤ σ o 12) : fxT σ o x = -1 ∨ ((0 ≤ fxT σ o x ∧ fxT σ o x < σ o 12) ∧ σ (o + 1) (fxT σ o x) = x) := by
  rcases fidx_R (σ (o + 1)) x (σ o 12).toNat with h1 | h1
  · exact Or.inl h1
  · exact Or.inr ⟨⟨h1.1, by have := h1.2.1; unfold fxT; omega⟩, h1.2.2⟩
theorem fxT_no {σ : Nat → Int → Int} {o : Nat} {x : Int} (h : fxT σ o x = -1) (i : Int) (hi : 0 ≤ i ∧ i < σ o 12) : ¬ σ (o + 1) i = x := fidx_no _ _ _ h i (by omega)
/-- a thing is taken -/
def keepS (σ : Nat → Int → Int) (o : Nat) (x s d q n set r : Int) : Nat → Int → Int :=
  fu (fu (fu (fu (fu (fu (fu (fu (fu (fu σ (o + 1) (iu (σ (o + 1)) (σ o 12) x)) (o + 2) (iu (σ (o + 2)) (σ o 12) s)) (o + 3) (iu (σ (o + 3)) (σ o 12) d)) (o + 4) (iu (σ (o + 4)) (σ o 12) q)) (o + 5) (iu (σ (o + 5)) (σ o 12) ((n + 7) / 8 * 8))) (o + 6) (iu (σ (o + 6)) (σ o 12) 0)) (o + 7) (iu (fun i => if r + 1 ≤ i ∧ i < r + 1 + (σ o 12 - r) then σ (o + 7) (r + (i - (r + 1))) else σ (o + 7) i) r (σ o 12))) o (iu (iu (σ o) 13 set) 12 (σ o 12 + 1))) (o + 8) (iu (σ (o + 8)) (σ o 12 + 1) (σ o 15))) (o + 9) (iu (σ (o + 9)) (σ o 12 + 1) (σ o 16))
theorem ThB.cong {σ σ2 : Nat → Int → Int} {o : Nat} (h : ThB σ o) (e1 : σ2 o 12 = σ o 12) (e2 : σ2 (o + 7) = σ (o + 7)) (e3 : ∀ i, 0 ≤ i ∧ i < σ o 12 → σ2 (o + 1) i = σ (o + 1) i) : ThB σ2 o := by
  obtain ⟨h1, h2, h3⟩ := h
  unfold ThB
  rw [e1, e2]
  refine ⟨h1, fun r s hr => ?_, h3⟩
  rw [e3 _ (h1 r (by omega)), e3 _ (h1 s (by omega))]
  exact h2 r s hr
theorem iu_nx {α : Type} {f : Int → α} {a b : Int} {v : α} (h : b < a ∨ a < b) : iu f a v b = f b := iu_n (by omega)
theorem co_X7_292 : CallOK RX7 (.invokevirtual 73) (3, 0, 0, 0, T_Things_countSet) := call_V S_Things_countSet (by decide) (ci := 7) rfl (by decide +kernel) (by decide +kernel) (by decide +kernel) (by decide +kernel) (by decide +kernel) (by decide +kernel) T_Things_countSet_r
theorem co_X7_308 : CallOK RX7 (.invokevirtual 77) (2, 2, 0, 0, T_Things_enlist) := call_V S_Things_enlist (by decide) (ci := 7) rfl (by decide +kernel) (by decide +kernel) (by decide +kernel) (by decide +kernel) (by decide +kernel) (by decide +kernel) T_Things_enlist_r
def TF_Things_keep (o : Nat) (x : Int) (s : Int) (d : Int) (q : Int) (n : Int) (sz sl : Nat) (lay : Nat → Nat × Int) (ρ : Nat → Int → Nat) (σ : Nat → Int → Int) (τ : Nat → Int → Int64) (k : Option AV → Mm → Prop) : Prop := LThings lay ρ o ∧ (0 ≤ σ o 12 ∧ σ o 12 ≤ 600) ∧ ThB σ o ∧ (0 ≤ σ (o + 9) (σ o 12) ∧ σ (o + 9) (σ o 12) ≤ σ o 16 ∧ σ o 16 ≤ 4000) ∧ (0 ≤ σ o 13 ∧ σ o 13 ≤ 3000) ∧ (0 ≤ n ∧ n ≤ 100000) ∧ (¬ σ o 17 = 0 ∨ 600 ≤ σ o 12 ∨ 3000 < (σ o 13 + cntZ (fun i => decide (¬ σ (o + 11) (σ (o + 9) (σ o 12) + i) = 0)) (σ o 16 - σ (o + 9) (σ o 12)).toNat) → k (some (vI (0))) (sz, sl, lay, ρ, σ, τ)) ∧ (¬ (¬ σ o 17 = 0 ∨ 600 ≤ σ o 12 ∨ 3000 < (σ o 13 + cntZ (fun i => decide (¬ σ (o + 11) (σ (o + 9) (σ o 12) + i) = 0)) (σ o 16 - σ (o + 9) (σ o 12)).toNat)) → ∀ r, (0 ≤ r ∧ r ≤ σ o 12) → (∀ i, 0 ≤ i ∧ i < r → σ (o + 1) (σ (o + 7) i) < x) → (∀ i, r ≤ i ∧ i < σ o 12 → x ≤ σ (o + 1) (σ (o + 7) i)) → k (some (vI (1))) (sz, sl, lay, ρ, keepS σ o x s d q n (σ o 13 + cntZ (fun i => decide (¬ σ (o + 11) (σ (o + 9) (σ o 12) + i) = 0)) (σ o 16 - σ (o + 9) (σ o 12)).toNat) r, τ))
def T_Things_keep : Tr := mkT 7 fun o as M k => pI as fun x as => pI as fun s as => pI as fun d as => pI as fun q as => pI as fun n as => as = [] ∧ TF_Things_keep o x s d q n M.1 M.2.1 M.2.2.1 M.2.2.2.1 M.2.2.2.2.1 M.2.2.2.2.2 k
theorem T_Things_keep_e {o : Nat} {x : Int} {s : Int} {d : Int} {q : Int} {n : Int} {sz sl : Nat} {lay : Nat → Nat × Int} {ρ : Nat → Int → Nat} {σ : Nat → Int → Int} {τ : Nat → Int → Int64} {k : Option AV → Mm → Prop} : T_Things_keep [vR o, vI x, vI s, vI d, vI q, vI n] (sz, sl, lay, ρ, σ, τ) k = (lay o = (17, 0) ∧ TF_Things_keep o x s d q n sz sl lay ρ σ τ k) := by simp [T_Things_keep, mkT_e, pI_e, pR_e, pL_e]
theorem T_Things_keep_r (as : List AV) (M : Mm) (k : Option AV → Mm → Prop) (h : T_Things_keep as M k) : ∃ b As, as = vR b :: As ∧ M.2.2.1 b = (10 + 7, 0) := by
  obtain ⟨b, As, h1, h2, -⟩ := mkT_r h
  exact ⟨b, As, h1, h2⟩
def tb_Things_keep : List (Nat × Option (List Nat) × Instr × List Nat) := [(0, none, .aload_n 0, []), (1, none, .getfield 65, []), (4, none, .ifCond .ne 13, [17]), (7, none, .aload_n 0, []), (8, none, .getfield 49, []), (11, none, .sipush 600, []), (14, none, .if_icmp .lt 5, [19]), (17, none, .iconst 0, []), (18, none, .ireturn, []), (19, none, .aload_n 0, []), (20, none, .getfield 53, []), (23, none, .aload_n 0, []), (24, none, .aload_n 0, []), (25, none, .getfield 36, []), (28, none, .aload_n 0, []), (29, none, .getfield 49, []), (32, none, .iaload, []), (33, none, .aload_n 0, []), (34, none, .getfield 62, []), (37, none, .invokevirtual 73, []), (40, none, .iadd, []), (41, none, .istore 6, []), (43, none, .iload 6, []), (45, none, .sipush 3000, []), (48, none, .if_icmp .le 5, [53]), (51, none, .iconst 0, []), (52, none, .ireturn, []), (53, none, .aload_n 0, []), (54, none, .getfield 9, []), (57, none, .aload_n 0, []), (58, none, .getfield 49, []), (61, none, .iload_n 1, []), (62, none, .iastore, []), (63, none, .aload_n 0, []), (64, none, .getfield 15, []), (67, none, .aload_n 0, []), (68, none, .getfield 49, []), (71, none, .iload_n 2, []), (72, none, .iastore, []), (73, none, .aload_n 0, []), (74, none, .getfield 18, []), (77, none, .aload_n 0, []), (78, none, .getfield 49, []), (81, none, .iload_n 3, []), (82, none, .iastore, []), (83, none, .aload_n 0, []), (84, none, .getfield 21, []), (87, none, .aload_n 0, []), (88, none, .getfield 49, []), (91, none, .iload 4, []), (93, none, .iastore, []), (94, none, .aload_n 0, []), (95, none, .getfield 24, []), (98, none, .aload_n 0, []), (99, none, .getfield 49, []), (102, none, .iload 5, []), (104, none, .bipush 7, []), (106, none, .iadd, []), (107, none, .bipush 8, []), (109, none, .idiv, []), (110, none, .bipush 8, []), (112, none, .imul, []), (113, none, .iastore, []), (114, none, .aload_n 0, []), (115, none, .getfield 27, []), (118, none, .aload_n 0, []), (119, none, .getfield 49, []), (122, none, .iconst 0, []), (123, none, .iastore, []), (124, none, .aload_n 0, []), (125, none, .iload 6, []), (127, none, .putfield 53, []), (130, none, .aload_n 0, []), (131, none, .iload_n 1, []), (132, none, .invokevirtual 77, []), (135, none, .aload_n 0, []), (136, none, .dup, []), (137, none, .getfield 49, []), (140, none, .iconst 1, []), (141, none, .iadd, []), (142, none, .putfield 49, []), (145, none, .aload_n 0, []), (146, none, .getfield 33, []), (149, none, .aload_n 0, []), (150, none, .getfield 49, []), (153, none, .aload_n 0, []), (154, none, .getfield 59, []), (157, none, .iastore, []), (158, none, .aload_n 0, []), (159, none, .getfield 36, []), (162, none, .aload_n 0, []), (163, none, .getfield 49, []), (166, none, .aload_n 0, []), (167, none, .getfield 62, []), (170, none, .iastore, []), (171, none, .iconst 1, []), (172, none, .ireturn, [])]
def P_Things_keep : Nat → Option (List Nat) × Instr × List Nat := plk tb_Things_keep
theorem r_Things_keep_0 : P_Things_keep 0 = (none, .aload_n 0, []) := by decide +kernel
theorem r_Things_keep_1 : P_Things_keep 1 = (none, .getfield 65, []) := by decide +kernel
theorem r_Things_keep_4 : P_Things_keep 4 = (none, .ifCond .ne 13, [17]) := by decide +kernel
theorem r_Things_keep_7 : P_Things_keep 7 = (none, .aload_n 0, []) := by decide +kernel
theorem r_Things_keep_8 : P_Things_keep 8 = (none, .getfield 49, []) := by decide +kernel
theorem r_Things_keep_11 : P_Things_keep 11 = (none, .sipush 600, []) := by decide +kernel
theorem r_Things_keep_14 : P_Things_keep 14 = (none, .if_icmp .lt 5, [19]) := by decide +kernel
theorem r_Things_keep_17 : P_Things_keep 17 = (none, .iconst 0, []) := by decide +kernel
theorem r_Things_keep_18 : P_Things_keep 18 = (none, .ireturn, []) := by decide +kernel
theorem r_Things_keep_19 : P_Things_keep 19 = (none, .aload_n 0, []) := by decide +kernel
theorem r_Things_keep_20 : P_Things_keep 20 = (none, .getfield 53, []) := by decide +kernel
theorem r_Things_keep_23 : P_Things_keep 23 = (none, .aload_n 0, []) := by decide +kernel
theorem r_Things_keep_24 : P_Things_keep 24 = (none, .aload_n 0, []) := by decide +kernel
theorem r_Things_keep_25 : P_Things_keep 25 = (none, .getfield 36, []) := by decide +kernel
theorem r_Things_keep_28 : P_Things_keep 28 = (none, .aload_n 0, []) := by decide +kernel
theorem r_Things_keep_29 : P_Things_keep 29 = (none, .getfield 49, []) := by decide +kernel
theorem r_Things_keep_32 : P_Things_keep 32 = (none, .iaload, []) := by decide +kernel
theorem r_Things_keep_33 : P_Things_keep 33 = (none, .aload_n 0, []) := by decide +kernel
theorem r_Things_keep_34 : P_Things_keep 34 = (none, .getfield 62, []) := by decide +kernel
theorem r_Things_keep_37 : P_Things_keep 37 = (none, .invokevirtual 73, []) := by decide +kernel
theorem r_Things_keep_40 : P_Things_keep 40 = (none, .iadd, []) := by decide +kernel
theorem r_Things_keep_41 : P_Things_keep 41 = (none, .istore 6, []) := by decide +kernel
theorem r_Things_keep_43 : P_Things_keep 43 = (none, .iload 6, []) := by decide +kernel
theorem r_Things_keep_45 : P_Things_keep 45 = (none, .sipush 3000, []) := by decide +kernel
theorem r_Things_keep_48 : P_Things_keep 48 = (none, .if_icmp .le 5, [53]) := by decide +kernel
theorem r_Things_keep_51 : P_Things_keep 51 = (none, .iconst 0, []) := by decide +kernel
theorem r_Things_keep_52 : P_Things_keep 52 = (none, .ireturn, []) := by decide +kernel
theorem r_Things_keep_53 : P_Things_keep 53 = (none, .aload_n 0, []) := by decide +kernel
theorem r_Things_keep_54 : P_Things_keep 54 = (none, .getfield 9, []) := by decide +kernel
theorem r_Things_keep_57 : P_Things_keep 57 = (none, .aload_n 0, []) := by decide +kernel
theorem r_Things_keep_58 : P_Things_keep 58 = (none, .getfield 49, []) := by decide +kernel
theorem r_Things_keep_61 : P_Things_keep 61 = (none, .iload_n 1, []) := by decide +kernel
theorem r_Things_keep_62 : P_Things_keep 62 = (none, .iastore, []) := by decide +kernel
theorem r_Things_keep_63 : P_Things_keep 63 = (none, .aload_n 0, []) := by decide +kernel
theorem r_Things_keep_64 : P_Things_keep 64 = (none, .getfield 15, []) := by decide +kernel
theorem r_Things_keep_67 : P_Things_keep 67 = (none, .aload_n 0, []) := by decide +kernel
theorem r_Things_keep_68 : P_Things_keep 68 = (none, .getfield 49, []) := by decide +kernel
theorem r_Things_keep_71 : P_Things_keep 71 = (none, .iload_n 2, []) := by decide +kernel
theorem r_Things_keep_72 : P_Things_keep 72 = (none, .iastore, []) := by decide +kernel
theorem r_Things_keep_73 : P_Things_keep 73 = (none, .aload_n 0, []) := by decide +kernel
theorem r_Things_keep_74 : P_Things_keep 74 = (none, .getfield 18, []) := by decide +kernel
theorem r_Things_keep_77 : P_Things_keep 77 = (none, .aload_n 0, []) := by decide +kernel
theorem r_Things_keep_78 : P_Things_keep 78 = (none, .getfield 49, []) := by decide +kernel
theorem r_Things_keep_81 : P_Things_keep 81 = (none, .iload_n 3, []) := by decide +kernel
theorem r_Things_keep_82 : P_Things_keep 82 = (none, .iastore, []) := by decide +kernel
theorem r_Things_keep_83 : P_Things_keep 83 = (none, .aload_n 0, []) := by decide +kernel
theorem r_Things_keep_84 : P_Things_keep 84 = (none, .getfield 21, []) := by decide +kernel
theorem r_Things_keep_87 : P_Things_keep 87 = (none, .aload_n 0, []) := by decide +kernel
theorem r_Things_keep_88 : P_Things_keep 88 = (none, .getfield 49, []) := by decide +kernel
theorem r_Things_keep_91 : P_Things_keep 91 = (none, .iload 4, []) := by decide +kernel
theorem r_Things_keep_93 : P_Things_keep 93 = (none, .iastore, []) := by decide +kernel
theorem r_Things_keep_94 : P_Things_keep 94 = (none, .aload_n 0, []) := by decide +kernel
theorem r_Things_keep_95 : P_Things_keep 95 = (none, .getfield 24, []) := by decide +kernel
theorem r_Things_keep_98 : P_Things_keep 98 = (none, .aload_n 0, []) := by decide +kernel
theorem r_Things_keep_99 : P_Things_keep 99 = (none, .getfield 49, []) := by decide +kernel
theorem r_Things_keep_102 : P_Things_keep 102 = (none, .iload 5, []) := by decide +kernel
theorem r_Things_keep_104 : P_Things_keep 104 = (none, .bipush 7, []) := by decide +kernel
theorem r_Things_keep_106 : P_Things_keep 106 = (none, .iadd, []) := by decide +kernel
theorem r_Things_keep_107 : P_Things_keep 107 = (none, .bipush 8, []) := by decide +kernel
theorem r_Things_keep_109 : P_Things_keep 109 = (none, .idiv, []) := by decide +kernel
theorem r_Things_keep_110 : P_Things_keep 110 = (none, .bipush 8, []) := by decide +kernel
theorem r_Things_keep_112 : P_Things_keep 112 = (none, .imul, []) := by decide +kernel
theorem r_Things_keep_113 : P_Things_keep 113 = (none, .iastore, []) := by decide +kernel
theorem r_Things_keep_114 : P_Things_keep 114 = (none, .aload_n 0, []) := by decide +kernel
theorem r_Things_keep_115 : P_Things_keep 115 = (none, .getfield 27, []) := by decide +kernel
theorem r_Things_keep_118 : P_Things_keep 118 = (none, .aload_n 0, []) := by decide +kernel
theorem r_Things_keep_119 : P_Things_keep 119 = (none, .getfield 49, []) := by decide +kernel
theorem r_Things_keep_122 : P_Things_keep 122 = (none, .iconst 0, []) := by decide +kernel
theorem r_Things_keep_123 : P_Things_keep 123 = (none, .iastore, []) := by decide +kernel
theorem r_Things_keep_124 : P_Things_keep 124 = (none, .aload_n 0, []) := by decide +kernel
theorem r_Things_keep_125 : P_Things_keep 125 = (none, .iload 6, []) := by decide +kernel
theorem r_Things_keep_127 : P_Things_keep 127 = (none, .putfield 53, []) := by decide +kernel
theorem r_Things_keep_130 : P_Things_keep 130 = (none, .aload_n 0, []) := by decide +kernel
theorem r_Things_keep_131 : P_Things_keep 131 = (none, .iload_n 1, []) := by decide +kernel
theorem r_Things_keep_132 : P_Things_keep 132 = (none, .invokevirtual 77, []) := by decide +kernel
theorem r_Things_keep_135 : P_Things_keep 135 = (none, .aload_n 0, []) := by decide +kernel
theorem r_Things_keep_136 : P_Things_keep 136 = (none, .dup, []) := by decide +kernel
theorem r_Things_keep_137 : P_Things_keep 137 = (none, .getfield 49, []) := by decide +kernel
theorem r_Things_keep_140 : P_Things_keep 140 = (none, .iconst 1, []) := by decide +kernel
theorem r_Things_keep_141 : P_Things_keep 141 = (none, .iadd, []) := by decide +kernel
theorem r_Things_keep_142 : P_Things_keep 142 = (none, .putfield 49, []) := by decide +kernel
theorem r_Things_keep_145 : P_Things_keep 145 = (none, .aload_n 0, []) := by decide +kernel
theorem r_Things_keep_146 : P_Things_keep 146 = (none, .getfield 33, []) := by decide +kernel
theorem r_Things_keep_149 : P_Things_keep 149 = (none, .aload_n 0, []) := by decide +kernel
theorem r_Things_keep_150 : P_Things_keep 150 = (none, .getfield 49, []) := by decide +kernel
theorem r_Things_keep_153 : P_Things_keep 153 = (none, .aload_n 0, []) := by decide +kernel
theorem r_Things_keep_154 : P_Things_keep 154 = (none, .getfield 59, []) := by decide +kernel
theorem r_Things_keep_157 : P_Things_keep 157 = (none, .iastore, []) := by decide +kernel
theorem r_Things_keep_158 : P_Things_keep 158 = (none, .aload_n 0, []) := by decide +kernel
theorem r_Things_keep_159 : P_Things_keep 159 = (none, .getfield 36, []) := by decide +kernel
theorem r_Things_keep_162 : P_Things_keep 162 = (none, .aload_n 0, []) := by decide +kernel
theorem r_Things_keep_163 : P_Things_keep 163 = (none, .getfield 49, []) := by decide +kernel
theorem r_Things_keep_166 : P_Things_keep 166 = (none, .aload_n 0, []) := by decide +kernel
theorem r_Things_keep_167 : P_Things_keep 167 = (none, .getfield 62, []) := by decide +kernel
theorem r_Things_keep_170 : P_Things_keep 170 = (none, .iastore, []) := by decide +kernel
theorem r_Things_keep_171 : P_Things_keep 171 = (none, .iconst 1, []) := by decide +kernel
theorem r_Things_keep_172 : P_Things_keep 172 = (none, .ireturn, []) := by decide +kernel
def E_Things_keep : List (Nat × Ent) := [(292, (3, 0, 0, 0, T_Things_countSet)), (308, (2, 2, 0, 0, T_Things_enlist))]
def X_Things_keep : Cx := (llk (0, 0, 9) ftX7, llk 99 ntX7, llk none kcX7, llk none klX7, llk dEnt E_Things_keep, 3, 1, false)
theorem xok_Things_keep : Xok RX7 X_Things_keep := xok_of ftX7_ok ntX7_ok kcX7_ok klX7_ok (E := E_Things_keep) (List.forall_mem_cons.mpr ⟨co_X7_292, List.forall_mem_cons.mpr ⟨co_X7_308, fun _ h => absurd h List.not_mem_nil⟩⟩)
theorem xf_Things_keep_9 : xfl X_Things_keep 9 = (7, 0, 1) := by decide +kernel
theorem xf_Things_keep_15 : xfl X_Things_keep 15 = (7, 1, 1) := by decide +kernel
theorem xf_Things_keep_18 : xfl X_Things_keep 18 = (7, 2, 1) := by decide +kernel
theorem xf_Things_keep_21 : xfl X_Things_keep 21 = (7, 3, 1) := by decide +kernel
theorem xf_Things_keep_24 : xfl X_Things_keep 24 = (7, 4, 1) := by decide +kernel
theorem xf_Things_keep_27 : xfl X_Things_keep 27 = (7, 5, 1) := by decide +kernel
theorem xf_Things_keep_33 : xfl X_Things_keep 33 = (7, 7, 1) := by decide +kernel
theorem xf_Things_keep_36 : xfl X_Things_keep 36 = (7, 8, 1) := by decide +kernel
theorem xf_Things_keep_49 : xfl X_Things_keep 49 = (7, 12, 0) := by decide +kernel
theorem xf_Things_keep_53 : xfl X_Things_keep 53 = (7, 13, 0) := by decide +kernel
theorem xf_Things_keep_59 : xfl X_Things_keep 59 = (7, 15, 0) := by decide +kernel
theorem xf_Things_keep_62 : xfl X_Things_keep 62 = (7, 16, 0) := by decide +kernel
theorem xf_Things_keep_65 : xfl X_Things_keep 65 = (7, 17, 2) := by decide +kernel
theorem xe_Things_keep_292 : xE X_Things_keep (4 * 73 + 0) = (3, 0, 0, 0, T_Things_countSet) := rfl
theorem xe_Things_keep_308 : xE X_Things_keep (4 * 77 + 0) = (2, 2, 0, 0, T_Things_enlist) := rfl
theorem xd_Things_keep : xd X_Things_keep = 3 := rfl
theorem xrb_Things_keep : xrb X_Things_keep = 1 := rfl
theorem xin_Things_keep : xin X_Things_keep = false := rfl
set_option maxHeartbeats 16000000 in
set_option maxRecDepth 100000 in
theorem S_Things_keep : Snd yX7_keep cX7_keep 7 (some .boolean) T_Things_keep 3 0 0 := by
  refine snd_of (X := X_Things_keep) (P := P_Things_keep) (tb := tb_Things_keep) (own := RX7) (by decide) rfl rfl (by decide +kernel) xok_Things_keep rfl rk1 (fun h => by first | rfl | cases h) ?_
  intro as M k has hM hT0
  obtain ⟨sz, sl, lay, ρ, σ, τ⟩ := M
  obtain ⟨o, as1, e, hlo, hT1⟩ := mkT_r hT0
  clear hT0
  subst e
  obtain ⟨x, as2, e, hT2⟩ := pI_x hT1
  clear hT1
  subst e
  obtain ⟨s, as3, e, hT3⟩ := pI_x hT2
  clear hT2
  subst e
  obtain ⟨d, as4, e, hT4⟩ := pI_x hT3
  clear hT3
  subst e
  obtain ⟨q, as5, e, hT5⟩ := pI_x hT4
  clear hT4
  subst e
  obtain ⟨n, as6, e, hT6⟩ := pI_x hT5
  clear hT5
  subst e
  obtain ⟨e, hT⟩ := hT6
  subst e
  replace hlo : lay o = (17, 0) := hlo
  have r_x : -2147483648 ≤ x ∧ x ≤ 2147483647 := has (vI x) (by simp)
  have r_s : -2147483648 ≤ s ∧ s ≤ 2147483647 := has (vI s) (by simp)
  have r_d : -2147483648 ≤ d ∧ d ≤ 2147483647 := has (vI d) (by simp)
  have r_q : -2147483648 ≤ q ∧ q ≤ 2147483647 := has (vI q) (by simp)
  have r_n : -2147483648 ≤ n ∧ n ≤ 2147483647 := has (vI n) (by simp)
  clear has
  replace hM : ∀ a i, -2147483648 ≤ σ a i ∧ σ a i ≤ 2147483647 := hM
  replace hT : TF_Things_keep o x s d q n sz sl lay ρ σ τ k := hT
  unfold TF_Things_keep at hT
  obtain ⟨hL, hn, hB, hr, hs, hb, h0, h1⟩ := hT
  obtain ⟨lh, lp0, lp1, lp2, lp3, lp4, lp5, lp6, lp7, lp8, lp9, lp10, lp11, lq0, lq1, lq2, lq3, lq4, lq5, lq6, lq7, lq8, lq9, lq10, lq11⟩ := (show LThings lay ρ _ from hL)
  refine ⟨Nat.le_of_ble_eq_true rfl, fun _ _ _ => False, fun _ _ _ => 0, 105, ?_, fun _ _ _ _ _ _ h => h.elim⟩
  unfold wps
  simp only [si_iload_n0, si_iload_n1, si_iload_n2, si_iload_n3, si_iload, si_lload_n0, si_lload_n1, si_lload_n2, si_lload_n3, si_lload, si_aload_n0, si_aload_n1, si_aload_n2, si_aload_n3, si_aload, si_istore_n0, si_istore_n1, si_istore_n2, si_istore_n3, si_istore, si_astore_n0, si_astore_n1, si_astore_n2, si_astore_n3, si_astore, si_lstore_n0, si_lstore_n1, si_lstore_n2, si_lstore_n3, si_lstore, si_iconst, si_bipush, si_sipush, si_ldc, si_ldc2_w, si_lconst0, si_lconst1, si_aconst_null, si_iinc, si_dup, si_dup2, si_iadd, si_isub, si_imul, si_idiv, si_irem, si_iand, si_ior, si_ishl, si_ishr, si_ladd, si_lmul, si_lor, si_lxor, si_lshl, si_lushr, si_lcmp, si_i2b, si_i2l, si_l2i, si_icmp_eq, si_icmp_ne, si_icmp_lt, si_icmp_ge, si_icmp_gt, si_icmp_le, si_if_eq, si_if_ne, si_if_lt, si_if_ge, si_if_gt, si_if_le, si_ifnull, si_ifnonnull, si_goto, si_tableswitch, si_lookupswitch, si_getfield, si_putfield, si_getstatic, si_iaload, si_baload, si_laload, si_aaload, si_iastore, si_bastore, si_lastore, si_aastore, si_arraylength, si_new, si_newarray, si_anewarray, si_invokevirtual, si_invokespecial, si_invokestatic, si_ireturn, si_lreturn, si_areturn, si_return_, pI_e, pL_e, pR_e, pA_r, pA_n, pN_n, pN_r, oI_e, oL_e, oA_r, oA_n, lget_e, lrm1_0, lrm2_0, lrm1_i, lrm1_r, lrm1_n, lrm1_l, lrm2_i, lrm2_r, lrm2_n, lrm2_l, popN_0, popN_s, acat_i, acat_l, acat_r, acat_n, stw_0, stw_s, psh_s, psh_n, wgf_r, wgf_i, wgf_b, wgf_n, wgf_m, wpf_i, wpf_r, wpf_b, wnew_e, callE_e, rbk_0, rbk_1, tsw_0, tsw_s, lsw_0, lsw_s, wp_s, wq_t, wq_f, oV_e, pick_0, pick_s, oZ_e, oY_e, r_Things_keep_0, r_Things_keep_1, r_Things_keep_4, r_Things_keep_7, r_Things_keep_8, r_Things_keep_11, r_Things_keep_14, r_Things_keep_17, r_Things_keep_18, r_Things_keep_19, r_Things_keep_20, r_Things_keep_23, r_Things_keep_24, r_Things_keep_25, r_Things_keep_28, r_Things_keep_29, r_Things_keep_32, r_Things_keep_33, r_Things_keep_34, r_Things_keep_37, r_Things_keep_40, r_Things_keep_41, r_Things_keep_43, r_Things_keep_45, r_Things_keep_48, r_Things_keep_51, r_Things_keep_52, r_Things_keep_53, r_Things_keep_54, r_Things_keep_57, r_Things_keep_58, r_Things_keep_61, r_Things_keep_62, r_Things_keep_63, r_Things_keep_64, r_Things_keep_67, r_Things_keep_68, r_Things_keep_71, r_Things_keep_72, r_Things_keep_73, r_Things_keep_74, r_Things_keep_77, r_Things_keep_78, r_Things_keep_81, r_Things_keep_82, r_Things_keep_83, r_Things_keep_84, r_Things_keep_87, r_Things_keep_88, r_Things_keep_91, r_Things_keep_93, r_Things_keep_94, r_Things_keep_95, r_Things_keep_98, r_Things_keep_99, r_Things_keep_102, r_Things_keep_104, r_Things_keep_106, r_Things_keep_107, r_Things_keep_109, r_Things_keep_110, r_Things_keep_112, r_Things_keep_113, r_Things_keep_114, r_Things_keep_115, r_Things_keep_118, r_Things_keep_119, r_Things_keep_122, r_Things_keep_123, r_Things_keep_124, r_Things_keep_125, r_Things_keep_127, r_Things_keep_130, r_Things_keep_131, r_Things_keep_132, r_Things_keep_135, r_Things_keep_136, r_Things_keep_137, r_Things_keep_140, r_Things_keep_141, r_Things_keep_142, r_Things_keep_145, r_Things_keep_146, r_Things_keep_149, r_Things_keep_150, r_Things_keep_153, r_Things_keep_154, r_Things_keep_157, r_Things_keep_158, r_Things_keep_159, r_Things_keep_162, r_Things_keep_163, r_Things_keep_166, r_Things_keep_167, r_Things_keep_170, r_Things_keep_171, r_Things_keep_172, xf_Things_keep_9, xf_Things_keep_15, xf_Things_keep_18, xf_Things_keep_21, xf_Things_keep_24, xf_Things_keep_27, xf_Things_keep_33, xf_Things_keep_36, xf_Things_keep_49, xf_Things_keep_53, xf_Things_keep_59, xf_Things_keep_62, xf_Things_keep_65, xe_Things_keep_292, xe_Things_keep_308, xd_Things_keep, xrb_Things_keep, xin_Things_keep, T_Things_countSet_e, TF_Things_countSet, T_Things_enlist_e, TF_Things_enlist, lh, lp0, lp1, lp2, lp3, lp4, lp5, lp6, lp7, lp8, lp9, lp10, lp11, lq0, lq1, lq2, lq3, lq4, lq5, lq6, lq7, lq8, lq9, lq10, lq11, fu_skip, fu_fu, iu_l, Int.reduceMul, Int.mul_assoc, Nat.reduceAdd, Nat.reduceMul, Nat.reduceEqDiff, reduceIte, Int.reduceNeg, Int.reduceLE, Int.reduceLT, Int.reduceAdd, Int.reduceSub, Int.reduceToNat, true_and, and_true, inR_e, Nat.reduceLT, Nat.reduceLeDiff, reduceCtorEq, Nat.add_zero, Nat.zero_add, or_false, false_or, or_true, true_or, not_true_eq_false, not_false_eq_true, Classical.not_not, Nat.add_eq_zero_iff, and_false, false_and, Int.reduceEq, List.mem_cons, List.not_mem_nil, forall_eq_or_imp, forall_eq, false_implies, implies_true, forall_const, aargs_0, aargs_i, aargs_r, aargs_l, aargs_n, nfT_e, eq_self, and_self, Nat.le_refl, fu_s, fu_fu, iu_iu, iu_s, fu_am, fu_a0, fu_0a, iu_l, Nat.reduceBEq, Int.reduceBEq, T_objInit_e]
  have hc := cntZ_R (fun i => decide (¬ σ (o + 11) (σ (o + 9) (σ o 12) + i) = 0)) (σ o 16 - σ (o + 9) (σ o 12)).toNat
  refine ⟨fun a => h0 (by omega), fun a => ⟨fun b => ?_, fun b => h0 (by omega)⟩⟩
  refine ⟨by omega, by omega, hL, hr, by omega, fun c => ?_, fun c => h0 (by omega)⟩
  have h1 := h1 (by omega)
  have q0 : 0 ≤ σ o 12 ∧ σ o 12 < 600 := by omega
  have q1 : 0 ≤ (n + 7) / 8 * 8 ∧ (n + 7) / 8 * 8 ≤ n + 7 := by omega
  refine ⟨q0.1, q0.2, q0.1, q0.2, q0.1, q0.2, q0.1, q0.2, by omega, by omega, by omega, q0.1, q0.2, q0.1, q0.2, hL, q0, ?_, fun r hr a1 a2 => ⟨by omega, by omega, by omega, by omega, by omega, ?_⟩⟩
  · refine hB.cong ?_ ?_ (fun i hi => ?_)
    · simp only [fu_s, iu_l, Int.reduceBEq]
    · simp only [fu_0a, fu_am, Nat.reduceBEq]
    · simp only [fu_0a, fu_am, Nat.reduceBEq, fu_s]
      exact iu_nx (by omega)
  · refine h1 r hr (fun i hi => ?_) (fun i hi => ?_)
    · have := a1 i hi
      rw [iu_nx (by have := hB.1 i (by omega); omega)] at this
      exact this
    · have := a2 i hi
      rw [iu_nx (by have := hB.1 i (by omega); omega)] at this
      exact this

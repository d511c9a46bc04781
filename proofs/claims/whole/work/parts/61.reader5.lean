theorem co_X3_788 : CallOK RX3 (.invokevirtual 197) (1, 0, 0, 0, T_Holes_size) := call_V S_Holes_size (by decide) (ci := 0) rfl (by decide +kernel) (by decide +kernel) (by decide +kernel) (by decide +kernel) (by decide +kernel) (by decide +kernel) T_Holes_size_r
theorem co_X3_792 : CallOK RX3 (.invokevirtual 198) (1, 0, 0, 0, T_Holes_allBytes) := call_V S_Holes_allBytes (by decide) (ci := 0) rfl (by decide +kernel) (by decide +kernel) (by decide +kernel) (by decide +kernel) (by decide +kernel) (by decide +kernel) T_Holes_allBytes_r
theorem co_X3_804 : CallOK RX3 (.invokevirtual 201) (1, 0, 0, 0, T_Kinds_size) := call_V S_Kinds_size (by decide) (ci := 1) rfl (by decide +kernel) (by decide +kernel) (by decide +kernel) (by decide +kernel) (by decide +kernel) (by decide +kernel) T_Kinds_size_r
theorem co_X3_808 : CallOK RX3 (.invokevirtual 202) (1, 0, 0, 0, T_Things_size) := call_V S_Things_size (by decide) (ci := 7) rfl (by decide +kernel) (by decide +kernel) (by decide +kernel) (by decide +kernel) (by decide +kernel) (by decide +kernel) T_Things_size_r
theorem co_X3_812 : CallOK RX3 (.invokevirtual 203) (1, 0, 0, 0, T_Roots_size) := call_V S_Roots_size (by decide) (ci := 4) rfl (by decide +kernel) (by decide +kernel) (by decide +kernel) (by decide +kernel) (by decide +kernel) (by decide +kernel) T_Roots_size_r
theorem co_X3_816 : CallOK RX3 (.invokevirtual 204) (1, 0, 0, 0, T_Things_unknownRefs) := call_V S_Things_unknownRefs (by decide) (ci := 7) rfl (by decide +kernel) (by decide +kernel) (by decide +kernel) (by decide +kernel) (by decide +kernel) (by decide +kernel) T_Things_unknownRefs_r
theorem co_X3_828 : CallOK RX3 (.invokevirtual 207) (1, 0, 0, 0, T_Roots_unknownRefs) := call_V S_Roots_unknownRefs (by decide) (ci := 4) rfl (by decide +kernel) (by decide +kernel) (by decide +kernel) (by decide +kernel) (by decide +kernel) (by decide +kernel) T_Roots_unknownRefs_r
theorem co_X3_832 : CallOK RX3 (.invokevirtual 208) (1, 0, 0, 0, T_Things_allSizes) := call_V S_Things_allSizes (by decide) (ci := 7) rfl (by decide +kernel) (by decide +kernel) (by decide +kernel) (by decide +kernel) (by decide +kernel) (by decide +kernel) T_Things_allSizes_r
theorem co_X3_844 : CallOK RX3 (.invokevirtual 211) (1, 0, 0, 0, T_Life_size) := call_V S_Life_size (by decide) (ci := 2) rfl (by decide +kernel) (by decide +kernel) (by decide +kernel) (by decide +kernel) (by decide +kernel) (by decide +kernel) T_Life_size_r
theorem co_X3_848 : CallOK RX3 (.invokevirtual 212) (1, 0, 0, 0, T_Life_allSizes) := call_V S_Life_allSizes (by decide) (ci := 2) rfl (by decide +kernel) (by decide +kernel) (by decide +kernel) (by decide +kernel) (by decide +kernel) (by decide +kernel) T_Life_allSizes_r
def TF_Picture_count (o : Nat) (w : Int) (sz sl : Nat) (lay : Nat → Nat × Int) (ρ : Nat → Int → Nat) (σ : Nat → Int → Int) (τ : Nat → Int → Int64) (k : Option AV → Mm → Prop) : Prop := LPic lay ρ o ∧ (0 ≤ σ (o + 8) 12 ∧ σ (o + 8) 12 ≤ 600) ∧ (∀ i, 0 ≤ i ∧ i < σ (o + 8) 12 → 0 ≤ σ (o + 8 + 5) i ∧ σ (o + 8 + 5) i ≤ 100000) ∧ (-2147483648 ≤ σ (o + 8) 14 + σ (o + 21) 3 ∧ σ (o + 8) 14 + σ (o + 21) 3 ≤ 2147483647) ∧ (w = 0 → k (some (vI (σ o 8))) (sz, sl, lay, ρ, σ, τ)) ∧ (w = 1 → k (some (vI (σ o 9))) (sz, sl, lay, ρ, σ, τ)) ∧ (w = 2 → k (some (vI (σ o 10))) (sz, sl, lay, ρ, σ, τ)) ∧ (w = 3 → k (some (vI (σ o 11))) (sz, sl, lay, ρ, σ, τ)) ∧ (w = 4 → k (some (vI (σ (o + 24) 2))) (sz, sl, lay, ρ, σ, τ)) ∧ (w = 5 → k (some (vI (σ (o + 24) 3))) (sz, sl, lay, ρ, σ, τ)) ∧ (w = 6 → k (some (vI (σ (o + 1) 6))) (sz, sl, lay, ρ, σ, τ)) ∧ (w = 7 → k (some (vI (σ (o + 8) 12))) (sz, sl, lay, ρ, σ, τ)) ∧ (w = 8 → k (some (vI (σ (o + 21) 2))) (sz, sl, lay, ρ, σ, τ)) ∧ (w = 9 → k (some (vI (σ (o + 8) 14 + σ (o + 21) 3))) (sz, sl, lay, ρ, σ, τ)) ∧ (w = 10 → k (some (vI (sumZ (σ (o + 8 + 5)) (σ (o + 8) 12).toNat))) (sz, sl, lay, ρ, σ, τ)) ∧ (w = 11 → k (some (vI (σ (o + 35) 4))) (sz, sl, lay, ρ, σ, τ)) ∧ (w = 12 → k (some (vI (σ (o + 35) 5))) (sz, sl, lay, ρ, σ, τ)) ∧ (¬ (0 ≤ w ∧ w ≤ 12) → k (some (vI (-1))) (sz, sl, lay, ρ, σ, τ))
def T_Picture_count : Tr := mkT 3 fun o as M k => pI as fun w as => as = [] ∧ TF_Picture_count o w M.1 M.2.1 M.2.2.1 M.2.2.2.1 M.2.2.2.2.1 M.2.2.2.2.2 k
theorem T_Picture_count_e {o : Nat} {w : Int} {sz sl : Nat} {lay : Nat → Nat × Int} {ρ : Nat → Int → Nat} {σ : Nat → Int → Int} {τ : Nat → Int → Int64} {k : Option AV → Mm → Prop} : T_Picture_count [vR o, vI w] (sz, sl, lay, ρ, σ, τ) k = (lay o = (13, 0) ∧ TF_Picture_count o w sz sl lay ρ σ τ k) := by simp [T_Picture_count, mkT_e, pI_e, pR_e, pL_e]
theorem T_Picture_count_r (as : List AV) (M : Mm) (k : Option AV → Mm → Prop) (h : T_Picture_count as M k) : ∃ b As, as = vR b :: As ∧ M.2.2.1 b = (10 + 3, 0) := by
  obtain ⟨b, As, h1, h2, -⟩ := mkT_r h
  exact ⟨b, As, h1, h2⟩
def tb_Picture_count : List (Nat × Option (List Nat) × Instr × List Nat) := [(0, none, .iload_n 1, []), (1, none, .tableswitch 167 0 12 #[67, 72, 77, 82, 87, 95, 103, 111, 119, 127, 143, 151, 159], [168, 68, 73, 78, 83, 88, 96, 104, 112, 120, 128, 144, 152, 160]), (68, none, .aload_n 0, []), (69, none, .getfield 63, []), (72, none, .ireturn, []), (73, none, .aload_n 0, []), (74, none, .getfield 67, []), (77, none, .ireturn, []), (78, none, .aload_n 0, []), (79, none, .getfield 70, []), (82, none, .ireturn, []), (83, none, .aload_n 0, []), (84, none, .getfield 73, []), (87, none, .ireturn, []), (88, none, .aload_n 0, []), (89, none, .getfield 35, []), (92, none, .invokevirtual 197, []), (95, none, .ireturn, []), (96, none, .aload_n 0, []), (97, none, .getfield 35, []), (100, none, .invokevirtual 198, []), (103, none, .ireturn, []), (104, none, .aload_n 0, []), (105, none, .getfield 12, []), (108, none, .invokevirtual 201, []), (111, none, .ireturn, []), (112, none, .aload_n 0, []), (113, none, .getfield 21, []), (116, none, .invokevirtual 202, []), (119, none, .ireturn, []), (120, none, .aload_n 0, []), (121, none, .getfield 28, []), (124, none, .invokevirtual 203, []), (127, none, .ireturn, []), (128, none, .aload_n 0, []), (129, none, .getfield 21, []), (132, none, .invokevirtual 204, []), (135, none, .aload_n 0, []), (136, none, .getfield 28, []), (139, none, .invokevirtual 207, []), (142, none, .iadd, []), (143, none, .ireturn, []), (144, none, .aload_n 0, []), (145, none, .getfield 21, []), (148, none, .invokevirtual 208, []), (151, none, .ireturn, []), (152, none, .aload_n 0, []), (153, none, .getfield 52, []), (156, none, .invokevirtual 211, []), (159, none, .ireturn, []), (160, none, .aload_n 0, []), (161, none, .getfield 52, []), (164, none, .invokevirtual 212, []), (167, none, .ireturn, []), (168, none, .iconst (-1), []), (169, none, .ireturn, [])]
def P_Picture_count : Nat → Option (List Nat) × Instr × List Nat := plk tb_Picture_count
theorem r_Picture_count_0 : P_Picture_count 0 = (none, .iload_n 1, []) := by decide +kernel
theorem r_Picture_count_1 : P_Picture_count 1 = (none, .tableswitch 167 0 12 #[67, 72, 77, 82, 87, 95, 103, 111, 119, 127, 143, 151, 159], [168, 68, 73, 78, 83, 88, 96, 104, 112, 120, 128, 144, 152, 160]) := by decide +kernel
theorem r_Picture_count_68 : P_Picture_count 68 = (none, .aload_n 0, []) := by decide +kernel
theorem r_Picture_count_69 : P_Picture_count 69 = (none, .getfield 63, []) := by decide +kernel
theorem r_Picture_count_72 : P_Picture_count 72 = (none, .ireturn, []) := by decide +kernel
theorem r_Picture_count_73 : P_Picture_count 73 = (none, .aload_n 0, []) := by decide +kernel
theorem r_Picture_count_74 : P_Picture_count 74 = (none, .getfield 67, []) := by decide +kernel
theorem r_Picture_count_77 : P_Picture_count 77 = (none, .ireturn, []) := by decide +kernel
theorem r_Picture_count_78 : P_Picture_count 78 = (none, .aload_n 0, []) := by decide +kernel
theorem r_Picture_count_79 : P_Picture_count 79 = (none, .getfield 70, []) := by decide +kernel
theorem r_Picture_count_82 : P_Picture_count 82 = (none, .ireturn, []) := by decide +kernel
theorem r_Picture_count_83 : P_Picture_count 83 = (none, .aload_n 0, []) := by decide +kernel
theorem r_Picture_count_84 : P_Picture_count 84 = (none, .getfield 73, []) := by decide +kernel
theorem r_Picture_count_87 : P_Picture_count 87 = (none, .ireturn, []) := by decide +kernel
theorem r_Picture_count_88 : P_Picture_count 88 = (none, .aload_n 0, []) := by decide +kernel
theorem r_Picture_count_89 : P_Picture_count 89 = (none, .getfield 35, []) := by decide +kernel
theorem r_Picture_count_92 : P_Picture_count 92 = (none, .invokevirtual 197, []) := by decide +kernel
theorem r_Picture_count_95 : P_Picture_count 95 = (none, .ireturn, []) := by decide +kernel
theorem r_Picture_count_96 : P_Picture_count 96 = (none, .aload_n 0, []) := by decide +kernel
theorem r_Picture_count_97 : P_Picture_count 97 = (none, .getfield 35, []) := by decide +kernel
theorem r_Picture_count_100 : P_Picture_count 100 = (none, .invokevirtual 198, []) := by decide +kernel
theorem r_Picture_count_103 : P_Picture_count 103 = (none, .ireturn, []) := by decide +kernel
theorem r_Picture_count_104 : P_Picture_count 104 = (none, .aload_n 0, []) := by decide +kernel
theorem r_Picture_count_105 : P_Picture_count 105 = (none, .getfield 12, []) := by decide +kernel
theorem r_Picture_count_108 : P_Picture_count 108 = (none, .invokevirtual 201, []) := by decide +kernel
theorem r_Picture_count_111 : P_Picture_count 111 = (none, .ireturn, []) := by decide +kernel
theorem r_Picture_count_112 : P_Picture_count 112 = (none, .aload_n 0, []) := by decide +kernel
theorem r_Picture_count_113 : P_Picture_count 113 = (none, .getfield 21, []) := by decide +kernel
theorem r_Picture_count_116 : P_Picture_count 116 = (none, .invokevirtual 202, []) := by decide +kernel
theorem r_Picture_count_119 : P_Picture_count 119 = (none, .ireturn, []) := by decide +kernel
theorem r_Picture_count_120 : P_Picture_count 120 = (none, .aload_n 0, []) := by decide +kernel
theorem r_Picture_count_121 : P_Picture_count 121 = (none, .getfield 28, []) := by decide +kernel
theorem r_Picture_count_124 : P_Picture_count 124 = (none, .invokevirtual 203, []) := by decide +kernel
theorem r_Picture_count_127 : P_Picture_count 127 = (none, .ireturn, []) := by decide +kernel
theorem r_Picture_count_128 : P_Picture_count 128 = (none, .aload_n 0, []) := by decide +kernel
theorem r_Picture_count_129 : P_Picture_count 129 = (none, .getfield 21, []) := by decide +kernel
theorem r_Picture_count_132 : P_Picture_count 132 = (none, .invokevirtual 204, []) := by decide +kernel
theorem r_Picture_count_135 : P_Picture_count 135 = (none, .aload_n 0, []) := by decide +kernel
theorem r_Picture_count_136 : P_Picture_count 136 = (none, .getfield 28, []) := by decide +kernel
theorem r_Picture_count_139 : P_Picture_count 139 = (none, .invokevirtual 207, []) := by decide +kernel
theorem r_Picture_count_142 : P_Picture_count 142 = (none, .iadd, []) := by decide +kernel
theorem r_Picture_count_143 : P_Picture_count 143 = (none, .ireturn, []) := by decide +kernel
theorem r_Picture_count_144 : P_Picture_count 144 = (none, .aload_n 0, []) := by decide +kernel
theorem r_Picture_count_145 : P_Picture_count 145 = (none, .getfield 21, []) := by decide +kernel
theorem r_Picture_count_148 : P_Picture_count 148 = (none, .invokevirtual 208, []) := by decide +kernel
theorem r_Picture_count_151 : P_Picture_count 151 = (none, .ireturn, []) := by decide +kernel
theorem r_Picture_count_152 : P_Picture_count 152 = (none, .aload_n 0, []) := by decide +kernel
theorem r_Picture_count_153 : P_Picture_count 153 = (none, .getfield 52, []) := by decide +kernel
theorem r_Picture_count_156 : P_Picture_count 156 = (none, .invokevirtual 211, []) := by decide +kernel
theorem r_Picture_count_159 : P_Picture_count 159 = (none, .ireturn, []) := by decide +kernel
theorem r_Picture_count_160 : P_Picture_count 160 = (none, .aload_n 0, []) := by decide +kernel
theorem r_Picture_count_161 : P_Picture_count 161 = (none, .getfield 52, []) := by decide +kernel
theorem r_Picture_count_164 : P_Picture_count 164 = (none, .invokevirtual 212, []) := by decide +kernel
theorem r_Picture_count_167 : P_Picture_count 167 = (none, .ireturn, []) := by decide +kernel
theorem r_Picture_count_168 : P_Picture_count 168 = (none, .iconst (-1), []) := by decide +kernel
theorem r_Picture_count_169 : P_Picture_count 169 = (none, .ireturn, []) := by decide +kernel
def E_Picture_count : List (Nat × Ent) := [(788, (1, 0, 0, 0, T_Holes_size)), (792, (1, 0, 0, 0, T_Holes_allBytes)), (804, (1, 0, 0, 0, T_Kinds_size)), (808, (1, 0, 0, 0, T_Things_size)), (812, (1, 0, 0, 0, T_Roots_size)), (816, (1, 0, 0, 0, T_Things_unknownRefs)), (828, (1, 0, 0, 0, T_Roots_unknownRefs)), (832, (1, 0, 0, 0, T_Things_allSizes)), (844, (1, 0, 0, 0, T_Life_size)), (848, (1, 0, 0, 0, T_Life_allSizes))]
def X_Picture_count : Cx := (llk (0, 0, 9) ftX3, llk 99 ntX3, llk none kcX3, llk none klX3, llk dEnt E_Picture_count, 1, 0, false)
theorem xok_Picture_count : Xok RX3 X_Picture_count := xok_of ftX3_ok ntX3_ok kcX3_ok klX3_ok (E := E_Picture_count) (List.forall_mem_cons.mpr ⟨co_X3_788, List.forall_mem_cons.mpr ⟨co_X3_792, List.forall_mem_cons.mpr ⟨co_X3_804, List.forall_mem_cons.mpr ⟨co_X3_808, List.forall_mem_cons.mpr ⟨co_X3_812, List.forall_mem_cons.mpr ⟨co_X3_816, List.forall_mem_cons.mpr ⟨co_X3_828, List.forall_mem_cons.mpr ⟨co_X3_832, List.forall_mem_cons.mpr ⟨co_X3_844, List.forall_mem_cons.mpr ⟨co_X3_848, fun _ h => absurd h List.not_mem_nil⟩⟩⟩⟩⟩⟩⟩⟩⟩⟩)
theorem xf_Picture_count_12 : xfl X_Picture_count 12 = (3, 0, 1) := by decide +kernel
theorem xf_Picture_count_21 : xfl X_Picture_count 21 = (3, 1, 1) := by decide +kernel
theorem xf_Picture_count_28 : xfl X_Picture_count 28 = (3, 2, 1) := by decide +kernel
theorem xf_Picture_count_35 : xfl X_Picture_count 35 = (3, 3, 1) := by decide +kernel
theorem xf_Picture_count_52 : xfl X_Picture_count 52 = (3, 6, 1) := by decide +kernel
theorem xf_Picture_count_63 : xfl X_Picture_count 63 = (3, 8, 0) := by decide +kernel
theorem xf_Picture_count_67 : xfl X_Picture_count 67 = (3, 9, 0) := by decide +kernel
theorem xf_Picture_count_70 : xfl X_Picture_count 70 = (3, 10, 0) := by decide +kernel
theorem xf_Picture_count_73 : xfl X_Picture_count 73 = (3, 11, 0) := by decide +kernel
theorem xe_Picture_count_788 : xE X_Picture_count (4 * 197 + 0) = (1, 0, 0, 0, T_Holes_size) := rfl
theorem xe_Picture_count_792 : xE X_Picture_count (4 * 198 + 0) = (1, 0, 0, 0, T_Holes_allBytes) := rfl
theorem xe_Picture_count_804 : xE X_Picture_count (4 * 201 + 0) = (1, 0, 0, 0, T_Kinds_size) := rfl
theorem xe_Picture_count_808 : xE X_Picture_count (4 * 202 + 0) = (1, 0, 0, 0, T_Things_size) := rfl
theorem xe_Picture_count_812 : xE X_Picture_count (4 * 203 + 0) = (1, 0, 0, 0, T_Roots_size) := rfl
theorem xe_Picture_count_816 : xE X_Picture_count (4 * 204 + 0) = (1, 0, 0, 0, T_Things_unknownRefs) := rfl
theorem xe_Picture_count_828 : xE X_Picture_count (4 * 207 + 0) = (1, 0, 0, 0, T_Roots_unknownRefs) := rfl
theorem xe_Picture_count_832 : xE X_Picture_count (4 * 208 + 0) = (1, 0, 0, 0, T_Things_allSizes) := rfl
theorem xe_Picture_count_844 : xE X_Picture_count (4 * 211 + 0) = (1, 0, 0, 0, T_Life_size) := rfl
theorem xe_Picture_count_848 : xE X_Picture_count (4 * 212 + 0) = (1, 0, 0, 0, T_Life_allSizes) := rfl
theorem xd_Picture_count : xd X_Picture_count = 1 := rfl
theorem xrb_Picture_count : xrb X_Picture_count = 0 := rfl
theorem xin_Picture_count : xin X_Picture_count = false := rfl
set_option maxHeartbeats 4000000 in
set_option maxRecDepth 100000 in
theorem S_Picture_count : Snd yX3_count cX3_count 2 (some .int) T_Picture_count 1 0 0 := by
  refine snd_of (X := X_Picture_count) (P := P_Picture_count) (tb := tb_Picture_count) (own := RX3) (by decide) rfl rfl (by decide +kernel) xok_Picture_count rfl rk0 (fun h => by first | rfl | cases h) ?_
  intro as M k has hM hT0
  obtain ⟨sz, sl, lay, ρ, σ, τ⟩ := M
  obtain ⟨o, as1, e, hlo, hT1⟩ := mkT_r hT0
  clear hT0
  subst e
  obtain ⟨w, as2, e, hT2⟩ := pI_x hT1
  clear hT1
  subst e
  obtain ⟨e, hT⟩ := hT2
  subst e
  replace hlo : lay o = (13, 0) := hlo
  have r_w : -2147483648 ≤ w ∧ w ≤ 2147483647 := has (vI w) (by simp)
  clear has
  replace hM : ∀ a i, -2147483648 ≤ σ a i ∧ σ a i ≤ 2147483647 := hM
  replace hT : TF_Picture_count o w sz sl lay ρ σ τ k := hT
  unfold TF_Picture_count at hT
  obtain ⟨hPc, hn, hs, h9, c0, c1, c2, c3, c4, c5, c6, c7, c8, c9, c10, c11, c12, c13⟩ := hT
  obtain ⟨hP, hKd, hTh, hRt, hHo, hWy, hSy, hLf, hTw⟩ := (show LPic lay ρ o from hPc)
  refine ⟨Nat.le_of_ble_eq_true rfl, fun _ _ _ => False, fun _ _ _ => 0, 64, ?_, fun _ _ _ _ _ _ h => h.elim⟩
  obtain ⟨ph, pp0, pp1, pp2, pp3, pp4, pp5, pp6, pp7, pq0, pq1, pq2, pq3, pq4, pq5, pq6, pq7⟩ := (show LPicture lay ρ _ from hP)
  obtain ⟨lh, lp0, lp1, lp2, lp3, lp4, lp5, lp6, lp7, lp8, lp9, lp10, lp11, lq0, lq1, lq2, lq3, lq4, lq5, lq6, lq7, lq8, lq9, lq10, lq11⟩ := (show LThings lay ρ _ from hTh)
  obtain ⟨rh, rp0, rp1, rq0, rq1⟩ := (show LRoots lay ρ _ from hRt)
  obtain ⟨hh, hp0, hp1, hq0, hq1⟩ := (show LHoles lay ρ _ from hHo)
  obtain ⟨kh, kp0, kp1, kp2, kp3, kp4, kp5, kq0, kq1, kq2, kq3, kq4, kq5⟩ := (show LKinds lay ρ _ from hKd)
  obtain ⟨fh, fp0, fp1, fp2, fp3, fq0, fq1, fq2, fq3⟩ := (show LLife lay ρ _ from hLf)
  unfold wps
  simp only [si_iload_n0, si_iload_n1, si_iload_n2, si_iload_n3, si_iload, si_lload_n0, si_lload_n1, si_lload_n2, si_lload_n3, si_lload, si_aload_n0, si_aload_n1, si_aload_n2, si_aload_n3, si_aload, si_istore_n0, si_istore_n1, si_istore_n2, si_istore_n3, si_istore, si_astore_n0, si_astore_n1, si_astore_n2, si_astore_n3, si_astore, si_lstore_n0, si_lstore_n1, si_lstore_n2, si_lstore_n3, si_lstore, si_iconst, si_bipush, si_sipush, si_ldc, si_ldc2_w, si_lconst0, si_lconst1, si_aconst_null, si_iinc, si_dup, si_dup2, si_iadd, si_isub, si_imul, si_idiv, si_irem, si_iand, si_ior, si_ishl, si_ishr, si_ladd, si_lmul, si_lor, si_lxor, si_lshl, si_lushr, si_lcmp, si_i2b, si_i2l, si_l2i, si_icmp_eq, si_icmp_ne, si_icmp_lt, si_icmp_ge, si_icmp_gt, si_icmp_le, si_if_eq, si_if_ne, si_if_lt, si_if_ge, si_if_gt, si_if_le, si_ifnull, si_ifnonnull, si_goto, si_tableswitch, si_lookupswitch, si_getfield, si_putfield, si_getstatic, si_iaload, si_baload, si_laload, si_aaload, si_iastore, si_bastore, si_lastore, si_aastore, si_arraylength, si_new, si_newarray, si_anewarray, si_invokevirtual, si_invokespecial, si_invokestatic, si_ireturn, si_lreturn, si_areturn, si_return_, pI_e, pL_e, pR_e, pA_r, pA_n, pN_n, pN_r, oI_e, oL_e, oA_r, oA_n, lget_e, lrm1_0, lrm2_0, lrm1_i, lrm1_r, lrm1_n, lrm1_l, lrm2_i, lrm2_r, lrm2_n, lrm2_l, popN_0, popN_s, acat_i, acat_l, acat_r, acat_n, stw_0, stw_s, psh_s, psh_n, wgf_r, wgf_i, wgf_b, wgf_n, wgf_m, wpf_i, wpf_r, wpf_b, wnew_e, callE_e, rbk_0, rbk_1, tsw_0, tsw_s, lsw_0, lsw_s, wp_s, wq_t, wq_f, oV_e, pick_0, pick_s, oZ_e, oY_e, r_Picture_count_0, r_Picture_count_1, r_Picture_count_68, r_Picture_count_69, r_Picture_count_72, r_Picture_count_73, r_Picture_count_74, r_Picture_count_77, r_Picture_count_78, r_Picture_count_79, r_Picture_count_82, r_Picture_count_83, r_Picture_count_84, r_Picture_count_87, r_Picture_count_88, r_Picture_count_89, r_Picture_count_92, r_Picture_count_95, r_Picture_count_96, r_Picture_count_97, r_Picture_count_100, r_Picture_count_103, r_Picture_count_104, r_Picture_count_105, r_Picture_count_108, r_Picture_count_111, r_Picture_count_112, r_Picture_count_113, r_Picture_count_116, r_Picture_count_119, r_Picture_count_120, r_Picture_count_121, r_Picture_count_124, r_Picture_count_127, r_Picture_count_128, r_Picture_count_129, r_Picture_count_132, r_Picture_count_135, r_Picture_count_136, r_Picture_count_139, r_Picture_count_142, r_Picture_count_143, r_Picture_count_144, r_Picture_count_145, r_Picture_count_148, r_Picture_count_151, r_Picture_count_152, r_Picture_count_153, r_Picture_count_156, r_Picture_count_159, r_Picture_count_160, r_Picture_count_161, r_Picture_count_164, r_Picture_count_167, r_Picture_count_168, r_Picture_count_169, xf_Picture_count_12, xf_Picture_count_21, xf_Picture_count_28, xf_Picture_count_35, xf_Picture_count_52, xf_Picture_count_63, xf_Picture_count_67, xf_Picture_count_70, xf_Picture_count_73, xe_Picture_count_788, xe_Picture_count_792, xe_Picture_count_804, xe_Picture_count_808, xe_Picture_count_812, xe_Picture_count_816, xe_Picture_count_828, xe_Picture_count_832, xe_Picture_count_844, xe_Picture_count_848, xd_Picture_count, xrb_Picture_count, xin_Picture_count, T_Holes_size_e, TF_Holes_size, T_Holes_allBytes_e, TF_Holes_allBytes, T_Kinds_size_e, TF_Kinds_size, T_Things_size_e, TF_Things_size, T_Roots_size_e, TF_Roots_size, T_Things_unknownRefs_e, TF_Things_unknownRefs, T_Roots_unknownRefs_e, TF_Roots_unknownRefs, T_Things_allSizes_e, TF_Things_allSizes, T_Life_size_e, TF_Life_size, T_Life_allSizes_e, TF_Life_allSizes, ph, pp0, pp1, pp2, pp3, pp4, pp5, pp6, pp7, pq0, pq1, pq2, pq3, pq4, pq5, pq6, pq7, lh, lp0, lp1, lp2, lp3, lp4, lp5, lp6, lp7, lp8, lp9, lp10, lp11, lq0, lq1, lq2, lq3, lq4, lq5, lq6, lq7, lq8, lq9, lq10, lq11, rh, rp0, rp1, rq0, rq1, hh, hp0, hp1, hq0, hq1, kh, kp0, kp1, kp2, kp3, kp4, kp5, kq0, kq1, kq2, kq3, kq4, kq5, fh, fp0, fp1, fp2, fp3, fq0, fq1, fq2, fq3, Nat.reduceAdd, Nat.reduceMul, Nat.reduceEqDiff, reduceIte, Int.reduceNeg, Int.reduceLE, Int.reduceLT, Int.reduceAdd, Int.reduceSub, Int.reduceToNat, true_and, and_true, inR_e, Nat.reduceLT, Nat.reduceLeDiff, reduceCtorEq, Nat.add_zero, Nat.zero_add, or_false, false_or, or_true, true_or, not_true_eq_false, not_false_eq_true, Classical.not_not, Nat.add_eq_zero_iff, and_false, false_and, Int.reduceEq, List.mem_cons, List.not_mem_nil, forall_eq_or_imp, forall_eq, false_implies, implies_true, forall_const, aargs_0, aargs_i, aargs_r, aargs_l, aargs_n, nfT_e, eq_self, and_self, Nat.le_refl, fu_s, fu_fu, iu_iu, iu_s, fu_am, fu_a0, fu_0a, iu_l, Nat.reduceBEq, Int.reduceBEq, T_objInit_e]
  clear pp0 pp1 pp2 pp3 pp4 pp5 pp6 pp7 lp0 lp1 lp2 lp3 lp4 lp5 lp6 lp7 lp8 lp9 lp10 lp11 rp0 rp1 hp0 hp1 kp0 kp1 kp2 kp3 kp4 kp5 fp0 fp1 fp2 fp3
  refine ⟨⟨c0, c1, c2, c3, c4, c5, c6, c7, c8, fun z => ⟨h9, c9 z⟩, fun z => ⟨hTh, hn, hs, c10 z⟩, c11, c12⟩, fun z => c13 (by omega)⟩
theorem co_X10_228 : CallOK RX10 (.invokevirtual 57) (2, 1, 0, 0, T_Picture_count) := call_V S_Picture_count (by decide) (ci := 3) rfl (by decide +kernel) (by decide +kernel) (by decide +kernel) (by decide +kernel) (by decide +kernel) (by decide +kernel) T_Picture_count_r
def TF_PR_about (o : Nat) (p : Int) (w : Int) (sz sl : Nat) (lay : Nat → Nat × Int) (ρ : Nat → Int → Nat) (σ : Nat → Int → Int) (τ : Nat → Int → Int64) (k : Option AV → Mm → Prop) : Prop := ∃ (U : Int → Int) (len : Int) (st : Nat → Int → Int), RdP lay ρ σ τ o p U len st ∧ (0 ≤ p ∧ p < 3 → (w = 0 → k (some (vI (len))) (sz, sl, lay, ρ, σ, τ)) ∧ (w = 1 → k (some (vI (st 0 1))) (sz, sl, lay, ρ, σ, τ)) ∧ (w = 2 → k (some (vI (st 0 2))) (sz, sl, lay, ρ, σ, τ)) ∧ (w = 3 → k (some (vI (st 0 3))) (sz, sl, lay, ρ, σ, τ)) ∧ (w = 4 → k (some (vI (st 0 4))) (sz, sl, lay, ρ, σ, τ)) ∧ (w = 5 → k (some (vI (st 0 5))) (sz, sl, lay, ρ, σ, τ)) ∧ (w = 6 → k (some (vI (st 0 6))) (sz, sl, lay, ρ, σ, τ)) ∧ (w = 7 → k (some (vI (st 0 7))) (sz, sl, lay, ρ, σ, τ)) ∧ (w = 8 → k (some (vI (st 0 9))) (sz, sl, lay, ρ, σ, τ)) ∧ (w = 9 → k (some (vI (unP U st + cntZ (fun i => decide (fn U st (st 3 i) = -1)) (st 0 9).toNat))) (sz, sl, lay, ρ, σ, τ)) ∧ (w = 10 → k (some (vI (sumZ (szP U st) (st 0 7).toNat))) (sz, sl, lay, ρ, σ, τ)) ∧ (w = 11 → k (some (vI (cntP (fun x => lvP U st x) (st 0 7).toNat))) (sz, sl, lay, ρ, σ, τ)) ∧ (w = 12 → k (some (vI (sumP (fun x => lvP U st x) (szP U st) (st 0 7).toNat))) (sz, sl, lay, ρ, σ, τ)) ∧ (¬ (0 ≤ w ∧ w ≤ 12) → k (some (vI (-1))) (sz, sl, lay, ρ, σ, τ))) ∧ (¬ (0 ≤ p ∧ p < 3) → k (some (vI (-1))) (sz, sl, lay, ρ, σ, τ))
def T_PR_about : Tr := mkT 10 fun o as M k => pI as fun p as => pI as fun w as => as = [] ∧ TF_PR_about o p w M.1 M.2.1 M.2.2.1 M.2.2.2.1 M.2.2.2.2.1 M.2.2.2.2.2 k
theorem T_PR_about_e {o : Nat} {p : Int} {w : Int} {sz sl : Nat} {lay : Nat → Nat × Int} {ρ : Nat → Int → Nat} {σ : Nat → Int → Int} {τ : Nat → Int → Int64} {k : Option AV → Mm → Prop} : T_PR_about [vR o, vI p, vI w] (sz, sl, lay, ρ, σ, τ) k = (lay o = (20, 0) ∧ TF_PR_about o p w sz sl lay ρ σ τ k) := by simp [T_PR_about, mkT_e, pI_e, pR_e, pL_e]
theorem T_PR_about_r (as : List AV) (M : Mm) (k : Option AV → Mm → Prop) (h : T_PR_about as M k) : ∃ b As, as = vR b :: As ∧ M.2.2.1 b = (10 + 10, 0) := by
  obtain ⟨b, As, h1, h2, -⟩ := mkT_r h
  exact ⟨b, As, h1, h2⟩
def tb_PR_about : List (Nat × Option (List Nat) × Instr × List Nat) := [(0, none, .aload_n 0, []), (1, none, .iload_n 1, []), (2, none, .invokevirtual 45, []), (5, none, .astore_n 3, []), (6, none, .aload_n 3, []), (7, none, .ifnonnull 7, [14]), (10, none, .iconst (-1), []), (11, none, .goto 8, [19]), (14, none, .aload_n 3, []), (15, none, .iload_n 2, []), (16, none, .invokevirtual 57, []), (19, none, .ireturn, [])]
def P_PR_about : Nat → Option (List Nat) × Instr × List Nat := plk tb_PR_about
theorem r_PR_about_0 : P_PR_about 0 = (none, .aload_n 0, []) := by decide +kernel
theorem r_PR_about_1 : P_PR_about 1 = (none, .iload_n 1, []) := by decide +kernel
theorem r_PR_about_2 : P_PR_about 2 = (none, .invokevirtual 45, []) := by decide +kernel
theorem r_PR_about_5 : P_PR_about 5 = (none, .astore_n 3, []) := by decide +kernel
theorem r_PR_about_6 : P_PR_about 6 = (none, .aload_n 3, []) := by decide +kernel
theorem r_PR_about_7 : P_PR_about 7 = (none, .ifnonnull 7, [14]) := by decide +kernel
theorem r_PR_about_10 : P_PR_about 10 = (none, .iconst (-1), []) := by decide +kernel
theorem r_PR_about_11 : P_PR_about 11 = (none, .goto 8, [19]) := by decide +kernel
theorem r_PR_about_14 : P_PR_about 14 = (none, .aload_n 3, []) := by decide +kernel
theorem r_PR_about_15 : P_PR_about 15 = (none, .iload_n 2, []) := by decide +kernel
theorem r_PR_about_16 : P_PR_about 16 = (none, .invokevirtual 57, []) := by decide +kernel
theorem r_PR_about_19 : P_PR_about 19 = (none, .ireturn, []) := by decide +kernel
def E_PR_about : List (Nat × Ent) := [(180, (2, 0, 0, 0, T_PR_pictureAt)), (228, (2, 1, 0, 0, T_Picture_count))]
def X_PR_about : Cx := (llk (0, 0, 9) ftX10, llk 99 ntX10, llk none kcX10, llk none klX10, llk dEnt E_PR_about, 2, 0, false)
theorem xok_PR_about : Xok RX10 X_PR_about := xok_of ftX10_ok ntX10_ok kcX10_ok klX10_ok (E := E_PR_about) (List.forall_mem_cons.mpr ⟨co_X10_180, List.forall_mem_cons.mpr ⟨co_X10_228, fun _ h => absurd h List.not_mem_nil⟩⟩)
theorem xe_PR_about_180 : xE X_PR_about (4 * 45 + 0) = (2, 0, 0, 0, T_PR_pictureAt) := rfl
theorem xe_PR_about_228 : xE X_PR_about (4 * 57 + 0) = (2, 1, 0, 0, T_Picture_count) := rfl
theorem xd_PR_about : xd X_PR_about = 2 := rfl
theorem xrb_PR_about : xrb X_PR_about = 0 := rfl
theorem xin_PR_about : xin X_PR_about = false := rfl
set_option maxHeartbeats 4000000 in
set_option maxRecDepth 100000 in
theorem S_PR_about : Snd yX10_about cX10_about 4 (some .int) T_PR_about 2 0 0 := by
  refine snd_of (X := X_PR_about) (P := P_PR_about) (tb := tb_PR_about) (own := RX10) (by decide) rfl rfl (by decide +kernel) xok_PR_about rfl rk0 (fun h => by first | rfl | cases h) ?_
  intro as M k has hM hT0
  obtain ⟨sz, sl, lay, ρ, σ, τ⟩ := M
  obtain ⟨o, as1, e, hlo, hT1⟩ := mkT_r hT0
  clear hT0
  subst e
  obtain ⟨p, as2, e, hT2⟩ := pI_x hT1
  clear hT1
  subst e
  obtain ⟨w, as3, e, hT3⟩ := pI_x hT2
  clear hT2
  subst e
  obtain ⟨e, hT⟩ := hT3
  subst e
  replace hlo : lay o = (20, 0) := hlo
  have r_p : -2147483648 ≤ p ∧ p ≤ 2147483647 := has (vI p) (by simp)
  have r_w : -2147483648 ≤ w ∧ w ≤ 2147483647 := has (vI w) (by simp)
  clear has
  replace hM : ∀ a i, -2147483648 ≤ σ a i ∧ σ a i ≤ 2147483647 := hM
  replace hT : TF_PR_about o p w sz sl lay ρ σ τ k := hT
  unfold TF_PR_about at hT
  obtain ⟨U, len, st, hRP, h1, h0⟩ := hT
  obtain ⟨hR, hPR⟩ := (show RdP lay ρ σ τ o p U len st from hRP)
  have r0 : lay o = (20, 0) := hR.1
  refine ⟨Nat.le_of_ble_eq_true rfl, fun _ _ _ => False, fun _ _ _ => 0, 20, ?_, fun _ _ _ _ _ _ h => h.elim⟩
  by_cases hp : 0 ≤ p ∧ p < 3
  · have hpE : (0 ≤ p ∧ p < 3) = True := eq_true hp
    replace h1 := h1 hp
    obtain ⟨P, eP, -, hPc, hP0⟩ := hR.pic hp
    have hPe : o + 6 + 44 * p.toNat = P := eP.symm
    obtain ⟨hS, hV⟩ := hPR hp
    rw [hPe] at hV
    obtain ⟨hP, hKd, hTh, hRt, hHo, hWy, hSy, hLf, hTw⟩ := (show LPic lay ρ P from hPc)
    obtain ⟨w0, w1, w2, w3, w4, w5, w6, w7, w8, w9, w10, w11, w12, w13, w14⟩ := (show SW U len st from hS)
    obtain ⟨⟨v1, v2, v3, v4, v5⟩, v6, v7, v8, v9⟩ := (show PR σ τ P U len st from hV)
    have n12 := v3.1
    (obtain ⟨ph, pp0, pp1, pp2, pp3, pp4, pp5, pp6, pp7, pq0, pq1, pq2, pq3, pq4, pq5, pq6, pq7⟩ := (show LPicture lay ρ _ from hP); unfold wps; simp only [hpE, hPe, si_iload_n0, si_iload_n1, si_iload_n2, si_iload_n3, si_iload, si_lload_n0, si_lload_n1, si_lload_n2, si_lload_n3, si_lload, si_aload_n0, si_aload_n1, si_aload_n2, si_aload_n3, si_aload, si_istore_n0, si_istore_n1, si_istore_n2, si_istore_n3, si_istore, si_astore_n0, si_astore_n1, si_astore_n2, si_astore_n3, si_astore, si_lstore_n0, si_lstore_n1, si_lstore_n2, si_lstore_n3, si_lstore, si_iconst, si_bipush, si_sipush, si_ldc, si_ldc2_w, si_lconst0, si_lconst1, si_aconst_null, si_iinc, si_dup, si_dup2, si_iadd, si_isub, si_imul, si_idiv, si_irem, si_iand, si_ior, si_ishl, si_ishr, si_ladd, si_lmul, si_lor, si_lxor, si_lshl, si_lushr, si_lcmp, si_i2b, si_i2l, si_l2i, si_icmp_eq, si_icmp_ne, si_icmp_lt, si_icmp_ge, si_icmp_gt, si_icmp_le, si_if_eq, si_if_ne, si_if_lt, si_if_ge, si_if_gt, si_if_le, si_ifnull, si_ifnonnull, si_goto, si_tableswitch, si_lookupswitch, si_getfield, si_putfield, si_getstatic, si_iaload, si_baload, si_laload, si_aaload, si_iastore, si_bastore, si_lastore, si_aastore, si_arraylength, si_new, si_newarray, si_anewarray, si_invokevirtual, si_invokespecial, si_invokestatic, si_ireturn, si_lreturn, si_areturn, si_return_, pI_e, pL_e, pR_e, pA_r, pA_n, pN_n, pN_r, oI_e, oL_e, oA_r, oA_n, lget_e, lrm1_0, lrm2_0, lrm1_i, lrm1_r, lrm1_n, lrm1_l, lrm2_i, lrm2_r, lrm2_n, lrm2_l, popN_0, popN_s, acat_i, acat_l, acat_r, acat_n, stw_0, stw_s, psh_s, psh_n, wgf_r, wgf_i, wgf_b, wgf_n, wgf_m, wpf_i, wpf_r, wpf_b, wnew_e, callE_e, rbk_0, rbk_1, tsw_0, tsw_s, lsw_0, lsw_s, wp_s, wq_t, wq_f, oV_e, pick_0, pick_s, oZ_e, oY_e, r_PR_about_0, r_PR_about_1, r_PR_about_2, r_PR_about_5, r_PR_about_6, r_PR_about_7, r_PR_about_10, r_PR_about_11, r_PR_about_14, r_PR_about_15, r_PR_about_16, r_PR_about_19, xe_PR_about_180, xe_PR_about_228, xd_PR_about, xrb_PR_about, xin_PR_about, T_PR_pictureAt_e, TF_PR_pictureAt, T_Picture_count_e, TF_Picture_count, r0, ph, pp0, pp1, pp2, pp3, pp4, pp5, pp6, pp7, pq0, pq1, pq2, pq3, pq4, pq5, pq6, pq7, Nat.reduceAdd, Nat.reduceMul, Nat.reduceEqDiff, reduceIte, Int.reduceNeg, Int.reduceLE, Int.reduceLT, Int.reduceAdd, Int.reduceSub, Int.reduceToNat, true_and, and_true, inR_e, Nat.reduceLT, Nat.reduceLeDiff, reduceCtorEq, Nat.add_zero, Nat.zero_add, or_false, false_or, or_true, true_or, not_true_eq_false, not_false_eq_true, Classical.not_not, Nat.add_eq_zero_iff, and_false, false_and, Int.reduceEq, List.mem_cons, List.not_mem_nil, forall_eq_or_imp, forall_eq, false_implies, implies_true, forall_const, aargs_0, aargs_i, aargs_r, aargs_l, aargs_n, nfT_e, eq_self, and_self, Nat.le_refl, fu_s, fu_fu, iu_iu, iu_s, fu_am, fu_a0, fu_0a, iu_l, Nat.reduceBEq, Int.reduceBEq, T_objInit_e]; clear pp0 pp1 pp2 pp3 pp4 pp5 pp6 pp7)
    obtain ⟨q1, q2, q3, q4, q5⟩ := hV.life w9
    obtain ⟨t1, t2⟩ := hV.rank w9
    have nvs : ∀ i, 0 ≤ i ∧ i < st 0 7 → 0 ≤ nV U (st 1) (st 2 i) := fun i hi => ((w13 i hi).2.1.nv w0).1
    have un := PR.unk v3 w9.1 nvs
    have szE : ∀ i, 0 ≤ i ∧ i < st 0 7 → σ (P + 8 + 5) i = szP U st i := fun i hi => (v3.2.2.2.2.2.1 i hi).1.2.2.2.2
    have szB : ∀ i, 0 ≤ i ∧ i < st 0 7 → 0 ≤ σ (P + 8 + 5) i ∧ σ (P + 8 + 5) i ≤ 100000 := by
      intro i hi
      rw [szE i hi]
      obtain ⟨s1, s2, s3, -⟩ := w13 i hi
      exact szv_R w0 s2 s1.1 s3 (by omega)
    have rt : σ (P + 21) 3 = cntZ (fun i => decide (fn U st (st 3 i) = -1)) (st 0 9).toNat := by
      rw [v4.2.2]
      refine cntZ_c _ (fun i hi => ?_)
      rw [v3.fx, (v4.2.1 i (by omega)).1]
    have b14 : 0 ≤ σ (P + 8) 14 ∧ σ (P + 8) 14 ≤ 4000 := by
      have u1 := v3.2.2.2.2.2.2.2.2
      have u2 := cntZ_R (fun j => decide (¬ σ (P + 8 + 11) j = 0 ∧ tgF σ (P + 8) j = -1)) (σ (P + 8 + 9) (st 0 7)).toNat
      have u3 := (v3.2.2.2.1 (st 0 7) (by omega)).2
      rw [u1]
      omega
    have b3 : 0 ≤ σ (P + 21) 3 ∧ σ (P + 21) 3 ≤ 100 := by
      have u2 := cntZ_R (fun i => decide (fn U st (st 3 i) = -1)) (st 0 9).toNat
      rw [rt]
      omega
    obtain ⟨k0, k1, k2, k3⟩ := v1
    have b9 : -2147483648 ≤ σ (P + 8) 14 + σ (P + 21) 3 ∧ σ (P + 8) 14 + σ (P + 21) 3 ≤ 2147483647 := by omega
    rw [k0, k1, k2, k3, v5.1, v5.2.1, v2.2, n12, v4.1, t1, q5, sumZ_c (f := σ (P + 8 + 5)) (g := szP U st) _ (fun i hi => szE i (by omega))]
    rw [rt, un] at b9
    rw [rt, un]
    exact ⟨hR, hPc, w9, szB, b9, h1⟩
  · have hpE : (0 ≤ p ∧ p < 3) = False := eq_false hp
    (unfold wps; simp only [hpE, si_iload_n0, si_iload_n1, si_iload_n2, si_iload_n3, si_iload, si_lload_n0, si_lload_n1, si_lload_n2, si_lload_n3, si_lload, si_aload_n0, si_aload_n1, si_aload_n2, si_aload_n3, si_aload, si_istore_n0, si_istore_n1, si_istore_n2, si_istore_n3, si_istore, si_astore_n0, si_astore_n1, si_astore_n2, si_astore_n3, si_astore, si_lstore_n0, si_lstore_n1, si_lstore_n2, si_lstore_n3, si_lstore, si_iconst, si_bipush, si_sipush, si_ldc, si_ldc2_w, si_lconst0, si_lconst1, si_aconst_null, si_iinc, si_dup, si_dup2, si_iadd, si_isub, si_imul, si_idiv, si_irem, si_iand, si_ior, si_ishl, si_ishr, si_ladd, si_lmul, si_lor, si_lxor, si_lshl, si_lushr, si_lcmp, si_i2b, si_i2l, si_l2i, si_icmp_eq, si_icmp_ne, si_icmp_lt, si_icmp_ge, si_icmp_gt, si_icmp_le, si_if_eq, si_if_ne, si_if_lt, si_if_ge, si_if_gt, si_if_le, si_ifnull, si_ifnonnull, si_goto, si_tableswitch, si_lookupswitch, si_getfield, si_putfield, si_getstatic, si_iaload, si_baload, si_laload, si_aaload, si_iastore, si_bastore, si_lastore, si_aastore, si_arraylength, si_new, si_newarray, si_anewarray, si_invokevirtual, si_invokespecial, si_invokestatic, si_ireturn, si_lreturn, si_areturn, si_return_, pI_e, pL_e, pR_e, pA_r, pA_n, pN_n, pN_r, oI_e, oL_e, oA_r, oA_n, lget_e, lrm1_0, lrm2_0, lrm1_i, lrm1_r, lrm1_n, lrm1_l, lrm2_i, lrm2_r, lrm2_n, lrm2_l, popN_0, popN_s, acat_i, acat_l, acat_r, acat_n, stw_0, stw_s, psh_s, psh_n, wgf_r, wgf_i, wgf_b, wgf_n, wgf_m, wpf_i, wpf_r, wpf_b, wnew_e, callE_e, rbk_0, rbk_1, tsw_0, tsw_s, lsw_0, lsw_s, wp_s, wq_t, wq_f, oV_e, pick_0, pick_s, oZ_e, oY_e, r_PR_about_0, r_PR_about_1, r_PR_about_2, r_PR_about_5, r_PR_about_6, r_PR_about_7, r_PR_about_10, r_PR_about_11, r_PR_about_14, r_PR_about_15, r_PR_about_16, r_PR_about_19, xe_PR_about_180, xe_PR_about_228, xd_PR_about, xrb_PR_about, xin_PR_about, T_PR_pictureAt_e, TF_PR_pictureAt, T_Picture_count_e, TF_Picture_count, r0, Nat.reduceAdd, Nat.reduceMul, Nat.reduceEqDiff, reduceIte, Int.reduceNeg, Int.reduceLE, Int.reduceLT, Int.reduceAdd, Int.reduceSub, Int.reduceToNat, true_and, and_true, inR_e, Nat.reduceLT, Nat.reduceLeDiff, reduceCtorEq, Nat.add_zero, Nat.zero_add, or_false, false_or, or_true, true_or, not_true_eq_false, not_false_eq_true, Classical.not_not, Nat.add_eq_zero_iff, and_false, false_and, Int.reduceEq, List.mem_cons, List.not_mem_nil, forall_eq_or_imp, forall_eq, false_implies, implies_true, forall_const, aargs_0, aargs_i, aargs_r, aargs_l, aargs_n, nfT_e, eq_self, and_self, Nat.le_refl, fu_s, fu_fu, iu_iu, iu_s, fu_am, fu_a0, fu_0a, iu_l, Nat.reduceBEq, Int.reduceBEq, T_objInit_e])
    exact ⟨hR, h0 hp⟩

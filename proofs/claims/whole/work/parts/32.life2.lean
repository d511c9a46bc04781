theorem fu_g1 {α : Type} {f : Nat → α} {o t a b : Nat} {v : α} (h : t + 4 ≤ o) (hb : b < 4) : fu f (o + a) v (t + b) = f (t + b) := fu_n (by omega)
theorem fu_g2 {α : Type} {f : Nat → α} {o t a : Nat} {v : α} (h : t + 4 ≤ o) : fu f (o + a) v t = f t := fu_n (by omega)
abbrev SpW (σ : Nat → Int → Int) (t w : Nat) (s : Int) (bp : Int → Int) : Prop := SpF (σ t 12) (σ (t + 1)) (gX σ t s) (σ (w + 1)) (σ (w + 2)) (σ (w + 3)) bp (σ w 3)
def PhK (dist K : Int → Int) : Int := sumZ (fun x => if dist x = 0 then 0 else dv dist (K x)) 600
theorem PhK_mv {dist K : Int → Int} {v s : Int} (hv : 0 ≤ v ∧ v < 600) (hd : ¬ dist v = 0) (h : dv dist s < dv dist (K v)) : PhK dist (iu K v s) < PhK dist K := by
  unfold PhK
  rw [sumZ_iu (g := fun x k => if dist x = 0 then 0 else dv dist k) hv.1, if_pos (by omega), if_neg hd, if_neg hd]
  omega
theorem PhK_R {n : Int} {num : Int → Int} {E : Int → Int → Prop} {line dist bef bp : Int → Int} {c : Int} (h : SpF n num E line dist bef bp c) (hn : 0 ≤ n ∧ n ≤ 600) {K : Int → Int} (hK : KI E line dist c K) : 0 ≤ PhK dist K ∧ PhK dist K ≤ 360000 := by
  have hcn := h.cn hn.1
  refine sumZ_R2 (c := 600) 600 (fun i hi => ?_)
  split
  · omega
  · rename_i g
    rcases h.hd i (by omega) with e | ⟨p, hp, e⟩
    · exact absurd e g
    · have := h.dvw (hK i ⟨p, hp, e⟩).1
      omega
/-- one pass: nothing moved, or nearer -/
def MKr (E : Int → Int → Prop) (line dist : Int → Int) (c : Int) (K K2 : Int → Int) (D : Int → Int → Prop) (m : Int) : Prop := (m = 0 ∧ K2 = K ∧ ∀ u v, Lv line c u → D u v → E u v → K2 v = -1 ∨ Ch K2 (K2 v) u) ∨ (m = 1 ∧ PhK dist K2 < PhK dist K)
theorem MKr.mono {E : Int → Int → Prop} {line dist : Int → Int} {c : Int} {K K2 : Int → Int} {D D2 : Int → Int → Prop} {m : Int} (h : MKr E line dist c K K2 D m) (g : ∀ u v, Lv line c u → D2 u v → E u v → D u v) : MKr E line dist c K K2 D2 m := by
  rcases h with h | h
  · exact Or.inl ⟨h.1, h.2.1, fun u v a b e => h.2.2 u v a (g u v a b e) e⟩
  · exact Or.inr h
theorem MKr.le {E : Int → Int → Prop} {line dist : Int → Int} {c : Int} {K K2 : Int → Int} {D : Int → Int → Prop} {m : Int} (h : MKr E line dist c K K2 D m) : PhK dist K2 ≤ PhK dist K := by
  rcases h with h | h
  · rw [h.2.1]; omega
  · omega
theorem MKr.add {E : Int → Int → Prop} {line dist : Int → Int} {c : Int} {K K2 : Int → Int} {D : Int → Int → Prop} {m x y : Int} (h : MKr E line dist c K K2 D m) (g : K2 y = -1 ∨ Ch K2 (K2 y) x) : MKr E line dist c K K2 (fun u v => D u v ∨ (u = x ∧ v = y)) m := by
  rcases h with h | h
  · refine Or.inl ⟨h.1, h.2.1, fun u v a b e => ?_⟩
    rcases b with b | b
    · exact h.2.2 u v a b e
    · rw [b.1, b.2]; exact g
  · exact Or.inr h
theorem MKr.R {E : Int → Int → Prop} {line dist : Int → Int} {c : Int} {K K2 : Int → Int} {D : Int → Int → Prop} {m : Int} (h : MKr E line dist c K K2 D m) : m = 0 ∨ m = 1 := by
  rcases h with h | h
  · exact Or.inl h.1
  · exact Or.inr h.1
theorem co_X2_220 : CallOK RX2 (.invokevirtual 55) (1, 0, 0, 0, T_Spread_size) := call_V S_Spread_size (by decide) (ci := 5) rfl (by decide +kernel) (by decide +kernel) (by decide +kernel) (by decide +kernel) (by decide +kernel) (by decide +kernel) T_Spread_size_r
theorem co_X2_236 : CallOK RX2 (.invokevirtual 59) (2, 0, 0, 0, T_Spread_idAt) := call_V S_Spread_idAt (by decide) (ci := 5) rfl (by decide +kernel) (by decide +kernel) (by decide +kernel) (by decide +kernel) (by decide +kernel) (by decide +kernel) T_Spread_idAt_r
theorem co_X2_248 : CallOK RX2 (.invokevirtual 62) (2, 1, 0, 0, T_Things_isSoft) := call_V S_Things_isSoft (by decide) (ci := 7) rfl (by decide +kernel) (by decide +kernel) (by decide +kernel) (by decide +kernel) (by decide +kernel) (by decide +kernel) T_Things_isSoft_r
theorem co_X2_264 : CallOK RX2 (.invokevirtual 66) (2, 1, 0, 0, T_Things_refCount) := call_V S_Things_refCount (by decide) (ci := 7) rfl (by decide +kernel) (by decide +kernel) (by decide +kernel) (by decide +kernel) (by decide +kernel) (by decide +kernel) T_Things_refCount_r
theorem co_X2_276 : CallOK RX2 (.invokevirtual 69) (3, 2, 0, 0, T_Things_targetOf) := call_V S_Things_targetOf (by decide) (ci := 7) rfl (by decide +kernel) (by decide +kernel) (by decide +kernel) (by decide +kernel) (by decide +kernel) (by decide +kernel) T_Things_targetOf_r
theorem co_X2_304 : CallOK RX2 (.invokevirtual 76) (4, 2, 0, 0, T_Life_lastShared) := call_V S_Life_lastShared (by decide) (ci := 2) rfl (by decide +kernel) (by decide +kernel) (by decide +kernel) (by decide +kernel) (by decide +kernel) (by decide +kernel) T_Life_lastShared_r
def TF_Life_moveKeepers (o : Nat) (t : Nat) (w : Nat) (sz sl : Nat) (lay : Nat → Nat × Int) (ρ : Nat → Int → Nat) (σ : Nat → Int → Int) (τ : Nat → Int → Int64) (k : Option AV → Mm → Prop) : Prop := LLife lay ρ o ∧ LSpread lay ρ w ∧ LThings lay ρ t ∧ (0 ≤ σ t 12 ∧ σ t 12 ≤ 600) ∧ (t + 13 ≤ w) ∧ (w + 4 ≤ o) ∧ ThG σ t ∧ ∃ bp, SpW σ t w 0 bp ∧ KI (gX σ t 0) (σ (w + 1)) (σ (w + 2)) (σ w 3) (σ (o + 1)) ∧ (∀ (K2 : Int → Int) (m : Int), KI (gX σ t 0) (σ (w + 1)) (σ (w + 2)) (σ w 3) K2 → MKr (gX σ t 0) (σ (w + 1)) (σ (w + 2)) (σ w 3) (σ (o + 1)) K2 (fun _ _ => True) m → k (some (vI (m))) (sz, sl, lay, ρ, fu σ (o + 1) K2, τ))
def T_Life_moveKeepers : Tr := mkT 2 fun o as M k => pR as fun t as => pR as fun w as => as = [] ∧ TF_Life_moveKeepers o t w M.1 M.2.1 M.2.2.1 M.2.2.2.1 M.2.2.2.2.1 M.2.2.2.2.2 k
theorem T_Life_moveKeepers_e {o : Nat} {t : Nat} {w : Nat} {sz sl : Nat} {lay : Nat → Nat × Int} {ρ : Nat → Int → Nat} {σ : Nat → Int → Int} {τ : Nat → Int → Int64} {k : Option AV → Mm → Prop} : T_Life_moveKeepers [vR o, vR t, vR w] (sz, sl, lay, ρ, σ, τ) k = (lay o = (12, 0) ∧ TF_Life_moveKeepers o t w sz sl lay ρ σ τ k) := by simp [T_Life_moveKeepers, mkT_e, pI_e, pR_e, pL_e]
theorem T_Life_moveKeepers_r (as : List AV) (M : Mm) (k : Option AV → Mm → Prop) (h : T_Life_moveKeepers as M k) : ∃ b As, as = vR b :: As ∧ M.2.2.1 b = (10 + 2, 0) := by
  obtain ⟨b, As, h1, h2, -⟩ := mkT_r h
  exact ⟨b, As, h1, h2⟩
def tb_Life_moveKeepers : List (Nat × Option (List Nat) × Instr × List Nat) := [(0, none, .iconst 0, []), (1, none, .istore_n 3, []), (2, none, .iconst 0, []), (3, none, .istore 4, []), (5, some [0, 1, 2, 3, 4], .iload 4, []), (7, none, .aload_n 2, []), (8, none, .invokevirtual 55, []), (11, none, .if_icmp .ge 111, [122]), (14, none, .aload_n 2, []), (15, none, .iload 4, []), (17, none, .invokevirtual 59, []), (20, none, .istore 5, []), (22, none, .aload_n 1, []), (23, none, .iload 5, []), (25, none, .invokevirtual 62, []), (28, none, .ifCond .eq 7, [35]), (31, none, .iconst 0, []), (32, none, .goto 9, [41]), (35, none, .aload_n 1, []), (36, none, .iload 5, []), (38, none, .invokevirtual 66, []), (41, none, .istore 6, []), (43, none, .iconst 0, []), (44, none, .istore 7, []), (46, some [0, 1, 2, 3, 4, 5, 6, 7], .iload 7, []), (48, none, .iload 6, []), (50, none, .if_icmp .ge 66, [116]), (53, none, .aload_n 1, []), (54, none, .iload 5, []), (56, none, .iload 7, []), (58, none, .invokevirtual 69, []), (61, none, .istore 8, []), (63, none, .aload_n 0, []), (64, none, .iload 8, []), (66, none, .invokevirtual 73, []), (69, none, .istore 9, []), (71, none, .iload 9, []), (73, none, .iconst (-1), []), (74, none, .if_icmp .ne 7, [81]), (77, none, .iconst (-1), []), (78, none, .goto 12, [90]), (81, none, .aload_n 0, []), (82, none, .aload_n 2, []), (83, none, .iload 9, []), (85, none, .iload 5, []), (87, none, .invokevirtual 76, []), (90, none, .istore 10, []), (92, none, .iload 10, []), (94, none, .iload 9, []), (96, none, .if_icmp .eq 14, [110]), (99, none, .aload_n 0, []), (100, none, .getfield 9, []), (103, none, .iload 8, []), (105, none, .iload 10, []), (107, none, .iastore, []), (108, none, .iconst 1, []), (109, none, .istore_n 3, []), (110, none, .iinc 7 1, []), (113, none, .goto (-67), [46]), (116, none, .iinc 4 1, []), (119, none, .goto (-114), [5]), (122, none, .iload_n 3, []), (123, none, .ireturn, [])]
def P_Life_moveKeepers : Nat → Option (List Nat) × Instr × List Nat := plk tb_Life_moveKeepers
theorem r_Life_moveKeepers_0 : P_Life_moveKeepers 0 = (none, .iconst 0, []) := by decide +kernel
theorem r_Life_moveKeepers_1 : P_Life_moveKeepers 1 = (none, .istore_n 3, []) := by decide +kernel
theorem r_Life_moveKeepers_2 : P_Life_moveKeepers 2 = (none, .iconst 0, []) := by decide +kernel
theorem r_Life_moveKeepers_3 : P_Life_moveKeepers 3 = (none, .istore 4, []) := by decide +kernel
theorem r_Life_moveKeepers_5 : P_Life_moveKeepers 5 = (some [0, 1, 2, 3, 4], .iload 4, []) := by decide +kernel
theorem r_Life_moveKeepers_7 : P_Life_moveKeepers 7 = (none, .aload_n 2, []) := by decide +kernel
theorem r_Life_moveKeepers_8 : P_Life_moveKeepers 8 = (none, .invokevirtual 55, []) := by decide +kernel
theorem r_Life_moveKeepers_11 : P_Life_moveKeepers 11 = (none, .if_icmp .ge 111, [122]) := by decide +kernel
theorem r_Life_moveKeepers_14 : P_Life_moveKeepers 14 = (none, .aload_n 2, []) := by decide +kernel
theorem r_Life_moveKeepers_15 : P_Life_moveKeepers 15 = (none, .iload 4, []) := by decide +kernel
theorem r_Life_moveKeepers_17 : P_Life_moveKeepers 17 = (none, .invokevirtual 59, []) := by decide +kernel
theorem r_Life_moveKeepers_20 : P_Life_moveKeepers 20 = (none, .istore 5, []) := by decide +kernel
theorem r_Life_moveKeepers_22 : P_Life_moveKeepers 22 = (none, .aload_n 1, []) := by decide +kernel
theorem r_Life_moveKeepers_23 : P_Life_moveKeepers 23 = (none, .iload 5, []) := by decide +kernel
theorem r_Life_moveKeepers_25 : P_Life_moveKeepers 25 = (none, .invokevirtual 62, []) := by decide +kernel
theorem r_Life_moveKeepers_28 : P_Life_moveKeepers 28 = (none, .ifCond .eq 7, [35]) := by decide +kernel
theorem r_Life_moveKeepers_31 : P_Life_moveKeepers 31 = (none, .iconst 0, []) := by decide +kernel
theorem r_Life_moveKeepers_32 : P_Life_moveKeepers 32 = (none, .goto 9, [41]) := by decide +kernel
theorem r_Life_moveKeepers_35 : P_Life_moveKeepers 35 = (none, .aload_n 1, []) := by decide +kernel
theorem r_Life_moveKeepers_36 : P_Life_moveKeepers 36 = (none, .iload 5, []) := by decide +kernel
theorem r_Life_moveKeepers_38 : P_Life_moveKeepers 38 = (none, .invokevirtual 66, []) := by decide +kernel
theorem r_Life_moveKeepers_41 : P_Life_moveKeepers 41 = (none, .istore 6, []) := by decide +kernel
theorem r_Life_moveKeepers_43 : P_Life_moveKeepers 43 = (none, .iconst 0, []) := by decide +kernel
theorem r_Life_moveKeepers_44 : P_Life_moveKeepers 44 = (none, .istore 7, []) := by decide +kernel
theorem r_Life_moveKeepers_46 : P_Life_moveKeepers 46 = (some [0, 1, 2, 3, 4, 5, 6, 7], .iload 7, []) := by decide +kernel
theorem r_Life_moveKeepers_48 : P_Life_moveKeepers 48 = (none, .iload 6, []) := by decide +kernel
theorem r_Life_moveKeepers_50 : P_Life_moveKeepers 50 = (none, .if_icmp .ge 66, [116]) := by decide +kernel
theorem r_Life_moveKeepers_53 : P_Life_moveKeepers 53 = (none, .aload_n 1, []) := by decide +kernel
theorem r_Life_moveKeepers_54 : P_Life_moveKeepers 54 = (none, .iload 5, []) := by decide +kernel
theorem r_Life_moveKeepers_56 : P_Life_moveKeepers 56 = (none, .iload 7, []) := by decide +kernel
theorem r_Life_moveKeepers_58 : P_Life_moveKeepers 58 = (none, .invokevirtual 69, []) := by decide +kernel
theorem r_Life_moveKeepers_61 : P_Life_moveKeepers 61 = (none, .istore 8, []) := by decide +kernel
theorem r_Life_moveKeepers_63 : P_Life_moveKeepers 63 = (none, .aload_n 0, []) := by decide +kernel
theorem r_Life_moveKeepers_64 : P_Life_moveKeepers 64 = (none, .iload 8, []) := by decide +kernel
theorem r_Life_moveKeepers_66 : P_Life_moveKeepers 66 = (none, .invokevirtual 73, []) := by decide +kernel
theorem r_Life_moveKeepers_69 : P_Life_moveKeepers 69 = (none, .istore 9, []) := by decide +kernel
theorem r_Life_moveKeepers_71 : P_Life_moveKeepers 71 = (none, .iload 9, []) := by decide +kernel
theorem r_Life_moveKeepers_73 : P_Life_moveKeepers 73 = (none, .iconst (-1), []) := by decide +kernel
theorem r_Life_moveKeepers_74 : P_Life_moveKeepers 74 = (none, .if_icmp .ne 7, [81]) := by decide +kernel
theorem r_Life_moveKeepers_77 : P_Life_moveKeepers 77 = (none, .iconst (-1), []) := by decide +kernel
theorem r_Life_moveKeepers_78 : P_Life_moveKeepers 78 = (none, .goto 12, [90]) := by decide +kernel
theorem r_Life_moveKeepers_81 : P_Life_moveKeepers 81 = (none, .aload_n 0, []) := by decide +kernel
theorem r_Life_moveKeepers_82 : P_Life_moveKeepers 82 = (none, .aload_n 2, []) := by decide +kernel
theorem r_Life_moveKeepers_83 : P_Life_moveKeepers 83 = (none, .iload 9, []) := by decide +kernel
theorem r_Life_moveKeepers_85 : P_Life_moveKeepers 85 = (none, .iload 5, []) := by decide +kernel
theorem r_Life_moveKeepers_87 : P_Life_moveKeepers 87 = (none, .invokevirtual 76, []) := by decide +kernel
theorem r_Life_moveKeepers_90 : P_Life_moveKeepers 90 = (none, .istore 10, []) := by decide +kernel
theorem r_Life_moveKeepers_92 : P_Life_moveKeepers 92 = (none, .iload 10, []) := by decide +kernel
theorem r_Life_moveKeepers_94 : P_Life_moveKeepers 94 = (none, .iload 9, []) := by decide +kernel
theorem r_Life_moveKeepers_96 : P_Life_moveKeepers 96 = (none, .if_icmp .eq 14, [110]) := by decide +kernel
theorem r_Life_moveKeepers_99 : P_Life_moveKeepers 99 = (none, .aload_n 0, []) := by decide +kernel
theorem r_Life_moveKeepers_100 : P_Life_moveKeepers 100 = (none, .getfield 9, []) := by decide +kernel
theorem r_Life_moveKeepers_103 : P_Life_moveKeepers 103 = (none, .iload 8, []) := by decide +kernel
theorem r_Life_moveKeepers_105 : P_Life_moveKeepers 105 = (none, .iload 10, []) := by decide +kernel
theorem r_Life_moveKeepers_107 : P_Life_moveKeepers 107 = (none, .iastore, []) := by decide +kernel
theorem r_Life_moveKeepers_108 : P_Life_moveKeepers 108 = (none, .iconst 1, []) := by decide +kernel
theorem r_Life_moveKeepers_109 : P_Life_moveKeepers 109 = (none, .istore_n 3, []) := by decide +kernel
theorem r_Life_moveKeepers_110 : P_Life_moveKeepers 110 = (none, .iinc 7 1, []) := by decide +kernel
theorem r_Life_moveKeepers_113 : P_Life_moveKeepers 113 = (none, .goto (-67), [46]) := by decide +kernel
theorem r_Life_moveKeepers_116 : P_Life_moveKeepers 116 = (none, .iinc 4 1, []) := by decide +kernel
theorem r_Life_moveKeepers_119 : P_Life_moveKeepers 119 = (none, .goto (-114), [5]) := by decide +kernel
theorem r_Life_moveKeepers_122 : P_Life_moveKeepers 122 = (none, .iload_n 3, []) := by decide +kernel
theorem r_Life_moveKeepers_123 : P_Life_moveKeepers 123 = (none, .ireturn, []) := by decide +kernel
def E_Life_moveKeepers : List (Nat × Ent) := [(220, (1, 0, 0, 0, T_Spread_size)), (236, (2, 0, 0, 0, T_Spread_idAt)), (248, (2, 1, 0, 0, T_Things_isSoft)), (264, (2, 1, 0, 0, T_Things_refCount)), (276, (3, 2, 0, 0, T_Things_targetOf)), (292, (2, 1, 0, 0, T_Life_keeperIdOf)), (304, (4, 2, 0, 0, T_Life_lastShared))]
def X_Life_moveKeepers : Cx := (llk (0, 0, 9) ftX2, llk 99 ntX2, llk none kcX2, llk none klX2, llk dEnt E_Life_moveKeepers, 3, 1, false)
theorem xok_Life_moveKeepers : Xok RX2 X_Life_moveKeepers := xok_of ftX2_ok ntX2_ok kcX2_ok klX2_ok (E := E_Life_moveKeepers) (List.forall_mem_cons.mpr ⟨co_X2_220, List.forall_mem_cons.mpr ⟨co_X2_236, List.forall_mem_cons.mpr ⟨co_X2_248, List.forall_mem_cons.mpr ⟨co_X2_264, List.forall_mem_cons.mpr ⟨co_X2_276, List.forall_mem_cons.mpr ⟨co_X2_292, List.forall_mem_cons.mpr ⟨co_X2_304, fun _ h => absurd h List.not_mem_nil⟩⟩⟩⟩⟩⟩⟩)
theorem xf_Life_moveKeepers_9 : xfl X_Life_moveKeepers 9 = (2, 0, 1) := by decide +kernel
theorem xe_Life_moveKeepers_220 : xE X_Life_moveKeepers (4 * 55 + 0) = (1, 0, 0, 0, T_Spread_size) := rfl
theorem xe_Life_moveKeepers_236 : xE X_Life_moveKeepers (4 * 59 + 0) = (2, 0, 0, 0, T_Spread_idAt) := rfl
theorem xe_Life_moveKeepers_248 : xE X_Life_moveKeepers (4 * 62 + 0) = (2, 1, 0, 0, T_Things_isSoft) := rfl
theorem xe_Life_moveKeepers_264 : xE X_Life_moveKeepers (4 * 66 + 0) = (2, 1, 0, 0, T_Things_refCount) := rfl
theorem xe_Life_moveKeepers_276 : xE X_Life_moveKeepers (4 * 69 + 0) = (3, 2, 0, 0, T_Things_targetOf) := rfl
theorem xe_Life_moveKeepers_292 : xE X_Life_moveKeepers (4 * 73 + 0) = (2, 1, 0, 0, T_Life_keeperIdOf) := rfl
theorem xe_Life_moveKeepers_304 : xE X_Life_moveKeepers (4 * 76 + 0) = (4, 2, 0, 0, T_Life_lastShared) := rfl
theorem xd_Life_moveKeepers : xd X_Life_moveKeepers = 3 := rfl
theorem xrb_Life_moveKeepers : xrb X_Life_moveKeepers = 1 := rfl
theorem xin_Life_moveKeepers : xin X_Life_moveKeepers = false := rfl
set_option maxHeartbeats 4000000 in
set_option maxRecDepth 100000 in
theorem S_Life_moveKeepers : Snd yX2_moveKeepers cX2_moveKeepers 11 (some .boolean) T_Life_moveKeepers 3 0 0 := by
  refine snd_of (X := X_Life_moveKeepers) (P := P_Life_moveKeepers) (tb := tb_Life_moveKeepers) (own := RX2) (by decide) rfl rfl (by decide +kernel) xok_Life_moveKeepers rfl rk1 (fun h => by first | rfl | cases h) ?_
  intro as M k has hM hT0
  obtain ⟨sz, sl, lay, ρ, σ, τ⟩ := M
  obtain ⟨o, as1, e, hlo, hT1⟩ := mkT_r hT0
  clear hT0
  subst e
  obtain ⟨t, as2, e, hT2⟩ := pR_x hT1
  clear hT1
  subst e
  obtain ⟨w, as3, e, hT3⟩ := pR_x hT2
  clear hT2
  subst e
  obtain ⟨e, hT⟩ := hT3
  subst e
  replace hlo : lay o = (12, 0) := hlo
  clear has
  replace hM : ∀ a i, -2147483648 ≤ σ a i ∧ σ a i ≤ 2147483647 := hM
  replace hT : TF_Life_moveKeepers o t w sz sl lay ρ σ τ k := hT
  unfold TF_Life_moveKeepers at hT
  obtain ⟨hF, hS, hL, hn, htw, hwo, hG, bp, hI, hK, hT⟩ := hT
  have hto : t + 13 ≤ o := by omega
  obtain ⟨J, hJd⟩ : ∃ J : Nat → List AV → Mm → Prop, J = (fun c vs M1 => (c = 5 ∧ ∃ (i : Int) (K2 : Int → Int) (m : Int), (0 ≤ i ∧ i ≤ σ w 3) ∧ KI (gX σ t 0) (σ (w + 1)) (σ (w + 2)) (σ w 3) K2 ∧ MKr (gX σ t 0) (σ (w + 1)) (σ (w + 2)) (σ w 3) (σ (o + 1)) K2 (fun u v => ∃ p, (0 ≤ p ∧ p < i) ∧ σ (w + 1) p = u) m ∧ vs = [vR o, vR t, vR w, vI m, vI i] ∧ M1 = (sz, sl, lay, ρ, fu σ (o + 1) K2, τ)) ∨ (c = 46 ∧ ∃ (i : Int) (K2 : Int → Int) (m R j : Int), (0 ≤ i ∧ i < σ w 3) ∧ (0 ≤ j ∧ j ≤ R ∧ R ≤ 4000) ∧ (σ (t + 2) (σ (w + 1) i) = 2 ∧ R = 0 ∨ ¬ σ (t + 2) (σ (w + 1) i) = 2 ∧ R = σ (t + 9) ((σ (w + 1) i) + 1) - σ (t + 9) ((σ (w + 1) i))) ∧ KI (gX σ t 0) (σ (w + 1)) (σ (w + 2)) (σ w 3) K2 ∧ MKr (gX σ t 0) (σ (w + 1)) (σ (w + 2)) (σ w 3) (σ (o + 1)) K2 (fun u v => (∃ p, (0 ≤ p ∧ p < i) ∧ σ (w + 1) p = u) ∨ (u = (σ (w + 1) i) ∧ ∃ k, (0 ≤ k ∧ k < j) ∧ σ (t + 12) (σ (t + 9) (σ (w + 1) i) + k) = v)) m ∧ vs = [vR o, vR t, vR w, vI m, vI i, vI (σ (w + 1) i), vI R, vI j] ∧ M1 = (sz, sl, lay, ρ, fu σ (o + 1) K2, τ))) := ⟨_, rfl⟩
  obtain ⟨μ, hμ⟩ : ∃ μ : Nat → List AV → Mm → Nat, μ = (fun c vs _ => if c = 5 then ((601 - gI (vs.getD 4 vN)) * 20000).toNat else ((601 - gI (vs.getD 4 vN)) * 20000 - 1 - gI (vs.getD 7 vN)).toNat) := ⟨_, rfl⟩
  refine ⟨Nat.le_of_ble_eq_true rfl, J, μ, 71, ?_, ?_⟩
  · obtain ⟨fh, fp0, fp1, fp2, fp3, fq0, fq1, fq2, fq3⟩ := (show LLife lay ρ _ from hF)
    obtain ⟨sh, sp0, sp1, sp2, sq0, sq1, sq2⟩ := (show LSpread lay ρ _ from hS)
    obtain ⟨lh, lp0, lp1, lp2, lp3, lp4, lp5, lp6, lp7, lp8, lp9, lp10, lp11, lq0, lq1, lq2, lq3, lq4, lq5, lq6, lq7, lq8, lq9, lq10, lq11⟩ := (show LThings lay ρ _ from hL)
    unfold wps
    simp only [si_iload_n0, si_iload_n1, si_iload_n2, si_iload_n3, si_iload, si_lload_n0, si_lload_n1, si_lload_n2, si_lload_n3, si_lload, si_aload_n0, si_aload_n1, si_aload_n2, si_aload_n3, si_aload, si_istore_n0, si_istore_n1, si_istore_n2, si_istore_n3, si_istore, si_astore_n0, si_astore_n1, si_astore_n2, si_astore_n3, si_astore, si_lstore_n0, si_lstore_n1, si_lstore_n2, si_lstore_n3, si_lstore, si_iconst, si_bipush, si_sipush, si_ldc, si_ldc2_w, si_lconst0, si_lconst1, si_aconst_null, si_iinc, si_dup, si_dup2, si_iadd, si_isub, si_imul, si_idiv, si_irem, si_iand, si_ior, si_ishl, si_ishr, si_ladd, si_lmul, si_lor, si_lxor, si_lshl, si_lushr, si_lcmp, si_i2b, si_i2l, si_l2i, si_icmp_eq, si_icmp_ne, si_icmp_lt, si_icmp_ge, si_icmp_gt, si_icmp_le, si_if_eq, si_if_ne, si_if_lt, si_if_ge, si_if_gt, si_if_le, si_ifnull, si_ifnonnull, si_goto, si_tableswitch, si_lookupswitch, si_getfield, si_putfield, si_getstatic, si_iaload, si_baload, si_laload, si_aaload, si_iastore, si_bastore, si_lastore, si_aastore, si_arraylength, si_new, si_newarray, si_anewarray, si_invokevirtual, si_invokespecial, si_invokestatic, si_ireturn, si_lreturn, si_areturn, si_return_, pI_e, pL_e, pR_e, pA_r, pA_n, pN_n, pN_r, oI_e, oL_e, oA_r, oA_n, lget_e, lrm1_0, lrm2_0, lrm1_i, lrm1_r, lrm1_n, lrm1_l, lrm2_i, lrm2_r, lrm2_n, lrm2_l, popN_0, popN_s, acat_i, acat_l, acat_r, acat_n, stw_0, stw_s, psh_s, psh_n, wgf_r, wgf_i, wgf_b, wgf_n, wgf_m, wpf_i, wpf_r, wpf_b, wnew_e, callE_e, rbk_0, rbk_1, tsw_0, tsw_s, lsw_0, lsw_s, wp_s, wq_t, wq_f, oV_e, pick_0, pick_s, oZ_e, oY_e, r_Life_moveKeepers_0, r_Life_moveKeepers_1, r_Life_moveKeepers_2, r_Life_moveKeepers_3, r_Life_moveKeepers_5, r_Life_moveKeepers_7, r_Life_moveKeepers_8, r_Life_moveKeepers_11, r_Life_moveKeepers_14, r_Life_moveKeepers_15, r_Life_moveKeepers_17, r_Life_moveKeepers_20, r_Life_moveKeepers_22, r_Life_moveKeepers_23, r_Life_moveKeepers_25, r_Life_moveKeepers_28, r_Life_moveKeepers_31, r_Life_moveKeepers_32, r_Life_moveKeepers_35, r_Life_moveKeepers_36, r_Life_moveKeepers_38, r_Life_moveKeepers_41, r_Life_moveKeepers_43, r_Life_moveKeepers_44, r_Life_moveKeepers_46, r_Life_moveKeepers_48, r_Life_moveKeepers_50, r_Life_moveKeepers_53, r_Life_moveKeepers_54, r_Life_moveKeepers_56, r_Life_moveKeepers_58, r_Life_moveKeepers_61, r_Life_moveKeepers_63, r_Life_moveKeepers_64, r_Life_moveKeepers_66, r_Life_moveKeepers_69, r_Life_moveKeepers_71, r_Life_moveKeepers_73, r_Life_moveKeepers_74, r_Life_moveKeepers_77, r_Life_moveKeepers_78, r_Life_moveKeepers_81, r_Life_moveKeepers_82, r_Life_moveKeepers_83, r_Life_moveKeepers_85, r_Life_moveKeepers_87, r_Life_moveKeepers_90, r_Life_moveKeepers_92, r_Life_moveKeepers_94, r_Life_moveKeepers_96, r_Life_moveKeepers_99, r_Life_moveKeepers_100, r_Life_moveKeepers_103, r_Life_moveKeepers_105, r_Life_moveKeepers_107, r_Life_moveKeepers_108, r_Life_moveKeepers_109, r_Life_moveKeepers_110, r_Life_moveKeepers_113, r_Life_moveKeepers_116, r_Life_moveKeepers_119, r_Life_moveKeepers_122, r_Life_moveKeepers_123, xf_Life_moveKeepers_9, xe_Life_moveKeepers_220, xe_Life_moveKeepers_236, xe_Life_moveKeepers_248, xe_Life_moveKeepers_264, xe_Life_moveKeepers_276, xe_Life_moveKeepers_292, xe_Life_moveKeepers_304, xd_Life_moveKeepers, xrb_Life_moveKeepers, xin_Life_moveKeepers, T_Spread_size_e, TF_Spread_size, T_Spread_idAt_e, TF_Spread_idAt, T_Things_isSoft_e, TF_Things_isSoft, T_Things_refCount_e, TF_Things_refCount, T_Things_targetOf_e, TF_Things_targetOf, T_Life_keeperIdOf_e, TF_Life_keeperIdOf, T_Life_lastShared_e, TF_Life_lastShared, fu_f1, fu_f2, fu_f3, fu_f4, hto, fu_g1, fu_g2, hwo, fh, fp0, fp1, fp2, fp3, fq0, fq1, fq2, fq3, sh, sp0, sp1, sp2, sq0, sq1, sq2, lh, lp0, lp1, lp2, lp3, lp4, lp5, lp6, lp7, lp8, lp9, lp10, lp11, lq0, lq1, lq2, lq3, lq4, lq5, lq6, lq7, lq8, lq9, lq10, lq11, Nat.reduceAdd, Nat.reduceMul, Nat.reduceEqDiff, reduceIte, Int.reduceNeg, Int.reduceLE, Int.reduceLT, Int.reduceAdd, Int.reduceSub, Int.reduceToNat, true_and, and_true, inR_e, Nat.reduceLT, Nat.reduceLeDiff, reduceCtorEq, Nat.add_zero, Nat.zero_add, or_false, false_or, or_true, true_or, not_true_eq_false, not_false_eq_true, Classical.not_not, Nat.add_eq_zero_iff, and_false, false_and, Int.reduceEq, List.mem_cons, List.not_mem_nil, forall_eq_or_imp, forall_eq, false_implies, implies_true, forall_const, aargs_0, aargs_i, aargs_r, aargs_l, aargs_n, nfT_e, eq_self, and_self, Nat.le_refl, fu_s, fu_fu, iu_iu, iu_s, fu_am, fu_a0, fu_0a, iu_l, Nat.reduceBEq, Int.reduceBEq, T_objInit_e]
    clear fp0 fp1 fp2 fp3 sp0 sp1 sp2 lp0 lp1 lp2 lp3 lp4 lp5 lp6 lp7 lp8 lp9 lp10 lp11
    rw [hJd]
    have hc := hI.ha
    exact Or.inl ⟨rfl, 0, σ (o + 1), 0, by omega, hK, Or.inl ⟨rfl, rfl, fun u v _ z => by obtain ⟨p, hp, -⟩ := z; omega⟩, rfl, by rw [fu_self]⟩
  · intro cp vs M1 hvs hM1 hlen hJ
    rw [hJd] at hJ
    have hc := hI.ha
    have hcn := hI.cn hn.1
    rcases hJ with ⟨rfl, i, K2, m, g1, g2, g3, rfl, rfl⟩ | ⟨rfl, i, K2, m, R, j, g1, g2, g3, g4, g5, rfl, rfl⟩
    · have hm := g3.R
      (obtain ⟨fh, fp0, fp1, fp2, fp3, fq0, fq1, fq2, fq3⟩ := (show LLife lay ρ _ from hF); obtain ⟨sh, sp0, sp1, sp2, sq0, sq1, sq2⟩ := (show LSpread lay ρ _ from hS); obtain ⟨lh, lp0, lp1, lp2, lp3, lp4, lp5, lp6, lp7, lp8, lp9, lp10, lp11, lq0, lq1, lq2, lq3, lq4, lq5, lq6, lq7, lq8, lq9, lq10, lq11⟩ := (show LThings lay ρ _ from hL); unfold wps; simp only [Option.getD_some, List.zip_cons_cons, List.zip_nil_left, List.zip_nil_right, List.zip_nil_right, si_iload_n0, si_iload_n1, si_iload_n2, si_iload_n3, si_iload, si_lload_n0, si_lload_n1, si_lload_n2, si_lload_n3, si_lload, si_aload_n0, si_aload_n1, si_aload_n2, si_aload_n3, si_aload, si_istore_n0, si_istore_n1, si_istore_n2, si_istore_n3, si_istore, si_astore_n0, si_astore_n1, si_astore_n2, si_astore_n3, si_astore, si_lstore_n0, si_lstore_n1, si_lstore_n2, si_lstore_n3, si_lstore, si_iconst, si_bipush, si_sipush, si_ldc, si_ldc2_w, si_lconst0, si_lconst1, si_aconst_null, si_iinc, si_dup, si_dup2, si_iadd, si_isub, si_imul, si_idiv, si_irem, si_iand, si_ior, si_ishl, si_ishr, si_ladd, si_lmul, si_lor, si_lxor, si_lshl, si_lushr, si_lcmp, si_i2b, si_i2l, si_l2i, si_icmp_eq, si_icmp_ne, si_icmp_lt, si_icmp_ge, si_icmp_gt, si_icmp_le, si_if_eq, si_if_ne, si_if_lt, si_if_ge, si_if_gt, si_if_le, si_ifnull, si_ifnonnull, si_goto, si_tableswitch, si_lookupswitch, si_getfield, si_putfield, si_getstatic, si_iaload, si_baload, si_laload, si_aaload, si_iastore, si_bastore, si_lastore, si_aastore, si_arraylength, si_new, si_newarray, si_anewarray, si_invokevirtual, si_invokespecial, si_invokestatic, si_ireturn, si_lreturn, si_areturn, si_return_, pI_e, pL_e, pR_e, pA_r, pA_n, pN_n, pN_r, oI_e, oL_e, oA_r, oA_n, lget_e, lrm1_0, lrm2_0, lrm1_i, lrm1_r, lrm1_n, lrm1_l, lrm2_i, lrm2_r, lrm2_n, lrm2_l, popN_0, popN_s, acat_i, acat_l, acat_r, acat_n, stw_0, stw_s, psh_s, psh_n, wgf_r, wgf_i, wgf_b, wgf_n, wgf_m, wpf_i, wpf_r, wpf_b, wnew_e, callE_e, rbk_0, rbk_1, tsw_0, tsw_s, lsw_0, lsw_s, wp_s, wq_t, wq_f, oV_e, pick_0, pick_s, oZ_e, oY_e, r_Life_moveKeepers_0, r_Life_moveKeepers_1, r_Life_moveKeepers_2, r_Life_moveKeepers_3, r_Life_moveKeepers_5, r_Life_moveKeepers_7, r_Life_moveKeepers_8, r_Life_moveKeepers_11, r_Life_moveKeepers_14, r_Life_moveKeepers_15, r_Life_moveKeepers_17, r_Life_moveKeepers_20, r_Life_moveKeepers_22, r_Life_moveKeepers_23, r_Life_moveKeepers_25, r_Life_moveKeepers_28, r_Life_moveKeepers_31, r_Life_moveKeepers_32, r_Life_moveKeepers_35, r_Life_moveKeepers_36, r_Life_moveKeepers_38, r_Life_moveKeepers_41, r_Life_moveKeepers_43, r_Life_moveKeepers_44, r_Life_moveKeepers_46, r_Life_moveKeepers_48, r_Life_moveKeepers_50, r_Life_moveKeepers_53, r_Life_moveKeepers_54, r_Life_moveKeepers_56, r_Life_moveKeepers_58, r_Life_moveKeepers_61, r_Life_moveKeepers_63, r_Life_moveKeepers_64, r_Life_moveKeepers_66, r_Life_moveKeepers_69, r_Life_moveKeepers_71, r_Life_moveKeepers_73, r_Life_moveKeepers_74, r_Life_moveKeepers_77, r_Life_moveKeepers_78, r_Life_moveKeepers_81, r_Life_moveKeepers_82, r_Life_moveKeepers_83, r_Life_moveKeepers_85, r_Life_moveKeepers_87, r_Life_moveKeepers_90, r_Life_moveKeepers_92, r_Life_moveKeepers_94, r_Life_moveKeepers_96, r_Life_moveKeepers_99, r_Life_moveKeepers_100, r_Life_moveKeepers_103, r_Life_moveKeepers_105, r_Life_moveKeepers_107, r_Life_moveKeepers_108, r_Life_moveKeepers_109, r_Life_moveKeepers_110, r_Life_moveKeepers_113, r_Life_moveKeepers_116, r_Life_moveKeepers_119, r_Life_moveKeepers_122, r_Life_moveKeepers_123, xf_Life_moveKeepers_9, xe_Life_moveKeepers_220, xe_Life_moveKeepers_236, xe_Life_moveKeepers_248, xe_Life_moveKeepers_264, xe_Life_moveKeepers_276, xe_Life_moveKeepers_292, xe_Life_moveKeepers_304, xd_Life_moveKeepers, xrb_Life_moveKeepers, xin_Life_moveKeepers, T_Spread_size_e, TF_Spread_size, T_Spread_idAt_e, TF_Spread_idAt, T_Things_isSoft_e, TF_Things_isSoft, T_Things_refCount_e, TF_Things_refCount, T_Things_targetOf_e, TF_Things_targetOf, T_Life_keeperIdOf_e, TF_Life_keeperIdOf, T_Life_lastShared_e, TF_Life_lastShared, fu_f1, fu_f2, fu_f3, fu_f4, hto, fu_g1, fu_g2, hwo, fh, fp0, fp1, fp2, fp3, fq0, fq1, fq2, fq3, sh, sp0, sp1, sp2, sq0, sq1, sq2, lh, lp0, lp1, lp2, lp3, lp4, lp5, lp6, lp7, lp8, lp9, lp10, lp11, lq0, lq1, lq2, lq3, lq4, lq5, lq6, lq7, lq8, lq9, lq10, lq11, Nat.reduceAdd, Nat.reduceMul, Nat.reduceEqDiff, reduceIte, Int.reduceNeg, Int.reduceLE, Int.reduceLT, Int.reduceAdd, Int.reduceSub, Int.reduceToNat, true_and, and_true, inR_e, Nat.reduceLT, Nat.reduceLeDiff, reduceCtorEq, Nat.add_zero, Nat.zero_add, or_false, false_or, or_true, true_or, not_true_eq_false, not_false_eq_true, Classical.not_not, Nat.add_eq_zero_iff, and_false, false_and, Int.reduceEq, List.mem_cons, List.not_mem_nil, forall_eq_or_imp, forall_eq, false_implies, implies_true, forall_const, aargs_0, aargs_i, aargs_r, aargs_l, aargs_n, nfT_e, eq_self, and_self, Nat.le_refl, fu_s, fu_fu, iu_iu, iu_s, fu_am, fu_a0, fu_0a, iu_l, Nat.reduceBEq, Int.reduceBEq, T_objInit_e]; clear fp0 fp1 fp2 fp3 sp0 sp1 sp2 lp0 lp1 lp2 lp3 lp4 lp5 lp6 lp7 lp8 lp9 lp10 lp11)
      refine ⟨fun h => ⟨hm, hT K2 m g2 (g3.mono (fun u v hu _ _ => ?_))⟩, fun h => ⟨hS, by omega, fun a => ?_, fun a => absurd a (by omega)⟩⟩
      · obtain ⟨p, hp, e⟩ := hu
        exact ⟨p, by omega, e⟩
      · have hx := (hI.hp i a).1
        have q1 := hG.1 (σ (w + 1) i) hx.1 (by omega)
        have q2 := hG.1 (σ (w + 1) i + 1) (by omega) (by omega)
        have q3 := hG.2.1 (σ (w + 1) i) hx
        have D := g3.mono (D2 := fun u v => (∃ p, (0 ≤ p ∧ p < i) ∧ σ (w + 1) p = u) ∨ (u = σ (w + 1) i ∧ ∃ k, (0 ≤ k ∧ k < (0 : Int)) ∧ σ (t + 12) (σ (t + 9) (σ (w + 1) i) + k) = v)) (fun u v _ z _ => by
          rcases z with z | ⟨-, k, hk, -⟩
          · exact z
          · omega)
        refine ⟨hL, hn, fun b => ?_, fun b => ⟨hL, hn, hG.1, fun _ => ?_, fun z => absurd hx z⟩⟩
        · refine ⟨?_, (by rw [hμ]; simp only [gI_e, List.getD_cons_succ, List.getD_cons_zero, Nat.reduceEqDiff, reduceIte]; omega)⟩
          rw [hJd]
          exact Or.inr ⟨rfl, i, K2, m, 0, 0, by omega, by omega, Or.inl ⟨b.2.2, rfl⟩, g2, D, rfl, rfl⟩
        · refine ⟨?_, (by rw [hμ]; simp only [gI_e, List.getD_cons_succ, List.getD_cons_zero, Nat.reduceEqDiff, reduceIte]; omega)⟩
          rw [hJd]
          exact Or.inr ⟨rfl, i, K2, m, _, 0, by omega, by omega, Or.inr ⟨fun z => b ⟨hx.1, hx.2, z⟩, rfl⟩, g2, D, rfl, rfl⟩
    · have hm := g5.R
      have hx := (hI.hp i g1).1
      (obtain ⟨fh, fp0, fp1, fp2, fp3, fq0, fq1, fq2, fq3⟩ := (show LLife lay ρ _ from hF); obtain ⟨sh, sp0, sp1, sp2, sq0, sq1, sq2⟩ := (show LSpread lay ρ _ from hS); obtain ⟨lh, lp0, lp1, lp2, lp3, lp4, lp5, lp6, lp7, lp8, lp9, lp10, lp11, lq0, lq1, lq2, lq3, lq4, lq5, lq6, lq7, lq8, lq9, lq10, lq11⟩ := (show LThings lay ρ _ from hL); unfold wps; simp only [Option.getD_some, List.zip_cons_cons, List.zip_nil_left, List.zip_nil_right, List.zip_nil_right, si_iload_n0, si_iload_n1, si_iload_n2, si_iload_n3, si_iload, si_lload_n0, si_lload_n1, si_lload_n2, si_lload_n3, si_lload, si_aload_n0, si_aload_n1, si_aload_n2, si_aload_n3, si_aload, si_istore_n0, si_istore_n1, si_istore_n2, si_istore_n3, si_istore, si_astore_n0, si_astore_n1, si_astore_n2, si_astore_n3, si_astore, si_lstore_n0, si_lstore_n1, si_lstore_n2, si_lstore_n3, si_lstore, si_iconst, si_bipush, si_sipush, si_ldc, si_ldc2_w, si_lconst0, si_lconst1, si_aconst_null, si_iinc, si_dup, si_dup2, si_iadd, si_isub, si_imul, si_idiv, si_irem, si_iand, si_ior, si_ishl, si_ishr, si_ladd, si_lmul, si_lor, si_lxor, si_lshl, si_lushr, si_lcmp, si_i2b, si_i2l, si_l2i, si_icmp_eq, si_icmp_ne, si_icmp_lt, si_icmp_ge, si_icmp_gt, si_icmp_le, si_if_eq, si_if_ne, si_if_lt, si_if_ge, si_if_gt, si_if_le, si_ifnull, si_ifnonnull, si_goto, si_tableswitch, si_lookupswitch, si_getfield, si_putfield, si_getstatic, si_iaload, si_baload, si_laload, si_aaload, si_iastore, si_bastore, si_lastore, si_aastore, si_arraylength, si_new, si_newarray, si_anewarray, si_invokevirtual, si_invokespecial, si_invokestatic, si_ireturn, si_lreturn, si_areturn, si_return_, pI_e, pL_e, pR_e, pA_r, pA_n, pN_n, pN_r, oI_e, oL_e, oA_r, oA_n, lget_e, lrm1_0, lrm2_0, lrm1_i, lrm1_r, lrm1_n, lrm1_l, lrm2_i, lrm2_r, lrm2_n, lrm2_l, popN_0, popN_s, acat_i, acat_l, acat_r, acat_n, stw_0, stw_s, psh_s, psh_n, wgf_r, wgf_i, wgf_b, wgf_n, wgf_m, wpf_i, wpf_r, wpf_b, wnew_e, callE_e, rbk_0, rbk_1, tsw_0, tsw_s, lsw_0, lsw_s, wp_s, wq_t, wq_f, oV_e, pick_0, pick_s, oZ_e, oY_e, r_Life_moveKeepers_0, r_Life_moveKeepers_1, r_Life_moveKeepers_2, r_Life_moveKeepers_3, r_Life_moveKeepers_5, r_Life_moveKeepers_7, r_Life_moveKeepers_8, r_Life_moveKeepers_11, r_Life_moveKeepers_14, r_Life_moveKeepers_15, r_Life_moveKeepers_17, r_Life_moveKeepers_20, r_Life_moveKeepers_22, r_Life_moveKeepers_23, r_Life_moveKeepers_25, r_Life_moveKeepers_28, r_Life_moveKeepers_31, r_Life_moveKeepers_32, r_Life_moveKeepers_35, r_Life_moveKeepers_36, r_Life_moveKeepers_38, r_Life_moveKeepers_41, r_Life_moveKeepers_43, r_Life_moveKeepers_44, r_Life_moveKeepers_46, r_Life_moveKeepers_48, r_Life_moveKeepers_50, r_Life_moveKeepers_53, r_Life_moveKeepers_54, r_Life_moveKeepers_56, r_Life_moveKeepers_58, r_Life_moveKeepers_61, r_Life_moveKeepers_63, r_Life_moveKeepers_64, r_Life_moveKeepers_66, r_Life_moveKeepers_69, r_Life_moveKeepers_71, r_Life_moveKeepers_73, r_Life_moveKeepers_74, r_Life_moveKeepers_77, r_Life_moveKeepers_78, r_Life_moveKeepers_81, r_Life_moveKeepers_82, r_Life_moveKeepers_83, r_Life_moveKeepers_85, r_Life_moveKeepers_87, r_Life_moveKeepers_90, r_Life_moveKeepers_92, r_Life_moveKeepers_94, r_Life_moveKeepers_96, r_Life_moveKeepers_99, r_Life_moveKeepers_100, r_Life_moveKeepers_103, r_Life_moveKeepers_105, r_Life_moveKeepers_107, r_Life_moveKeepers_108, r_Life_moveKeepers_109, r_Life_moveKeepers_110, r_Life_moveKeepers_113, r_Life_moveKeepers_116, r_Life_moveKeepers_119, r_Life_moveKeepers_122, r_Life_moveKeepers_123, xf_Life_moveKeepers_9, xe_Life_moveKeepers_220, xe_Life_moveKeepers_236, xe_Life_moveKeepers_248, xe_Life_moveKeepers_264, xe_Life_moveKeepers_276, xe_Life_moveKeepers_292, xe_Life_moveKeepers_304, xd_Life_moveKeepers, xrb_Life_moveKeepers, xin_Life_moveKeepers, T_Spread_size_e, TF_Spread_size, T_Spread_idAt_e, TF_Spread_idAt, T_Things_isSoft_e, TF_Things_isSoft, T_Things_refCount_e, TF_Things_refCount, T_Things_targetOf_e, TF_Things_targetOf, T_Life_keeperIdOf_e, TF_Life_keeperIdOf, T_Life_lastShared_e, TF_Life_lastShared, fu_f1, fu_f2, fu_f3, fu_f4, hto, fu_g1, fu_g2, hwo, fh, fp0, fp1, fp2, fp3, fq0, fq1, fq2, fq3, sh, sp0, sp1, sp2, sq0, sq1, sq2, lh, lp0, lp1, lp2, lp3, lp4, lp5, lp6, lp7, lp8, lp9, lp10, lp11, lq0, lq1, lq2, lq3, lq4, lq5, lq6, lq7, lq8, lq9, lq10, lq11, Nat.reduceAdd, Nat.reduceMul, Nat.reduceEqDiff, reduceIte, Int.reduceNeg, Int.reduceLE, Int.reduceLT, Int.reduceAdd, Int.reduceSub, Int.reduceToNat, true_and, and_true, inR_e, Nat.reduceLT, Nat.reduceLeDiff, reduceCtorEq, Nat.add_zero, Nat.zero_add, or_false, false_or, or_true, true_or, not_true_eq_false, not_false_eq_true, Classical.not_not, Nat.add_eq_zero_iff, and_false, false_and, Int.reduceEq, List.mem_cons, List.not_mem_nil, forall_eq_or_imp, forall_eq, false_implies, implies_true, forall_const, aargs_0, aargs_i, aargs_r, aargs_l, aargs_n, nfT_e, eq_self, and_self, Nat.le_refl, fu_s, fu_fu, iu_iu, iu_s, fu_am, fu_a0, fu_0a, iu_l, Nat.reduceBEq, Int.reduceBEq, T_objInit_e]; clear fp0 fp1 fp2 fp3 sp0 sp1 sp2 lp0 lp1 lp2 lp3 lp4 lp5 lp6 lp7 lp8 lp9 lp10 lp11)
      refine ⟨fun h => ⟨by omega, ?_, (by rw [hμ]; simp only [gI_e, List.getD_cons_succ, List.getD_cons_zero, Nat.reduceEqDiff, reduceIte]; omega)⟩, fun h => ?_⟩
      · rw [hJd]
        refine Or.inl ⟨rfl, i + 1, K2, m, by omega, g4, g5.mono (fun u v hu z e => ?_), rfl, rfl⟩
        obtain ⟨p, hp, ep⟩ := z
        by_cases w1 : p = i
        · subst w1
          right
          refine ⟨ep.symm, ?_⟩
          rcases e with e | e
          · omega
          · rw [← ep] at e
            obtain ⟨-, e0, e1, k, hk, ek⟩ := e
            rcases g3 with g3 | g3
            · rcases e1 with e1 | e1
              · exact absurd rfl e1
              · exact absurd g3.1 e1
            · exact ⟨k, by omega, ek⟩
        · exact Or.inl ⟨p, by omega, ep⟩
      · have g6 : ¬ σ (t + 2) (σ (w + 1) i) = 2 ∧ R = σ (t + 9) (σ (w + 1) i + 1) - σ (t + 9) (σ (w + 1) i) := by
          rcases g3 with g3 | g3
          · omega
          · exact g3
        have hv := hG.2.2 (σ (w + 1) i) j hx (by omega)
        refine ⟨hL, hn, hG.1, fun _ => ?_, fun z => absurd z (by omega)⟩
        obtain ⟨v, ev⟩ : ∃ v, σ (t + 12) (σ (t + 9) (σ (w + 1) i) + j) = v := ⟨_, rfl⟩
        rw [ev] at hv ⊢
        have stp : ∀ (K3 : Int → Int) (m3 : Int), KI (gX σ t 0) (σ (w + 1)) (σ (w + 2)) (σ w 3) K3 → MKr (gX σ t 0) (σ (w + 1)) (σ (w + 2)) (σ w 3) (σ (o + 1)) K3 (fun u v2 => ((∃ p, (0 ≤ p ∧ p < i) ∧ σ (w + 1) p = u) ∨ (u = σ (w + 1) i ∧ ∃ k, (0 ≤ k ∧ k < j) ∧ σ (t + 12) (σ (t + 9) (σ (w + 1) i) + k) = v2)) ∨ (u = σ (w + 1) i ∧ v2 = v)) m3 → J 46 [vR o, vR t, vR w, vI m3, vI i, vI (σ (w + 1) i), vI R, vI (j + 1)] (sz, sl, lay, ρ, fu σ (o + 1) K3, τ) := by
          intro K3 m3 w1 w2
          rw [hJd]
          refine Or.inr ⟨rfl, i, K3, m3, R, j + 1, g1, by omega, g3, w1, w2.mono (fun u v2 _ z _ => ?_), rfl, rfl⟩
          rcases z with z | ⟨z1, k, hk, z2⟩
          · exact Or.inl (Or.inl z)
          · by_cases ek : k = j
            · rw [ek, ev] at z2
              exact Or.inr ⟨z1, z2.symm⟩
            · exact Or.inl (Or.inr ⟨z1, k, by omega, z2⟩)
        refine ⟨hF, fun a => ⟨fun b => ?_, fun b => ⟨fun _ => ⟨by omega, stp K2 m g4 (g5.add (Or.inl b)), (by rw [hμ]; simp only [gI_e, List.getD_cons_succ, List.getD_cons_zero, Nat.reduceEqDiff, reduceIte]; omega)⟩, fun z => absurd b.symm z⟩⟩, fun a => ⟨by omega, stp K2 m g4 (g5.mono (fun u v2 _ z e => ?_)), (by rw [hμ]; simp only [gI_e, List.getD_cons_succ, List.getD_cons_zero, Nat.reduceEqDiff, reduceIte]; omega)⟩⟩
        · have hE : gX σ t 0 (σ (w + 1) i) v := Or.inr ⟨hx, a.1, Or.inr g6.1, j, by omega, ev⟩
          have hu : Lv (σ (w + 1)) (σ w 3) (σ (w + 1) i) := ⟨i, g1, rfl⟩
          have hvL := hI.go hu.w hE
          obtain ⟨k1, k2, -, -⟩ := g4 v hvL
          have d1 := hI.dvw hu.w
          have d2 := hI.dvw hvL.w
          rw [dv_p a.1] at d2
          refine ⟨hF, hS, σ t 12, σ (t + 1), gX σ t 0, bp, hI, hn, g4, k1, hu.w, by omega, fun s s1 s2 s3 => ⟨fun e => ⟨by omega, stp K2 m g4 (g5.add (Or.inr (by rw [← e]; exact s2))), (by rw [hμ]; simp only [gI_e, List.getD_cons_succ, List.getD_cons_zero, Nat.reduceEqDiff, reduceIte]; omega)⟩, fun e => ⟨by omega, by omega, by omega, stp _ 1 (KI.mv hI g4 hu hE s1 s3) (Or.inr ⟨rfl, ?_⟩), (by rw [hμ]; simp only [gI_e, List.getD_cons_succ, List.getD_cons_zero, Nat.reduceEqDiff, reduceIte]; omega)⟩⟩⟩
          have p1 := g5.le
          have p2 : PhK (σ (w + 2)) (iu K2 v s) < PhK (σ (w + 2)) K2 := PhK_mv a (by have := d2.2.2 a.1; omega) (by
            rcases (g4.ch hI s1 k1).2.1 with q | q
            · exact absurd q e
            · exact q)
          omega
        · rcases z with z | z
          · exact z
          · exfalso
            rw [z.2] at e
            rcases e with e | e
            · have := e.2.1; omega
            · have := e.2.1; omega

section
variable {E : Int → Int → Prop} {w N n : Int} {f : Int → Int}
/-- all that are nearer than n are known -/
def MsI (E : Int → Int → Prop) (w N n : Int) (f : Int → Int) (i : Int) : Prop := ∀ x, 0 ≤ x ∧ x < N → (f x = -1 ∧ ∀ k : Nat, (k : Int) < (if x < i then n + 1 else n) → ¬ wkN E w k x) ∨ ((0 ≤ f x ∧ f x < (if x < i then n + 1 else n) ∧ f x < N) ∧ farN E w (f x).toNat x)
theorem MsI.fin (h : MsI E w N n f 0) (hE : ∀ x v, E x v → 0 ≤ v ∧ v < N) (hn : 1 ≤ n) (no : ∀ x, 0 ≤ x ∧ x < N → ¬ f x = n - 1) : Far E w N f := by
  have key : ∀ (k : Nat) (x : Int), 0 ≤ x ∧ x < N → f x = -1 → ¬ wkN E w k x := by
    intro k
    induction k with
    | zero =>
      intro x hx hf
      rcases h x hx with z | z
      · exact z.2 0 (by rw [if_neg (by omega)]; omega)
      · omega
    | succ k ih =>
      intro x hx hf hk
      obtain ⟨z, ez, wz⟩ := hk
      have hz := hE x z ez
      rcases h z hz with y | ⟨y1, y2⟩
      · exact ih z hz y.1 wz
      · rw [if_neg (by omega)] at y1
        have nz := no z hz
        rcases h x hx with q | q
        · exact q.2 ((f z).toNat + 1) (by rw [if_neg (by omega)]; omega) ⟨z, ez, y2.1⟩
        · omega
  intro x hx
  rcases h x hx with z | z
  · exact Or.inl ⟨z.1, fun k => key k x hx z.1⟩
  · exact Or.inr ⟨⟨z.1.1, z.1.2.2⟩, z.2⟩
theorem MsI.start (hw : 0 ≤ w ∧ w < N) (h0 : f w = 0) (h1 : ∀ x, 0 ≤ x ∧ x < N → ¬ x = w → f x = -1) : MsI E w N 1 f 0 := by
  intro x hx
  rw [if_neg (by omega)]
  by_cases e : x = w
  · right
    rw [e, h0]
    exact ⟨by omega, rfl, fun j hj => by omega⟩
  · left
    refine ⟨h1 x hx e, fun k hk => ?_⟩
    have : k = 0 := by omega
    rw [this]
    exact e
theorem MsI.nx (h : MsI E w N n f N) : MsI E w N (n + 1) f 0 := by
  intro x hx
  have := h x hx
  rw [if_pos hx.2] at this
  rw [if_neg (by omega)]
  exact this
/-- one that is found at n -/
theorem MsI.hit {i b : Int} {num : Int → Int} (h : MsI E w N n f i) (hi : 0 ≤ i ∧ i < N) (hn : 1 ≤ n ∧ n < N) (hf : f i = -1) (hE : ∀ x v, E x v → 0 ≤ v ∧ v < N) (g : LdP E num f i (n - 1) b) (hb : 0 ≤ b) : MsI E w N n (iu f i n) (i + 1) := by
  intro x hx
  rcases g with g | ⟨_, g1, g2, _⟩
  · omega
  · have hbR := hE i b g1
    have fb : farN E w (n - 1).toNat b := by
      rcases h b hbR with z | z
      · omega
      · rw [g2] at z; exact z.2
    by_cases e : x = i
    · right
      rw [e, iu_s, if_pos (by omega)]
      refine ⟨by omega, ⟨?_, fun j hj => ?_⟩⟩
      · rw [show n.toNat = (n - 1).toNat + 1 by omega]
        exact ⟨b, g1, fb.1⟩
      · rcases h i hi with z | z
        · exact z.2 j (by rw [if_neg (by omega)]; omega)
        · omega
    · rw [iu_n e]
      have := h x hx
      by_cases e2 : x < i
      · rw [if_pos e2] at this
        rw [if_pos (by omega)]
        exact this
      · rw [if_neg e2] at this
        rw [if_neg (by omega)]
        exact this
theorem MsI.miss {i b : Int} {num : Int → Int} (h : MsI E w N n f i) (hi : 0 ≤ i ∧ i < N) (hn : 1 ≤ n) (hE : ∀ x v, E x v → 0 ≤ v ∧ v < N) (g : f i = -1 → LdP E num f i (n - 1) b ∧ b < 0) : MsI E w N n f (i + 1) := by
  intro x hx
  have hxx := h x hx
  by_cases e : x = i
  · rw [e] at hxx ⊢
    rw [if_neg (by omega)] at hxx
    rw [if_pos (by omega)]
    rcases hxx with z | z
    · left
      refine ⟨z.1, fun k hk hw => ?_⟩
      by_cases e2 : (k : Int) < n
      · exact z.2 k e2 hw
      · obtain ⟨g1, g2⟩ := g z.1
        rcases g1 with ⟨_, g1⟩ | g1
        · have hkn : k = (n - 1).toNat + 1 := by omega
          rw [hkn] at hw
          obtain ⟨y, ey, wy⟩ := hw
          have hy := hE i y ey
          rcases h y hy with q | q
          · exact q.2 (n - 1).toNat (by split <;> omega) wy
          · have q2 : ¬ (n - 1).toNat < (f y).toNat := fun a => q.2.2 _ a wy
            have q3 := g1 y ey
            refine z.2 ((f y).toNat + 1) (by omega) ⟨y, ey, q.2.1⟩
        · omega
    · exact Or.inr ⟨by omega, z.2⟩
  · by_cases e2 : x < i
    · rw [if_pos e2] at hxx
      rw [if_pos (by omega)]
      exact hxx
    · rw [if_neg e2] at hxx
      rw [if_neg (by omega)]
      exact hxx
end
theorem co_X11_768 : CallOK RX11 (.invokevirtual 192) (5, 7, 0, 0, T_Model_leads) := call_V S_Model_leads (by decide) (ci := 11) rfl (by decide +kernel) (by decide +kernel) (by decide +kernel) (by decide +kernel) (by decide +kernel) (by decide +kernel) T_Model_leads_r
def TF_Model_measure (o : Nat) (p : Int) (t : Int) (s : Int) (sz sl : Nat) (lay : Nat → Nat × Int) (ρ : Nat → Int → Nat) (σ : Nat → Int → Int) (τ : Nat → Int → Int64) (k : Option AV → Mm → Prop) : Prop := LModel lay ρ o ∧ ∃ (U : Int → Int) (len : Int) (st : Nat → Int → Int), SW U len st ∧ MR σ o p U len st ∧ (0 ≤ t ∧ t < st 0 7) ∧ (s = 0 ∨ s = 1) ∧ (∀ σ2 : Nat → Int → Int, QF σ σ2 o → Far (edg U st s) t (st 0 7) (σ2 (o + 21)) → k none (sz, sl, lay, ρ, σ2, τ))
def T_Model_measure : Tr := mkT 11 fun o as M k => pI as fun p as => pI as fun t as => pI as fun s as => as = [] ∧ TF_Model_measure o p t s M.1 M.2.1 M.2.2.1 M.2.2.2.1 M.2.2.2.2.1 M.2.2.2.2.2 k
theorem T_Model_measure_e {o : Nat} {p : Int} {t : Int} {s : Int} {sz sl : Nat} {lay : Nat → Nat × Int} {ρ : Nat → Int → Nat} {σ : Nat → Int → Int} {τ : Nat → Int → Int64} {k : Option AV → Mm → Prop} : T_Model_measure [vR o, vI p, vI t, vI s] (sz, sl, lay, ρ, σ, τ) k = (lay o = (21, 0) ∧ TF_Model_measure o p t s sz sl lay ρ σ τ k) := by simp [T_Model_measure, mkT_e, pI_e, pR_e, pL_e]
theorem T_Model_measure_r (as : List AV) (M : Mm) (k : Option AV → Mm → Prop) (h : T_Model_measure as M k) : ∃ b As, as = vR b :: As ∧ M.2.2.1 b = (10 + 11, 0) := by
  obtain ⟨b, As, h1, h2, -⟩ := mkT_r h
  exact ⟨b, As, h1, h2⟩
def tb_Model_measure : List (Nat × Option (List Nat) × Instr × List Nat) := [(0, none, .iconst 0, []), (1, none, .istore 4, []), (3, some [0, 1, 2, 3, 4], .iload 4, []), (5, none, .aload_n 0, []), (6, none, .getfield 50, []), (9, none, .iload_n 1, []), (10, none, .iaload, []), (11, none, .if_icmp .ge 17, [28]), (14, none, .aload_n 0, []), (15, none, .getfield 72, []), (18, none, .iload 4, []), (20, none, .iconst (-1), []), (21, none, .iastore, []), (22, none, .iinc 4 1, []), (25, none, .goto (-22), [3]), (28, none, .aload_n 0, []), (29, none, .getfield 72, []), (32, none, .iload_n 2, []), (33, none, .iconst 0, []), (34, none, .iastore, []), (35, none, .iconst 1, []), (36, none, .istore 4, []), (38, none, .iconst 1, []), (39, none, .istore 5, []), (41, some [0, 1, 2, 3, 4, 5], .iload 4, []), (43, none, .ifCond .eq 69, [112]), (46, none, .iconst 0, []), (47, none, .istore 4, []), (49, none, .iconst 0, []), (50, none, .istore 6, []), (52, some [0, 1, 2, 3, 4, 5, 6], .iload 6, []), (54, none, .aload_n 0, []), (55, none, .getfield 50, []), (58, none, .iload_n 1, []), (59, none, .iaload, []), (60, none, .if_icmp .ge 46, [106]), (63, none, .aload_n 0, []), (64, none, .getfield 72, []), (67, none, .iload 6, []), (69, none, .iaload, []), (70, none, .ifCond .ge 30, [100]), (73, none, .aload_n 0, []), (74, none, .iload_n 1, []), (75, none, .iload 6, []), (77, none, .iload 5, []), (79, none, .iconst 1, []), (80, none, .isub, []), (81, none, .iload_n 3, []), (82, none, .invokevirtual 192, []), (85, none, .ifCond .lt 15, [100]), (88, none, .aload_n 0, []), (89, none, .getfield 72, []), (92, none, .iload 6, []), (94, none, .iload 5, []), (96, none, .iastore, []), (97, none, .iconst 1, []), (98, none, .istore 4, []), (100, none, .iinc 6 1, []), (103, none, .goto (-51), [52]), (106, none, .iinc 5 1, []), (109, none, .goto (-68), [41]), (112, none, .return_, [])]
def P_Model_measure : Nat → Option (List Nat) × Instr × List Nat := plk tb_Model_measure
theorem r_Model_measure_0 : P_Model_measure 0 = (none, .iconst 0, []) := by decide +kernel
theorem r_Model_measure_1 : P_Model_measure 1 = (none, .istore 4, []) := by decide +kernel
theorem r_Model_measure_3 : P_Model_measure 3 = (some [0, 1, 2, 3, 4], .iload 4, []) := by decide +kernel
theorem r_Model_measure_5 : P_Model_measure 5 = (none, .aload_n 0, []) := by decide +kernel
theorem r_Model_measure_6 : P_Model_measure 6 = (none, .getfield 50, []) := by decide +kernel
theorem r_Model_measure_9 : P_Model_measure 9 = (none, .iload_n 1, []) := by decide +kernel
theorem r_Model_measure_10 : P_Model_measure 10 = (none, .iaload, []) := by decide +kernel
theorem r_Model_measure_11 : P_Model_measure 11 = (none, .if_icmp .ge 17, [28]) := by decide +kernel
theorem r_Model_measure_14 : P_Model_measure 14 = (none, .aload_n 0, []) := by decide +kernel
theorem r_Model_measure_15 : P_Model_measure 15 = (none, .getfield 72, []) := by decide +kernel
theorem r_Model_measure_18 : P_Model_measure 18 = (none, .iload 4, []) := by decide +kernel
theorem r_Model_measure_20 : P_Model_measure 20 = (none, .iconst (-1), []) := by decide +kernel
theorem r_Model_measure_21 : P_Model_measure 21 = (none, .iastore, []) := by decide +kernel
theorem r_Model_measure_22 : P_Model_measure 22 = (none, .iinc 4 1, []) := by decide +kernel
theorem r_Model_measure_25 : P_Model_measure 25 = (none, .goto (-22), [3]) := by decide +kernel
theorem r_Model_measure_28 : P_Model_measure 28 = (none, .aload_n 0, []) := by decide +kernel
theorem r_Model_measure_29 : P_Model_measure 29 = (none, .getfield 72, []) := by decide +kernel
theorem r_Model_measure_32 : P_Model_measure 32 = (none, .iload_n 2, []) := by decide +kernel
theorem r_Model_measure_33 : P_Model_measure 33 = (none, .iconst 0, []) := by decide +kernel
theorem r_Model_measure_34 : P_Model_measure 34 = (none, .iastore, []) := by decide +kernel
theorem r_Model_measure_35 : P_Model_measure 35 = (none, .iconst 1, []) := by decide +kernel
theorem r_Model_measure_36 : P_Model_measure 36 = (none, .istore 4, []) := by decide +kernel
theorem r_Model_measure_38 : P_Model_measure 38 = (none, .iconst 1, []) := by decide +kernel
theorem r_Model_measure_39 : P_Model_measure 39 = (none, .istore 5, []) := by decide +kernel
theorem r_Model_measure_41 : P_Model_measure 41 = (some [0, 1, 2, 3, 4, 5], .iload 4, []) := by decide +kernel
theorem r_Model_measure_43 : P_Model_measure 43 = (none, .ifCond .eq 69, [112]) := by decide +kernel
theorem r_Model_measure_46 : P_Model_measure 46 = (none, .iconst 0, []) := by decide +kernel
theorem r_Model_measure_47 : P_Model_measure 47 = (none, .istore 4, []) := by decide +kernel
theorem r_Model_measure_49 : P_Model_measure 49 = (none, .iconst 0, []) := by decide +kernel
theorem r_Model_measure_50 : P_Model_measure 50 = (none, .istore 6, []) := by decide +kernel
theorem r_Model_measure_52 : P_Model_measure 52 = (some [0, 1, 2, 3, 4, 5, 6], .iload 6, []) := by decide +kernel
theorem r_Model_measure_54 : P_Model_measure 54 = (none, .aload_n 0, []) := by decide +kernel
theorem r_Model_measure_55 : P_Model_measure 55 = (none, .getfield 50, []) := by decide +kernel
theorem r_Model_measure_58 : P_Model_measure 58 = (none, .iload_n 1, []) := by decide +kernel
theorem r_Model_measure_59 : P_Model_measure 59 = (none, .iaload, []) := by decide +kernel
theorem r_Model_measure_60 : P_Model_measure 60 = (none, .if_icmp .ge 46, [106]) := by decide +kernel
theorem r_Model_measure_63 : P_Model_measure 63 = (none, .aload_n 0, []) := by decide +kernel
theorem r_Model_measure_64 : P_Model_measure 64 = (none, .getfield 72, []) := by decide +kernel
theorem r_Model_measure_67 : P_Model_measure 67 = (none, .iload 6, []) := by decide +kernel
theorem r_Model_measure_69 : P_Model_measure 69 = (none, .iaload, []) := by decide +kernel
theorem r_Model_measure_70 : P_Model_measure 70 = (none, .ifCond .ge 30, [100]) := by decide +kernel
theorem r_Model_measure_73 : P_Model_measure 73 = (none, .aload_n 0, []) := by decide +kernel
theorem r_Model_measure_74 : P_Model_measure 74 = (none, .iload_n 1, []) := by decide +kernel
theorem r_Model_measure_75 : P_Model_measure 75 = (none, .iload 6, []) := by decide +kernel
theorem r_Model_measure_77 : P_Model_measure 77 = (none, .iload 5, []) := by decide +kernel
theorem r_Model_measure_79 : P_Model_measure 79 = (none, .iconst 1, []) := by decide +kernel
theorem r_Model_measure_80 : P_Model_measure 80 = (none, .isub, []) := by decide +kernel
theorem r_Model_measure_81 : P_Model_measure 81 = (none, .iload_n 3, []) := by decide +kernel
theorem r_Model_measure_82 : P_Model_measure 82 = (none, .invokevirtual 192, []) := by decide +kernel
theorem r_Model_measure_85 : P_Model_measure 85 = (none, .ifCond .lt 15, [100]) := by decide +kernel
theorem r_Model_measure_88 : P_Model_measure 88 = (none, .aload_n 0, []) := by decide +kernel
theorem r_Model_measure_89 : P_Model_measure 89 = (none, .getfield 72, []) := by decide +kernel
theorem r_Model_measure_92 : P_Model_measure 92 = (none, .iload 6, []) := by decide +kernel
theorem r_Model_measure_94 : P_Model_measure 94 = (none, .iload 5, []) := by decide +kernel
theorem r_Model_measure_96 : P_Model_measure 96 = (none, .iastore, []) := by decide +kernel
theorem r_Model_measure_97 : P_Model_measure 97 = (none, .iconst 1, []) := by decide +kernel
theorem r_Model_measure_98 : P_Model_measure 98 = (none, .istore 4, []) := by decide +kernel
theorem r_Model_measure_100 : P_Model_measure 100 = (none, .iinc 6 1, []) := by decide +kernel
theorem r_Model_measure_103 : P_Model_measure 103 = (none, .goto (-51), [52]) := by decide +kernel
theorem r_Model_measure_106 : P_Model_measure 106 = (none, .iinc 5 1, []) := by decide +kernel
theorem r_Model_measure_109 : P_Model_measure 109 = (none, .goto (-68), [41]) := by decide +kernel
theorem r_Model_measure_112 : P_Model_measure 112 = (none, .return_, []) := by decide +kernel
def E_Model_measure : List (Nat × Ent) := [(768, (5, 7, 0, 0, T_Model_leads))]
def X_Model_measure : Cx := (llk (0, 0, 9) ftX11, llk 99 ntX11, llk none kcX11, llk none klX11, llk dEnt E_Model_measure, 8, 3, false)
theorem xok_Model_measure : Xok RX11 X_Model_measure := xok_of ftX11_ok ntX11_ok kcX11_ok klX11_ok (E := E_Model_measure) (List.forall_mem_cons.mpr ⟨co_X11_768, fun _ h => absurd h List.not_mem_nil⟩)
theorem xf_Model_measure_50 : xfl X_Model_measure 50 = (11, 14, 1) := by decide +kernel
theorem xf_Model_measure_72 : xfl X_Model_measure 72 = (11, 21, 1) := by decide +kernel
theorem xe_Model_measure_768 : xE X_Model_measure (4 * 192 + 0) = (5, 7, 0, 0, T_Model_leads) := rfl
theorem xd_Model_measure : xd X_Model_measure = 8 := rfl
theorem xrb_Model_measure : xrb X_Model_measure = 3 := rfl
theorem xin_Model_measure : xin X_Model_measure = false := rfl
set_option maxHeartbeats 4000000 in
set_option maxRecDepth 100000 in
theorem S_Model_measure : Snd yX11_measure cX11_measure 7 none T_Model_measure 8 0 0 := by
  refine snd_of (X := X_Model_measure) (P := P_Model_measure) (tb := tb_Model_measure) (own := RX11) (by decide) rfl rfl (by decide +kernel) xok_Model_measure rfl rk3 (fun h => by first | rfl | cases h) ?_
  intro as M k has hM hT0
  obtain ⟨sz, sl, lay, ρ, σ, τ⟩ := M
  obtain ⟨o, as1, e, hlo, hT1⟩ := mkT_r hT0
  clear hT0
  subst e
  obtain ⟨p, as2, e, hT2⟩ := pI_x hT1
  clear hT1
  subst e
  obtain ⟨t, as3, e, hT3⟩ := pI_x hT2
  clear hT2
  subst e
  obtain ⟨s, as4, e, hT4⟩ := pI_x hT3
  clear hT3
  subst e
  obtain ⟨e, hT⟩ := hT4
  subst e
  replace hlo : lay o = (21, 0) := hlo
  have r_p : -2147483648 ≤ p ∧ p ≤ 2147483647 := has (vI p) (by simp)
  have r_t : -2147483648 ≤ t ∧ t ≤ 2147483647 := has (vI t) (by simp)
  have r_s : -2147483648 ≤ s ∧ s ≤ 2147483647 := has (vI s) (by simp)
  clear has
  replace hM : ∀ a i, -2147483648 ≤ σ a i ∧ σ a i ≤ 2147483647 := hM
  replace hT : TF_Model_measure o p t s sz sl lay ρ σ τ k := hT
  unfold TF_Model_measure at hT
  obtain ⟨hL, U, len, st, hS, hR, ht, hs, hT⟩ := hT
  obtain ⟨hB, hl3, ⟨m4, m5, m6⟩, ⟨m7, m8, m9⟩, m12, ⟨m14, m13⟩, m15, ⟨m17, m16⟩, m26⟩ := (show MR σ o p U len st from hR)
  obtain ⟨b1, b2, b3, b4, b5, b6, b7⟩ := (show MB σ o p U len (st 1) from hB)
  obtain ⟨w0, w1, w2, w3, w4, w5, w6, w7, w8, w9, w10, w11, w12, w13, w14⟩ := (show SW U len st from hS)
  obtain ⟨J, hJd⟩ : ∃ J : Nat → List AV → Mm → Prop, J = (fun c vs M1 => (c = 3 ∧ ∃ (i : Int) (σ1 : Nat → Int → Int), QF σ σ1 o ∧ (0 ≤ i ∧ i ≤ st 0 7) ∧ (∀ x, 0 ≤ x ∧ x < i → σ1 (o + 21) x = -1) ∧ vs = [vR o, vI p, vI t, vI s, vI i] ∧ M1 = (sz, sl, lay, ρ, σ1, τ)) ∨ (c = 41 ∧ ∃ (n m : Int) (σ1 : Nat → Int → Int), QF σ σ1 o ∧ (1 ≤ n ∧ n ≤ st 0 7 + 1) ∧ MsI (edg U st s) t (st 0 7) n (σ1 (o + 21)) 0 ∧ ((m = 1 ∧ n + cntP (fun x => σ1 (o + 21) x = -1) (st 0 7).toNat ≤ st 0 7) ∨ (m = 0 ∧ ∀ x, 0 ≤ x ∧ x < st 0 7 → ¬ σ1 (o + 21) x = n - 1)) ∧ vs = [vR o, vI p, vI t, vI s, vI m, vI n] ∧ M1 = (sz, sl, lay, ρ, σ1, τ)) ∨ (c = 52 ∧ ∃ (n m i : Int) (σ1 : Nat → Int → Int), QF σ σ1 o ∧ 1 ≤ n ∧ (0 ≤ i ∧ i ≤ st 0 7) ∧ MsI (edg U st s) t (st 0 7) n (σ1 (o + 21)) i ∧ ((m = 1 ∧ n + 1 + cntP (fun x => σ1 (o + 21) x = -1) (st 0 7).toNat ≤ st 0 7) ∨ (m = 0 ∧ n + cntP (fun x => σ1 (o + 21) x = -1) (st 0 7).toNat ≤ st 0 7 ∧ ∀ x, 0 ≤ x ∧ x < st 0 7 → ¬ σ1 (o + 21) x = n)) ∧ vs = [vR o, vI p, vI t, vI s, vI m, vI n, vI i] ∧ M1 = (sz, sl, lay, ρ, σ1, τ))) := ⟨_, rfl⟩
  obtain ⟨μ, hμ⟩ : ∃ μ : Nat → List AV → Mm → Nat, μ = (fun c vs M => if c = 3 then (5000000 - gI (vs.getD 4 vN)).toNat else if c = 41 then (2000 * (2 * cntP (fun x => M.2.2.2.2.1 (o + 21) x = -1) (st 0 7).toNat + gI (vs.getD 4 vN))).toNat else (2000 * (2 * cntP (fun x => M.2.2.2.2.1 (o + 21) x = -1) (st 0 7).toNat + gI (vs.getD 4 vN)) + 1000 - gI (vs.getD 6 vN)).toNat) := ⟨_, rfl⟩
  refine ⟨Nat.le_of_ble_eq_true rfl, J, μ, 70, ?_, ?_⟩
  · obtain ⟨mh, mp0, mp2, mp3, mp4, mp5, mp6, mp7, mp8, mp9, mp10, mp11, mp12, mp13, mp14, mp15, mp16, mp17, mp18, mp19, mp20, mp21, mp22, mp24, mp25, mp26, mp27, mq0, mq2, mq3, mq4, mq5, mq6, mq7, mq8, mq9, mq10, mq11, mq12, mq13, mq14, mq15, mq16, mq17, mq18, mq19, mq20, mq21, mq22, mq24, mq25, mq26, mq27⟩ := (show LModel lay ρ _ from hL)
    unfold wps
    simp only [si_iload_n0, si_iload_n1, si_iload_n2, si_iload_n3, si_iload, si_lload_n0, si_lload_n1, si_lload_n2, si_lload_n3, si_lload, si_aload_n0, si_aload_n1, si_aload_n2, si_aload_n3, si_aload, si_istore_n0, si_istore_n1, si_istore_n2, si_istore_n3, si_istore, si_astore_n0, si_astore_n1, si_astore_n2, si_astore_n3, si_astore, si_lstore_n0, si_lstore_n1, si_lstore_n2, si_lstore_n3, si_lstore, si_iconst, si_bipush, si_sipush, si_ldc, si_ldc2_w, si_lconst0, si_lconst1, si_aconst_null, si_iinc, si_dup, si_dup2, si_iadd, si_isub, si_imul, si_idiv, si_irem, si_iand, si_ior, si_ishl, si_ishr, si_ladd, si_lmul, si_lor, si_lxor, si_lshl, si_lushr, si_lcmp, si_i2b, si_i2l, si_l2i, si_icmp_eq, si_icmp_ne, si_icmp_lt, si_icmp_ge, si_icmp_gt, si_icmp_le, si_if_eq, si_if_ne, si_if_lt, si_if_ge, si_if_gt, si_if_le, si_ifnull, si_ifnonnull, si_goto, si_tableswitch, si_lookupswitch, si_getfield, si_putfield, si_getstatic, si_iaload, si_baload, si_laload, si_aaload, si_iastore, si_bastore, si_lastore, si_aastore, si_arraylength, si_new, si_newarray, si_anewarray, si_invokevirtual, si_invokespecial, si_invokestatic, si_ireturn, si_lreturn, si_areturn, si_return_, pI_e, pL_e, pR_e, pA_r, pA_n, pN_n, pN_r, oI_e, oL_e, oA_r, oA_n, lget_e, lrm1_0, lrm2_0, lrm1_i, lrm1_r, lrm1_n, lrm1_l, lrm2_i, lrm2_r, lrm2_n, lrm2_l, popN_0, popN_s, acat_i, acat_l, acat_r, acat_n, stw_0, stw_s, psh_s, psh_n, wgf_r, wgf_i, wgf_b, wgf_n, wgf_m, wpf_i, wpf_r, wpf_b, wnew_e, callE_e, rbk_0, rbk_1, tsw_0, tsw_s, lsw_0, lsw_s, wp_s, wq_t, wq_f, oV_e, pick_0, pick_s, oZ_e, oY_e, r_Model_measure_0, r_Model_measure_1, r_Model_measure_3, r_Model_measure_5, r_Model_measure_6, r_Model_measure_9, r_Model_measure_10, r_Model_measure_11, r_Model_measure_14, r_Model_measure_15, r_Model_measure_18, r_Model_measure_20, r_Model_measure_21, r_Model_measure_22, r_Model_measure_25, r_Model_measure_28, r_Model_measure_29, r_Model_measure_32, r_Model_measure_33, r_Model_measure_34, r_Model_measure_35, r_Model_measure_36, r_Model_measure_38, r_Model_measure_39, r_Model_measure_41, r_Model_measure_43, r_Model_measure_46, r_Model_measure_47, r_Model_measure_49, r_Model_measure_50, r_Model_measure_52, r_Model_measure_54, r_Model_measure_55, r_Model_measure_58, r_Model_measure_59, r_Model_measure_60, r_Model_measure_63, r_Model_measure_64, r_Model_measure_67, r_Model_measure_69, r_Model_measure_70, r_Model_measure_73, r_Model_measure_74, r_Model_measure_75, r_Model_measure_77, r_Model_measure_79, r_Model_measure_80, r_Model_measure_81, r_Model_measure_82, r_Model_measure_85, r_Model_measure_88, r_Model_measure_89, r_Model_measure_92, r_Model_measure_94, r_Model_measure_96, r_Model_measure_97, r_Model_measure_98, r_Model_measure_100, r_Model_measure_103, r_Model_measure_106, r_Model_measure_109, r_Model_measure_112, xf_Model_measure_50, xf_Model_measure_72, xe_Model_measure_768, xd_Model_measure, xrb_Model_measure, xin_Model_measure, T_Model_leads_e, TF_Model_leads, mh, mp0, mp2, mp3, mp4, mp5, mp6, mp7, mp8, mp9, mp10, mp11, mp12, mp13, mp14, mp15, mp16, mp17, mp18, mp19, mp20, mp21, mp22, mp24, mp25, mp26, mp27, mq0, mq2, mq3, mq4, mq5, mq6, mq7, mq8, mq9, mq10, mq11, mq12, mq13, mq14, mq15, mq16, mq17, mq18, mq19, mq20, mq21, mq22, mq24, mq25, mq26, mq27, Nat.reduceAdd, Nat.reduceMul, Nat.reduceEqDiff, reduceIte, Int.reduceNeg, Int.reduceLE, Int.reduceLT, Int.reduceAdd, Int.reduceSub, Int.reduceToNat, true_and, and_true, inR_e, Nat.reduceLT, Nat.reduceLeDiff, reduceCtorEq, Nat.add_zero, Nat.zero_add, or_false, false_or, or_true, true_or, not_true_eq_false, not_false_eq_true, Classical.not_not, Nat.add_eq_zero_iff, and_false, false_and, Int.reduceEq, List.mem_cons, List.not_mem_nil, forall_eq_or_imp, forall_eq, false_implies, implies_true, forall_const, aargs_0, aargs_i, aargs_r, aargs_l, aargs_n, nfT_e, eq_self, and_self, Nat.le_refl, fu_s, fu_fu, iu_iu, iu_s, fu_am, fu_a0, fu_0a, iu_l, Nat.reduceBEq, Int.reduceBEq, T_objInit_e]
    clear mp0 mp2 mp3 mp4 mp5 mp6 mp7 mp8 mp9 mp10 mp11 mp12 mp13 mp14 mp15 mp16 mp17 mp18 mp19 mp20 mp21 mp22 mp24 mp25 mp26 mp27
    rw [hJd]
    exact Or.inl ⟨rfl, 0, σ, QF.rf, by omega, fun x hx => by omega, rfl, rfl⟩
  · intro cp vs M1 hvs hM1 hlen hJ
    rw [hJd] at hJ
    clear hB hl3 m4 m5 m6 m7 m8 m9 m12 m14 m13 m15 m17 m16 m26 b1 b2 b3 b4 b5 b6 b7
    have hE : ∀ x v, edg U st s x v → 0 ≤ v ∧ v < st 0 7 := fun x v h => edg_R hS h
    rcases hJ with ⟨rfl, i, σ1, g1, g2, g3, rfl, rfl⟩ | ⟨rfl, n, m, σ1, g1, g2, g3, g4, rfl, rfl⟩ | ⟨rfl, n, m, i, σ1, g1, g2, g3, g4, g5, rfl, rfl⟩
    · have hR1 := g1.mr hR
      obtain ⟨hB, hl3, ⟨m4, m5, m6⟩, ⟨m7, m8, m9⟩, m12, ⟨m14, m13⟩, m15, ⟨m17, m16⟩, m26⟩ := (show MR σ1 o p U len st from hR1)
      obtain ⟨b1, b2, b3, b4, b5, b6, b7⟩ := (show MB σ1 o p U len (st 1) from hB)
      (obtain ⟨mh, mp0, mp2, mp3, mp4, mp5, mp6, mp7, mp8, mp9, mp10, mp11, mp12, mp13, mp14, mp15, mp16, mp17, mp18, mp19, mp20, mp21, mp22, mp24, mp25, mp26, mp27, mq0, mq2, mq3, mq4, mq5, mq6, mq7, mq8, mq9, mq10, mq11, mq12, mq13, mq14, mq15, mq16, mq17, mq18, mq19, mq20, mq21, mq22, mq24, mq25, mq26, mq27⟩ := (show LModel lay ρ _ from hL); unfold wps; simp only [Option.getD_some, List.zip_cons_cons, List.zip_nil_left, List.zip_nil_right, List.zip_nil_right, MB_fu, MR_fu, si_iload_n0, si_iload_n1, si_iload_n2, si_iload_n3, si_iload, si_lload_n0, si_lload_n1, si_lload_n2, si_lload_n3, si_lload, si_aload_n0, si_aload_n1, si_aload_n2, si_aload_n3, si_aload, si_istore_n0, si_istore_n1, si_istore_n2, si_istore_n3, si_istore, si_astore_n0, si_astore_n1, si_astore_n2, si_astore_n3, si_astore, si_lstore_n0, si_lstore_n1, si_lstore_n2, si_lstore_n3, si_lstore, si_iconst, si_bipush, si_sipush, si_ldc, si_ldc2_w, si_lconst0, si_lconst1, si_aconst_null, si_iinc, si_dup, si_dup2, si_iadd, si_isub, si_imul, si_idiv, si_irem, si_iand, si_ior, si_ishl, si_ishr, si_ladd, si_lmul, si_lor, si_lxor, si_lshl, si_lushr, si_lcmp, si_i2b, si_i2l, si_l2i, si_icmp_eq, si_icmp_ne, si_icmp_lt, si_icmp_ge, si_icmp_gt, si_icmp_le, si_if_eq, si_if_ne, si_if_lt, si_if_ge, si_if_gt, si_if_le, si_ifnull, si_ifnonnull, si_goto, si_tableswitch, si_lookupswitch, si_getfield, si_putfield, si_getstatic, si_iaload, si_baload, si_laload, si_aaload, si_iastore, si_bastore, si_lastore, si_aastore, si_arraylength, si_new, si_newarray, si_anewarray, si_invokevirtual, si_invokespecial, si_invokestatic, si_ireturn, si_lreturn, si_areturn, si_return_, pI_e, pL_e, pR_e, pA_r, pA_n, pN_n, pN_r, oI_e, oL_e, oA_r, oA_n, lget_e, lrm1_0, lrm2_0, lrm1_i, lrm1_r, lrm1_n, lrm1_l, lrm2_i, lrm2_r, lrm2_n, lrm2_l, popN_0, popN_s, acat_i, acat_l, acat_r, acat_n, stw_0, stw_s, psh_s, psh_n, wgf_r, wgf_i, wgf_b, wgf_n, wgf_m, wpf_i, wpf_r, wpf_b, wnew_e, callE_e, rbk_0, rbk_1, tsw_0, tsw_s, lsw_0, lsw_s, wp_s, wq_t, wq_f, oV_e, pick_0, pick_s, oZ_e, oY_e, r_Model_measure_0, r_Model_measure_1, r_Model_measure_3, r_Model_measure_5, r_Model_measure_6, r_Model_measure_9, r_Model_measure_10, r_Model_measure_11, r_Model_measure_14, r_Model_measure_15, r_Model_measure_18, r_Model_measure_20, r_Model_measure_21, r_Model_measure_22, r_Model_measure_25, r_Model_measure_28, r_Model_measure_29, r_Model_measure_32, r_Model_measure_33, r_Model_measure_34, r_Model_measure_35, r_Model_measure_36, r_Model_measure_38, r_Model_measure_39, r_Model_measure_41, r_Model_measure_43, r_Model_measure_46, r_Model_measure_47, r_Model_measure_49, r_Model_measure_50, r_Model_measure_52, r_Model_measure_54, r_Model_measure_55, r_Model_measure_58, r_Model_measure_59, r_Model_measure_60, r_Model_measure_63, r_Model_measure_64, r_Model_measure_67, r_Model_measure_69, r_Model_measure_70, r_Model_measure_73, r_Model_measure_74, r_Model_measure_75, r_Model_measure_77, r_Model_measure_79, r_Model_measure_80, r_Model_measure_81, r_Model_measure_82, r_Model_measure_85, r_Model_measure_88, r_Model_measure_89, r_Model_measure_92, r_Model_measure_94, r_Model_measure_96, r_Model_measure_97, r_Model_measure_98, r_Model_measure_100, r_Model_measure_103, r_Model_measure_106, r_Model_measure_109, r_Model_measure_112, xf_Model_measure_50, xf_Model_measure_72, xe_Model_measure_768, xd_Model_measure, xrb_Model_measure, xin_Model_measure, T_Model_leads_e, TF_Model_leads, mh, mp0, mp2, mp3, mp4, mp5, mp6, mp7, mp8, mp9, mp10, mp11, mp12, mp13, mp14, mp15, mp16, mp17, mp18, mp19, mp20, mp21, mp22, mp24, mp25, mp26, mp27, mq0, mq2, mq3, mq4, mq5, mq6, mq7, mq8, mq9, mq10, mq11, mq12, mq13, mq14, mq15, mq16, mq17, mq18, mq19, mq20, mq21, mq22, mq24, mq25, mq26, mq27, Nat.reduceAdd, Nat.reduceMul, Nat.reduceEqDiff, reduceIte, Int.reduceNeg, Int.reduceLE, Int.reduceLT, Int.reduceAdd, Int.reduceSub, Int.reduceToNat, true_and, and_true, inR_e, Nat.reduceLT, Nat.reduceLeDiff, reduceCtorEq, Nat.add_zero, Nat.zero_add, or_false, false_or, or_true, true_or, not_true_eq_false, not_false_eq_true, Classical.not_not, Nat.add_eq_zero_iff, and_false, false_and, Int.reduceEq, List.mem_cons, List.not_mem_nil, forall_eq_or_imp, forall_eq, false_implies, implies_true, forall_const, aargs_0, aargs_i, aargs_r, aargs_l, aargs_n, nfT_e, eq_self, and_self, Nat.le_refl, fu_s, fu_fu, iu_iu, iu_s, fu_am, fu_a0, fu_0a, iu_l, Nat.reduceBEq, Int.reduceBEq, T_objInit_e]; clear mp0 mp2 mp3 mp4 mp5 mp6 mp7 mp8 mp9 mp10 mp11 mp12 mp13 mp14 mp15 mp16 mp17 mp18 mp19 mp20 mp21 mp22 mp24 mp25 mp26 mp27)
      rw [m14]
      have cN := cntP_R (P := fun x => iu (σ1 (o + 21)) t 0 x = -1) (N := (st 0 7).toNat)
      refine ⟨by omega, by omega, fun z => ⟨by omega, by omega, ?_, (by rw [hμ]; simp only [gI_e, List.getD_cons_succ, List.getD_cons_zero, Nat.reduceEqDiff, reduceIte, fu_s, fu_am, Nat.reduceBEq]; omega)⟩, fun z => ⟨by omega, by omega, by omega, ?_, (by rw [hμ]; simp only [gI_e, List.getD_cons_succ, List.getD_cons_zero, Nat.reduceEqDiff, reduceIte, fu_s, fu_am, Nat.reduceBEq]; omega)⟩⟩
      · rw [hJd]
        refine Or.inr (Or.inl ⟨rfl, 1, 1, _, g1.up (b := o + 21) (by omega), by omega, ?_, Or.inl ⟨rfl, ?_⟩, rfl, rfl⟩)
        · rw [fu_s]
          refine MsI.start ht (iu_s) (fun x hx e => ?_)
          rw [iu_n e]
          exact g3 x (by omega)
        · rw [fu_s]
          have e : cntP (fun x => x = t ∨ iu (σ1 (o + 21)) t 0 x = -1) (st 0 7).toNat = cntP (fun x => iu (σ1 (o + 21)) t 0 x = -1) (st 0 7).toNat + 1 := cntP_in (v := t) (by omega) (fun x _ => or_comm) (fun q => by rw [iu_s] at q; omega)
          have := cntP_R (P := fun x => x = t ∨ iu (σ1 (o + 21)) t 0 x = -1) (N := (st 0 7).toNat)
          omega
      · rw [hJd]
        refine Or.inl ⟨rfl, i + 1, _, g1.up (b := o + 21) (by omega), by omega, fun x hx => ?_, rfl, rfl⟩
        rw [fu_s]
        by_cases e : x = i
        · rw [e, iu_s]
        · rw [iu_n e]; exact g3 x (by omega)
    · have hR1 := g1.mr hR
      obtain ⟨hB, hl3, ⟨m4, m5, m6⟩, ⟨m7, m8, m9⟩, m12, ⟨m14, m13⟩, m15, ⟨m17, m16⟩, m26⟩ := (show MR σ1 o p U len st from hR1)
      obtain ⟨b1, b2, b3, b4, b5, b6, b7⟩ := (show MB σ1 o p U len (st 1) from hB)
      have cR := cntP_R (P := fun x => σ1 (o + 21) x = -1) (N := (st 0 7).toNat)
      (obtain ⟨mh, mp0, mp2, mp3, mp4, mp5, mp6, mp7, mp8, mp9, mp10, mp11, mp12, mp13, mp14, mp15, mp16, mp17, mp18, mp19, mp20, mp21, mp22, mp24, mp25, mp26, mp27, mq0, mq2, mq3, mq4, mq5, mq6, mq7, mq8, mq9, mq10, mq11, mq12, mq13, mq14, mq15, mq16, mq17, mq18, mq19, mq20, mq21, mq22, mq24, mq25, mq26, mq27⟩ := (show LModel lay ρ _ from hL); unfold wps; simp only [Option.getD_some, List.zip_cons_cons, List.zip_nil_left, List.zip_nil_right, List.zip_nil_right, MB_fu, MR_fu, si_iload_n0, si_iload_n1, si_iload_n2, si_iload_n3, si_iload, si_lload_n0, si_lload_n1, si_lload_n2, si_lload_n3, si_lload, si_aload_n0, si_aload_n1, si_aload_n2, si_aload_n3, si_aload, si_istore_n0, si_istore_n1, si_istore_n2, si_istore_n3, si_istore, si_astore_n0, si_astore_n1, si_astore_n2, si_astore_n3, si_astore, si_lstore_n0, si_lstore_n1, si_lstore_n2, si_lstore_n3, si_lstore, si_iconst, si_bipush, si_sipush, si_ldc, si_ldc2_w, si_lconst0, si_lconst1, si_aconst_null, si_iinc, si_dup, si_dup2, si_iadd, si_isub, si_imul, si_idiv, si_irem, si_iand, si_ior, si_ishl, si_ishr, si_ladd, si_lmul, si_lor, si_lxor, si_lshl, si_lushr, si_lcmp, si_i2b, si_i2l, si_l2i, si_icmp_eq, si_icmp_ne, si_icmp_lt, si_icmp_ge, si_icmp_gt, si_icmp_le, si_if_eq, si_if_ne, si_if_lt, si_if_ge, si_if_gt, si_if_le, si_ifnull, si_ifnonnull, si_goto, si_tableswitch, si_lookupswitch, si_getfield, si_putfield, si_getstatic, si_iaload, si_baload, si_laload, si_aaload, si_iastore, si_bastore, si_lastore, si_aastore, si_arraylength, si_new, si_newarray, si_anewarray, si_invokevirtual, si_invokespecial, si_invokestatic, si_ireturn, si_lreturn, si_areturn, si_return_, pI_e, pL_e, pR_e, pA_r, pA_n, pN_n, pN_r, oI_e, oL_e, oA_r, oA_n, lget_e, lrm1_0, lrm2_0, lrm1_i, lrm1_r, lrm1_n, lrm1_l, lrm2_i, lrm2_r, lrm2_n, lrm2_l, popN_0, popN_s, acat_i, acat_l, acat_r, acat_n, stw_0, stw_s, psh_s, psh_n, wgf_r, wgf_i, wgf_b, wgf_n, wgf_m, wpf_i, wpf_r, wpf_b, wnew_e, callE_e, rbk_0, rbk_1, tsw_0, tsw_s, lsw_0, lsw_s, wp_s, wq_t, wq_f, oV_e, pick_0, pick_s, oZ_e, oY_e, r_Model_measure_0, r_Model_measure_1, r_Model_measure_3, r_Model_measure_5, r_Model_measure_6, r_Model_measure_9, r_Model_measure_10, r_Model_measure_11, r_Model_measure_14, r_Model_measure_15, r_Model_measure_18, r_Model_measure_20, r_Model_measure_21, r_Model_measure_22, r_Model_measure_25, r_Model_measure_28, r_Model_measure_29, r_Model_measure_32, r_Model_measure_33, r_Model_measure_34, r_Model_measure_35, r_Model_measure_36, r_Model_measure_38, r_Model_measure_39, r_Model_measure_41, r_Model_measure_43, r_Model_measure_46, r_Model_measure_47, r_Model_measure_49, r_Model_measure_50, r_Model_measure_52, r_Model_measure_54, r_Model_measure_55, r_Model_measure_58, r_Model_measure_59, r_Model_measure_60, r_Model_measure_63, r_Model_measure_64, r_Model_measure_67, r_Model_measure_69, r_Model_measure_70, r_Model_measure_73, r_Model_measure_74, r_Model_measure_75, r_Model_measure_77, r_Model_measure_79, r_Model_measure_80, r_Model_measure_81, r_Model_measure_82, r_Model_measure_85, r_Model_measure_88, r_Model_measure_89, r_Model_measure_92, r_Model_measure_94, r_Model_measure_96, r_Model_measure_97, r_Model_measure_98, r_Model_measure_100, r_Model_measure_103, r_Model_measure_106, r_Model_measure_109, r_Model_measure_112, xf_Model_measure_50, xf_Model_measure_72, xe_Model_measure_768, xd_Model_measure, xrb_Model_measure, xin_Model_measure, T_Model_leads_e, TF_Model_leads, mh, mp0, mp2, mp3, mp4, mp5, mp6, mp7, mp8, mp9, mp10, mp11, mp12, mp13, mp14, mp15, mp16, mp17, mp18, mp19, mp20, mp21, mp22, mp24, mp25, mp26, mp27, mq0, mq2, mq3, mq4, mq5, mq6, mq7, mq8, mq9, mq10, mq11, mq12, mq13, mq14, mq15, mq16, mq17, mq18, mq19, mq20, mq21, mq22, mq24, mq25, mq26, mq27, Nat.reduceAdd, Nat.reduceMul, Nat.reduceEqDiff, reduceIte, Int.reduceNeg, Int.reduceLE, Int.reduceLT, Int.reduceAdd, Int.reduceSub, Int.reduceToNat, true_and, and_true, inR_e, Nat.reduceLT, Nat.reduceLeDiff, reduceCtorEq, Nat.add_zero, Nat.zero_add, or_false, false_or, or_true, true_or, not_true_eq_false, not_false_eq_true, Classical.not_not, Nat.add_eq_zero_iff, and_false, false_and, Int.reduceEq, List.mem_cons, List.not_mem_nil, forall_eq_or_imp, forall_eq, false_implies, implies_true, forall_const, aargs_0, aargs_i, aargs_r, aargs_l, aargs_n, nfT_e, eq_self, and_self, Nat.le_refl, fu_s, fu_fu, iu_iu, iu_s, fu_am, fu_a0, fu_0a, iu_l, Nat.reduceBEq, Int.reduceBEq, T_objInit_e]; clear mp0 mp2 mp3 mp4 mp5 mp6 mp7 mp8 mp9 mp10 mp11 mp12 mp13 mp14 mp15 mp16 mp17 mp18 mp19 mp20 mp21 mp22 mp24 mp25 mp26 mp27)
      refine ⟨fun z => hT σ1 g1 (g3.fin hE g2.1 ?_), fun z => ⟨?_, ?_⟩⟩
      · rcases g4 with q | q
        · omega
        · exact q.2
      · rw [hJd]
        rcases g4 with q | q
        · refine Or.inr (Or.inr ⟨rfl, n, 0, 0, σ1, g1, g2.1, by omega, g3, Or.inr ⟨rfl, q.2, fun x hx e => ?_⟩, rfl, rfl⟩)
          rcases g3 x hx with y | y
          · omega
          · rw [if_neg (by omega)] at y
            omega
        · exact absurd q.1 z
      · rcases g4 with q | q
        · exact (by rw [hμ]; simp only [gI_e, List.getD_cons_succ, List.getD_cons_zero, Nat.reduceEqDiff, reduceIte, fu_s, fu_am, Nat.reduceBEq]; omega)
        · exact absurd q.1 z
    · have hR1 := g1.mr hR
      obtain ⟨hB, hl3, ⟨m4, m5, m6⟩, ⟨m7, m8, m9⟩, m12, ⟨m14, m13⟩, m15, ⟨m17, m16⟩, m26⟩ := (show MR σ1 o p U len st from hR1)
      obtain ⟨b1, b2, b3, b4, b5, b6, b7⟩ := (show MB σ1 o p U len (st 1) from hB)
      have cR := cntP_R (P := fun x => σ1 (o + 21) x = -1) (N := (st 0 7).toNat)
      have cR2 := cntP_R (P := fun x => iu (σ1 (o + 21)) i n x = -1) (N := (st 0 7).toNat)
      (obtain ⟨mh, mp0, mp2, mp3, mp4, mp5, mp6, mp7, mp8, mp9, mp10, mp11, mp12, mp13, mp14, mp15, mp16, mp17, mp18, mp19, mp20, mp21, mp22, mp24, mp25, mp26, mp27, mq0, mq2, mq3, mq4, mq5, mq6, mq7, mq8, mq9, mq10, mq11, mq12, mq13, mq14, mq15, mq16, mq17, mq18, mq19, mq20, mq21, mq22, mq24, mq25, mq26, mq27⟩ := (show LModel lay ρ _ from hL); unfold wps; simp only [Option.getD_some, List.zip_cons_cons, List.zip_nil_left, List.zip_nil_right, List.zip_nil_right, MB_fu, MR_fu, si_iload_n0, si_iload_n1, si_iload_n2, si_iload_n3, si_iload, si_lload_n0, si_lload_n1, si_lload_n2, si_lload_n3, si_lload, si_aload_n0, si_aload_n1, si_aload_n2, si_aload_n3, si_aload, si_istore_n0, si_istore_n1, si_istore_n2, si_istore_n3, si_istore, si_astore_n0, si_astore_n1, si_astore_n2, si_astore_n3, si_astore, si_lstore_n0, si_lstore_n1, si_lstore_n2, si_lstore_n3, si_lstore, si_iconst, si_bipush, si_sipush, si_ldc, si_ldc2_w, si_lconst0, si_lconst1, si_aconst_null, si_iinc, si_dup, si_dup2, si_iadd, si_isub, si_imul, si_idiv, si_irem, si_iand, si_ior, si_ishl, si_ishr, si_ladd, si_lmul, si_lor, si_lxor, si_lshl, si_lushr, si_lcmp, si_i2b, si_i2l, si_l2i, si_icmp_eq, si_icmp_ne, si_icmp_lt, si_icmp_ge, si_icmp_gt, si_icmp_le, si_if_eq, si_if_ne, si_if_lt, si_if_ge, si_if_gt, si_if_le, si_ifnull, si_ifnonnull, si_goto, si_tableswitch, si_lookupswitch, si_getfield, si_putfield, si_getstatic, si_iaload, si_baload, si_laload, si_aaload, si_iastore, si_bastore, si_lastore, si_aastore, si_arraylength, si_new, si_newarray, si_anewarray, si_invokevirtual, si_invokespecial, si_invokestatic, si_ireturn, si_lreturn, si_areturn, si_return_, pI_e, pL_e, pR_e, pA_r, pA_n, pN_n, pN_r, oI_e, oL_e, oA_r, oA_n, lget_e, lrm1_0, lrm2_0, lrm1_i, lrm1_r, lrm1_n, lrm1_l, lrm2_i, lrm2_r, lrm2_n, lrm2_l, popN_0, popN_s, acat_i, acat_l, acat_r, acat_n, stw_0, stw_s, psh_s, psh_n, wgf_r, wgf_i, wgf_b, wgf_n, wgf_m, wpf_i, wpf_r, wpf_b, wnew_e, callE_e, rbk_0, rbk_1, tsw_0, tsw_s, lsw_0, lsw_s, wp_s, wq_t, wq_f, oV_e, pick_0, pick_s, oZ_e, oY_e, r_Model_measure_0, r_Model_measure_1, r_Model_measure_3, r_Model_measure_5, r_Model_measure_6, r_Model_measure_9, r_Model_measure_10, r_Model_measure_11, r_Model_measure_14, r_Model_measure_15, r_Model_measure_18, r_Model_measure_20, r_Model_measure_21, r_Model_measure_22, r_Model_measure_25, r_Model_measure_28, r_Model_measure_29, r_Model_measure_32, r_Model_measure_33, r_Model_measure_34, r_Model_measure_35, r_Model_measure_36, r_Model_measure_38, r_Model_measure_39, r_Model_measure_41, r_Model_measure_43, r_Model_measure_46, r_Model_measure_47, r_Model_measure_49, r_Model_measure_50, r_Model_measure_52, r_Model_measure_54, r_Model_measure_55, r_Model_measure_58, r_Model_measure_59, r_Model_measure_60, r_Model_measure_63, r_Model_measure_64, r_Model_measure_67, r_Model_measure_69, r_Model_measure_70, r_Model_measure_73, r_Model_measure_74, r_Model_measure_75, r_Model_measure_77, r_Model_measure_79, r_Model_measure_80, r_Model_measure_81, r_Model_measure_82, r_Model_measure_85, r_Model_measure_88, r_Model_measure_89, r_Model_measure_92, r_Model_measure_94, r_Model_measure_96, r_Model_measure_97, r_Model_measure_98, r_Model_measure_100, r_Model_measure_103, r_Model_measure_106, r_Model_measure_109, r_Model_measure_112, xf_Model_measure_50, xf_Model_measure_72, xe_Model_measure_768, xd_Model_measure, xrb_Model_measure, xin_Model_measure, T_Model_leads_e, TF_Model_leads, mh, mp0, mp2, mp3, mp4, mp5, mp6, mp7, mp8, mp9, mp10, mp11, mp12, mp13, mp14, mp15, mp16, mp17, mp18, mp19, mp20, mp21, mp22, mp24, mp25, mp26, mp27, mq0, mq2, mq3, mq4, mq5, mq6, mq7, mq8, mq9, mq10, mq11, mq12, mq13, mq14, mq15, mq16, mq17, mq18, mq19, mq20, mq21, mq22, mq24, mq25, mq26, mq27, Nat.reduceAdd, Nat.reduceMul, Nat.reduceEqDiff, reduceIte, Int.reduceNeg, Int.reduceLE, Int.reduceLT, Int.reduceAdd, Int.reduceSub, Int.reduceToNat, true_and, and_true, inR_e, Nat.reduceLT, Nat.reduceLeDiff, reduceCtorEq, Nat.add_zero, Nat.zero_add, or_false, false_or, or_true, true_or, not_true_eq_false, not_false_eq_true, Classical.not_not, Nat.add_eq_zero_iff, and_false, false_and, Int.reduceEq, List.mem_cons, List.not_mem_nil, forall_eq_or_imp, forall_eq, false_implies, implies_true, forall_const, aargs_0, aargs_i, aargs_r, aargs_l, aargs_n, nfT_e, eq_self, and_self, Nat.le_refl, fu_s, fu_fu, iu_iu, iu_s, fu_am, fu_a0, fu_0a, iu_l, Nat.reduceBEq, Int.reduceBEq, T_objInit_e]; clear mp0 mp2 mp3 mp4 mp5 mp6 mp7 mp8 mp9 mp10 mp11 mp12 mp13 mp14 mp15 mp16 mp17 mp18 mp19 mp20 mp21 mp22 mp24 mp25 mp26 mp27)
      rw [m14]
      refine ⟨by omega, by omega, fun z => ⟨by omega, ?_, (by rw [hμ]; simp only [gI_e, List.getD_cons_succ, List.getD_cons_zero, Nat.reduceEqDiff, reduceIte, fu_s, fu_am, Nat.reduceBEq]; omega)⟩, fun z => ⟨by omega, by omega, fun a => ⟨by omega, ?_, (by rw [hμ]; simp only [gI_e, List.getD_cons_succ, List.getD_cons_zero, Nat.reduceEqDiff, reduceIte, fu_s, fu_am, Nat.reduceBEq]; omega)⟩, fun a => ?_⟩⟩
      · rw [hJd]
        rw [show i = st 0 7 by omega] at g4
        refine Or.inr (Or.inl ⟨rfl, n + 1, m, σ1, g1, by omega, g4.nx, ?_, rfl, rfl⟩)
        rcases g5 with q | q
        · exact Or.inl q
        · refine Or.inr ⟨q.1, fun x hx => ?_⟩
          rw [show n + 1 - 1 = n by omega]
          exact q.2.2 x hx
      · rw [hJd]
        exact Or.inr (Or.inr ⟨rfl, n, m, i + 1, σ1, g1, g2, by omega, g4.miss (b := -1) (num := numA U (st 2)) (by omega) g2 hE (fun q => by omega), g5, rfl, rfl⟩)
      · have hf : σ1 (o + 21) i = -1 := by
          rcases g4 i (by omega) with q | q
          · exact q.1
          · omega
        have e : cntP (fun x => σ1 (o + 21) x = -1) (st 0 7).toNat = cntP (fun x => iu (σ1 (o + 21)) i n x = -1) (st 0 7).toNat + 1 := by
          refine cntP_in (v := i) (by omega) (fun x _ => ?_) (fun q => by rw [iu_s] at q; omega)
          by_cases e : x = i
          · rw [e]; exact ⟨fun _ => Or.inr rfl, fun _ => hf⟩
          · rw [iu_n e]; exact ⟨Or.inl, fun q => q.elim id (fun q => absurd q e)⟩
        refine ⟨by omega, hL, U, len, st, hS, hR1, by omega, hs, fun b hb d => ⟨fun c => ⟨by omega, ?_, (by rw [hμ]; simp only [gI_e, List.getD_cons_succ, List.getD_cons_zero, Nat.reduceEqDiff, reduceIte, fu_s, fu_am, Nat.reduceBEq]; omega)⟩, fun c => ⟨by omega, by omega, by omega, ?_, (by rw [hμ]; simp only [gI_e, List.getD_cons_succ, List.getD_cons_zero, Nat.reduceEqDiff, reduceIte, fu_s, fu_am, Nat.reduceBEq]; omega)⟩⟩⟩
        · rw [hJd]
          refine Or.inr (Or.inr ⟨rfl, n, m, i + 1, _, g1.up (b := o + 23) (by omega), g2, by omega, ?_, ?_, rfl, rfl⟩)
          · simp only [fu_am, Nat.reduceBEq]
            exact g4.miss (by omega) g2 hE (fun _ => ⟨hb, c⟩)
          · simp only [fu_am, Nat.reduceBEq]
            exact g5
        · rw [hJd]
          refine Or.inr (Or.inr ⟨rfl, n, 1, i + 1, _, (g1.up (b := o + 23) (by omega)).up (b := o + 21) (by omega), g2, by omega, ?_, Or.inl ⟨rfl, ?_⟩, rfl, rfl⟩)
          · simp only [fu_s, fu_am, Nat.reduceBEq]
            exact g4.hit (by omega) (by omega) hf hE hb (by omega)
          · simp only [fu_s, fu_am, Nat.reduceBEq]
            omega

/-- other sheets -/
theorem iv_shs {T : Nat → Nat → List Nat} {n nf nc : Nat} {kd se : Nat → Nat} {lw tp : Nat} {σ σ' : jr_Sg} (h : iv T n nf nc kd se lw tp σ) (hc : ∀ a, a ∈ iv_cells → a ∉ [43, 44, 45, 57, 58, 59] → σ' a = σ a) (hf : ∀ k, k ∈ iv_flds → σ' 46 k = σ 46 k) (hs : iv_sh σ') : iv T n nf nc kd se lw tp σ' := by
  have h2 : iv T n nf nc kd se lw tp (fun a => if a ∈ [43, 44, 45, 57, 58, 59] then σ a else σ' a) := iv_mov ⟨fun a ha => by
    by_cases e : a ∈ [43, 44, 45, 57, 58, 59]
    · show (if a ∈ [43, 44, 45, 57, 58, 59] then σ a else σ' a) = _
      rw [if_pos e]
    · show (if a ∈ [43, 44, 45, 57, 58, 59] then σ a else σ' a) = _
      rw [if_neg e]; exact hc a ha e, fun k hk => hf k hk⟩ h
  obtain ⟨a1, a2, a3, a4, a5, a6, a7, a8⟩ := h2
  exact ⟨a1, a2, a3, a4, a5, hs, a7, a8⟩
def sh1 (σ : jr_Sg) (s : Nat) : Prop := σ 43 s = σ 57 s ∧ σ 44 s = σ 58 s ∧ (σ 57 s = -1 ∨ σ 57 s = 0 ∨ σ 57 s = 1 ∨ σ 57 s = 2) ∧ ∃ z : Nat, z ≤ 40 ∧ σ 58 s = nI z ∧ ∀ i, i < z → σ 45 (40 * s + i) = σ 59 (40 * s + i)
theorem sh1_mov {σ σ' : jr_Sg} {j s : Nat} (h : sh1 σ s) (hj : s ≠ j) (e1 : ∀ x, x ≠ j → σ' 43 x = σ 43 x) (e2 : ∀ x, x ≠ j → σ' 44 x = σ 44 x) (e3 : ∀ x, x ≠ j → σ' 57 x = σ 57 x) (e4 : ∀ x, x ≠ j → σ' 58 x = σ 58 x) (e5 : ∀ q, q < 40 * j ∨ 40 * j + 40 ≤ q → σ' 45 q = σ 45 q) (e6 : ∀ q, q < 40 * j ∨ 40 * j + 40 ≤ q → σ' 59 q = σ 59 q) : sh1 σ' s := by
  obtain ⟨h1, h2, h3, z, hz, h4, h5⟩ := h
  refine ⟨by rw [e1 s hj, e3 s hj, h1], by rw [e2 s hj, e4 s hj, h2], by rw [e3 s hj]; exact h3, z, hz, by rw [e4 s hj, h4], fun i hi => ?_⟩
  rw [e5 _ (by omega), e6 _ (by omega)]
  exact h5 i hi
theorem become_l {G : jr_G} {d : Nat} {σ : jr_Sg} {k : jr_Sg → Prop} {j n : Nat} {x : Int32} (hj : j < 4) (hn : n ≤ 40) (hk : ∀ σ' : jr_Sg, (∀ a, a ≠ 45 → σ' a = σ a) → (∀ i, i < n → σ' 45 (40 * j + i) = 0) → (∀ q, q < 40 * j ∨ 40 * j + 40 ≤ q → σ' 45 q = σ 45 q) → k σ') : ∀ (m i : Nat) (σ2 : jr_Sg), i + m = n → (∀ a, a ≠ 45 → σ2 a = σ a) → (∀ q, q < i → σ2 45 (40 * j + q) = 0) → (∀ q, q < 40 * j ∨ 40 * j + 40 ≤ q → σ2 45 q = σ 45 q) → jr_R G d mi_X5_become (jr_kv k) 36 [some (.ref 42), some (.int (nI j)), some (.int x), some (.int (nI n)), some (.int (nI i))] [] σ2 := by
  intro m
  induction m with
  | zero =>
    intro i σ2 hi g1 g2 g3
    have ei : i = n := hi
    subst ei
    refine jr_iload 38 dX5_become_36 rfl rfl ?_
    refine jr_iload_n 3 39 dX5_become_38 rfl rfl rfl ?_
    refine jr_icmp_ge 61 42 dX5_become_39 rfl rfl (fun q39 => ?_) (fun q => absurd (Int32.le_refl _) q)
    refine jr_return dX5_become_61 rfl ?_
    exact hk σ2 g1 g2 g3
  | succ m ih =>
    intro i σ2 hi g1 g2 g3
    refine jr_iload 38 dX5_become_36 rfl rfl ?_
    refine jr_iload_n 3 39 dX5_become_38 rfl rfl rfl ?_
    refine jr_icmp_ge 61 42 dX5_become_39 rfl rfl (fun q => absurd q (nI_ge (by omega) (by omega))) (fun q39 => ?_)
    refine jr_aload_n 0 43 dX5_become_42 rfl rfl rfl ?_
    refine gf_X5_18 46 dX5_become_43 rfl rfl rfl rfl ?_
    refine jr_iload_n 1 47 dX5_become_46 rfl rfl rfl ?_
    refine jr_bipush (nI 40) 49 dX5_become_47 rfl rfl ?_
    refine jr_imul 50 dX5_become_49 rfl ?_
    refine jr_iload 52 dX5_become_50 rfl rfl ?_
    refine jr_iadd 53 dX5_become_52 rfl ?_
    refine jr_iconst (0) 54 dX5_become_53 rfl rfl ?_
    refine jr_iast rfl (ix40 j i) (by omega) 55 dX5_become_54 rfl ?_
    refine jr_iinc (v := nI (i + 1)) (L' := [_, _, _, _, _]) 58 dX5_become_55 rfl rfl (nI_1 i) (by decide) rfl ?_
    refine jr_goto 36 dX5_become_58 rfl ?_
    refine ih (i + 1) _ (by omega) (fun a ha => ?_) (fun q hq => ?_) (fun q hq => ?_)
    · unfold jr_up
      rw [if_neg ha]
      exact g1 a ha
    · show upd (σ2 45) (40 * j + i) 0 (40 * j + q) = _
      by_cases e : q = i
      · subst e; exact pk_us
      · rw [pk_un (by omega)]; exact g2 q (by omega)
    · show upd (σ2 45) (40 * j + i) 0 q = _
      rw [pk_un (by omega)]; exact g3 q hq
theorem wp_shBecome {G : jr_G} {d : Nat} {σ : jr_Sg} {k : jr_Sg → Prop} {j n : Nat} {x : Int32} (hj : j < 4) (hn : n ≤ 40) (hk : ∀ σ' : jr_Sg, (∀ a, a ∉ [43, 44, 45] → σ' a = σ a) → σ' 43 = upd (σ 43) j x → σ' 44 = upd (σ 44) j (nI n) → (∀ i, i < n → σ' 45 (40 * j + i) = 0) → (∀ q, q < 40 * j ∨ 40 * j + 40 ≤ q → σ' 45 q = σ 45 q) → k σ') : jr_M G (d + 1) mi_X5_become [.ref 42, .int (nI j), .int x, .int (nI n)] σ (jr_kv k) := by
  refine jr_enter (L := [some (.ref 42), some (.int (nI j)), some (.int x), some (.int (nI n)), none]) (by decide) (Nat.le_of_ble_eq_true rfl) rfl ?_
  refine jr_aload_n 0 1 dX5_become_0 rfl rfl rfl ?_
  refine jr_iload_n 1 2 dX5_become_1 rfl rfl rfl ?_
  refine cs_X5_21 5 dX5_become_2 rfl rfl rfl (Nat.le_of_ble_eq_true rfl) (wp_shasT hj ?_)
  refine jr_if_eq 18 8 dX5_become_5 rfl rfl (fun q => absurd q (by decide)) (fun q5 => ?_)
  refine jr_iload_n 3 9 dX5_become_8 rfl rfl rfl ?_
  refine jr_if_lt 18 12 dX5_become_9 rfl rfl (fun q => absurd q (nI_pos (by omega))) (fun q9 => ?_)
  refine jr_iload_n 3 13 dX5_become_12 rfl rfl rfl ?_
  refine jr_bipush (nI 40) 15 dX5_become_13 rfl rfl ?_
  refine jr_icmp_le 19 18 dX5_become_15 rfl rfl (fun q15 => ?_) (fun q => absurd (nI_le (b := 40) hn (by omega)) q)
  refine jr_aload_n 0 20 dX5_become_19 rfl rfl rfl ?_
  refine gf_X5_11 23 dX5_become_20 rfl rfl rfl rfl ?_
  refine jr_iload_n 1 24 dX5_become_23 rfl rfl rfl ?_
  refine jr_iload_n 2 25 dX5_become_24 rfl rfl rfl ?_
  refine jr_iast rfl rfl (by omega) 26 dX5_become_25 rfl ?_
  refine jr_aload_n 0 27 dX5_become_26 rfl rfl rfl ?_
  refine gf_X5_15 30 dX5_become_27 rfl rfl rfl rfl ?_
  refine jr_iload_n 1 31 dX5_become_30 rfl rfl rfl ?_
  refine jr_iload_n 3 32 dX5_become_31 rfl rfl rfl ?_
  refine jr_iast rfl rfl (by omega) 33 dX5_become_32 rfl ?_
  refine jr_iconst (nI 0) 34 dX5_become_33 rfl rfl ?_
  refine jr_istore (L' := [_, _, _, _, _]) 36 dX5_become_34 rfl (by decide) rfl ?_
  refine become_l (σ := jr_up (jr_up σ 43 j x) 44 j (nI n)) hj hn (fun σ2 g1 g2 g3 => hk σ2 (fun a ha => ?_) (g1 43 (by decide)) (g1 44 (by decide)) g2 g3) n 0 _ (Nat.zero_add _) (fun _ _ => rfl) (fun q hq => absurd hq (Nat.not_lt_zero q)) (fun _ _ => rfl)
  rw [g1 a (fun e => ha (by rw [e]; decide))]
  unfold jr_up
  rw [if_neg (fun e => ha (by rw [e]; decide)), if_neg (fun e => ha (by rw [e]; decide))]
def pv (s v : Int32) : Int32 := if s = 0 then v.toInt8.toInt32 else if s = 1 then v.toInt16.toInt32 else v
theorem wp_put {G : jr_G} {d : Nat} {σ : jr_Sg} {k : jr_Sg → Prop} {j i z : Nat} {v : Int32} (hj : j < 4) (ez : σ 44 j = nI z) (hz : z ≤ 40) (hi : i < z) (h : k (jr_up σ 45 (40 * j + i) (pv (σ 43 j) v))) : jr_M G (d + 2) mi_X5_put [.ref 42, .int (nI j), .int (nI i), .int v] σ (jr_kv k) := by
  unfold pv at h
  refine jr_enter (L := [some (.ref 42), some (.int (nI j)), some (.int (nI i)), some (.int v)]) (by decide) (Nat.le_of_ble_eq_true rfl) rfl ?_
  refine jr_aload_n 0 1 dX5_put_0 rfl rfl rfl ?_
  refine jr_iload_n 1 2 dX5_put_1 rfl rfl rfl ?_
  refine jr_iload_n 2 3 dX5_put_2 rfl rfl rfl ?_
  refine jr_iconst (nI 1) 4 dX5_put_3 rfl rfl ?_
  refine cs_X5_25 7 dX5_put_4 rfl rfl rfl (Nat.le_of_ble_eq_true rfl) (wp_holdsT (n := 1) hj ez hz (by omega) ?_)
  refine jr_if_eq 51 10 dX5_put_7 rfl rfl (fun q => absurd q (by decide)) (fun q7 => ?_)
  refine jr_aload_n 0 11 dX5_put_10 rfl rfl rfl ?_
  refine gf_X5_18 14 dX5_put_11 rfl rfl rfl rfl ?_
  refine jr_iload_n 1 15 dX5_put_14 rfl rfl rfl ?_
  refine jr_bipush (nI 40) 17 dX5_put_15 rfl rfl ?_
  refine jr_imul 18 dX5_put_17 rfl ?_
  refine jr_iload_n 2 19 dX5_put_18 rfl rfl rfl ?_
  refine jr_iadd 20 dX5_put_19 rfl ?_
  refine jr_aload_n 0 21 dX5_put_20 rfl rfl rfl ?_
  refine gf_X5_11 24 dX5_put_21 rfl rfl rfl rfl ?_
  refine jr_iload_n 1 25 dX5_put_24 rfl rfl rfl ?_
  refine jr_iald rfl rfl (by omega) 26 dX5_put_25 rfl ?_
  refine jr_if_ne 34 29 dX5_put_26 rfl rfl (fun q26 => ?_) (fun q26 => ?_)
  · refine jr_aload_n 0 35 dX5_put_34 rfl rfl rfl ?_
    refine gf_X5_11 38 dX5_put_35 rfl rfl rfl rfl ?_
    refine jr_iload_n 1 39 dX5_put_38 rfl rfl rfl ?_
    refine jr_iald rfl rfl (by omega) 40 dX5_put_39 rfl ?_
    refine jr_iconst (1) 41 dX5_put_40 rfl rfl ?_
    refine jr_icmp_ne 49 44 dX5_put_41 rfl rfl (fun q41 => ?_) (fun q41 => ?_)
    · refine jr_iload_n 3 50 dX5_put_49 rfl rfl rfl ?_
      refine jr_iast rfl (ix40 j i) (by omega) 51 dX5_put_50 rfl ?_
      refine jr_return dX5_put_51 rfl ?_
      rw [if_neg q26, if_neg q41] at h
      exact h
    · refine jr_iload_n 3 45 dX5_put_44 rfl rfl rfl ?_
      refine jr_i2s 46 dX5_put_45 rfl ?_
      refine jr_goto 50 dX5_put_46 rfl ?_
      refine jr_iast rfl (ix40 j i) (by omega) 51 dX5_put_50 rfl ?_
      refine jr_return dX5_put_51 rfl ?_
      rw [if_neg q26, if_pos q41] at h
      exact h
  · refine jr_iload_n 3 30 dX5_put_29 rfl rfl rfl ?_
    refine jr_i2b 31 dX5_put_30 rfl ?_
    refine jr_goto 50 dX5_put_31 rfl ?_
    refine jr_iast rfl (ix40 j i) (by omega) 51 dX5_put_50 rfl ?_
    refine jr_return dX5_put_51 rfl ?_
    rw [if_pos q26] at h
    exact h
theorem sheet_l {G : jr_G} {d : Nat} {σ : jr_Sg} {k : Value → jr_Sg → Prop} {j : Nat} {x y : Int32} (hj : j < 4) (hk : ∀ σ' : jr_Sg, (∀ a, a ≠ 59 → σ' a = σ a) → (∀ i, i < 40 → σ' 59 (40 * j + i) = 0) → (∀ q, q < 40 * j ∨ 40 * j + 40 ≤ q → σ' 59 q = σ 59 q) → k (.int 1) σ') : ∀ (m i : Nat) (σ2 : jr_Sg), i + m = 40 → (∀ a, a ≠ 59 → σ2 a = σ a) → (∀ q, q < i → σ2 59 (40 * j + q) = 0) → (∀ q, q < 40 * j ∨ 40 * j + 40 ≤ q → σ2 59 q = σ 59 q) → jr_R G (d + 20) mi_X10_sheet (jr_k k) 70 [some (.ref 46), some (.int (nI j)), some (.int x), some (.int y), some (.int (nI i))] [] σ2 := by
  intro m
  induction m with
  | zero =>
    intro i σ2 hi g1 g2 g3
    have ei : i = 40 := hi
    subst ei
    refine jr_iload 72 dX10_sheet_70 rfl rfl ?_
    refine jr_bipush (nI 40) 74 dX10_sheet_72 rfl rfl ?_
    refine jr_icmp_ge 96 77 dX10_sheet_74 rfl rfl (fun q74 => ?_) (fun q => absurd (by decide) q)
    refine jr_iconst (1) 97 dX10_sheet_96 rfl rfl ?_
    refine jr_ireturn dX10_sheet_97 rfl rfl ?_
    exact hk σ2 g1 g2 g3
  | succ m ih =>
    intro i σ2 hi g1 g2 g3
    refine jr_iload 72 dX10_sheet_70 rfl rfl ?_
    refine jr_bipush (nI 40) 74 dX10_sheet_72 rfl rfl ?_
    refine jr_icmp_ge 96 77 dX10_sheet_74 rfl rfl (fun z => absurd z (nI_ge (b := 40) (by omega) (by decide))) (fun q74 => ?_)
    refine jr_aload_n 0 78 dX10_sheet_77 rfl rfl rfl ?_
    refine gf_X10_46 81 dX10_sheet_78 rfl rfl rfl rfl ?_
    refine jr_bipush (nI 40) 83 dX10_sheet_81 rfl rfl ?_
    refine jr_iload_n 1 84 dX10_sheet_83 rfl rfl rfl ?_
    refine jr_imul 85 dX10_sheet_84 rfl ?_
    refine jr_iload 87 dX10_sheet_85 rfl rfl ?_
    refine jr_iadd 88 dX10_sheet_87 rfl ?_
    refine jr_iconst (0) 89 dX10_sheet_88 rfl rfl ?_
    refine jr_iast rfl (ix40' j i) (by omega) 90 dX10_sheet_89 rfl ?_
    refine jr_iinc (v := nI (i + 1)) (L' := [_, _, _, _, _]) 93 dX10_sheet_90 rfl rfl (nI_1 i) (by decide) rfl ?_
    refine jr_goto 70 dX10_sheet_93 rfl ?_
    refine ih (i + 1) _ (by omega) (fun a ha => ?_) (fun q hq => ?_) (fun q hq => ?_)
    · unfold jr_up
      rw [if_neg ha]
      exact g1 a ha
    · show upd (σ2 59) (40 * j + i) 0 (40 * j + q) = _
      by_cases e : q = i
      · subst e; exact pk_us
      · rw [pk_un (by omega)]; exact g2 q (by omega)
    · show upd (σ2 59) (40 * j + i) 0 q = _
      rw [pk_un (by omega)]; exact g3 q hq
theorem pp_sheet {G : jr_G} {d : Nat} {σ : jr_Sg} {a b c : Int32} (h : IV σ) : jr_pair G (d + 20) mi_X9_sheet mi_X10_sheet [.int a, .int b, .int c] σ := by
  obtain ⟨T, n, nf, nc, kd, se, lw, tp, h⟩ := h
  have hh := h
  obtain ⟨hTC, hTR, ⟨hsc, hsr, hl1, hl2, hlw, hfc, hli, hca⟩, htp, himg, hsh, hrest, hwd⟩ := hh
  have hnf := hsc.1
  have h5 := hsc.2.1
  have hnc := hsc.2.2.1
  have h8 := hsc.2.2.2.1
  have rnf := hsr.1
  have rnc := hsr.2.2.1
  have hlm := hrest.2.2.2.1
  unfold jr_pair
  by_cases ha : 0 ≤ a ∧ a ≤ 3
  · obtain ⟨j, hj, rfl⟩ := c4 ha
    by_cases hb : -1 ≤ b ∧ b ≤ 2
    · have hb4 : b = -1 ∨ b = 0 ∨ b = 1 ∨ b = 2 := by
        by_cases z : b < 0
        · refine Or.inl (Int32.le_antisymm ?_ hb.1)
          rw [Int32.le_iff_toInt_le]
          rw [Int32.lt_iff_toInt_lt] at z
          have e1 : (0 : Int32).toInt = 0 := by decide
          have e2 : (-1 : Int32).toInt = -1 := by decide
          omega
        · obtain ⟨u, hu, rfl⟩ := nI_of z
          have : u ≤ 2 := by
            rcases Nat.lt_or_ge 2 u with q | q
            · exact absurd hb.2 (nI_ge (a := 2) q hu)
            · exact q
          rcases (by omega : u = 0 ∨ u = 1 ∨ u = 2) with rfl | rfl | rfl
          · exact Or.inr (Or.inl rfl)
          · exact Or.inr (Or.inr (Or.inl rfl))
          · exact Or.inr (Or.inr (Or.inr rfl))
      by_cases hm : b = -1
      · subst hm
        refine jr_enter (L := [some (.ref 0), some (.int (nI j)), some (.int (-1)), some (.int c)]) (by decide) (Nat.le_of_ble_eq_true rfl) rfl ?_
        refine jr_aload_n 0 1 dX9_sheet_0 rfl rfl rfl ?_
        refine gf_X9_57 4 dX9_sheet_1 rfl rfl rfl rfl ?_
        refine jr_iload_n 1 5 dX9_sheet_4 rfl rfl rfl ?_
        refine cs_X9_298 8 dX9_sheet_5 rfl rfl rfl (Nat.le_of_ble_eq_true rfl) (wp_shasT hj ?_)
        refine jr_if_eq 21 11 dX9_sheet_8 rfl rfl (fun q => absurd q (by decide)) (fun q8 => ?_)
        refine jr_iload_n 2 12 dX9_sheet_11 rfl rfl rfl ?_
        refine jr_iconst ((-1)) 13 dX9_sheet_12 rfl rfl ?_
        refine jr_icmp_lt 21 16 dX9_sheet_13 rfl rfl (fun q => absurd q (Int32.not_lt.mpr hb.1)) (fun q13 => ?_)
        refine jr_iload_n 2 17 dX9_sheet_16 rfl rfl rfl ?_
        refine jr_iconst (2) 18 dX9_sheet_17 rfl rfl ?_
        refine jr_icmp_le 24 21 dX9_sheet_18 rfl rfl (fun q18 => ?_) (fun q => absurd hb.2 q)
        refine jr_iload_n 2 25 dX9_sheet_24 rfl rfl rfl ?_
        refine jr_iconst ((-1)) 26 dX9_sheet_25 rfl rfl ?_
        refine jr_icmp_ne 41 29 dX9_sheet_26 rfl rfl (fun q => absurd rfl q) (fun q26 => ?_)
        refine jr_aload_n 0 30 dX9_sheet_29 rfl rfl rfl ?_
        refine gf_X9_57 33 dX9_sheet_30 rfl rfl rfl rfl ?_
        refine jr_iload_n 1 34 dX9_sheet_33 rfl rfl rfl ?_
        refine jr_iload_n 2 35 dX9_sheet_34 rfl rfl rfl ?_
        refine jr_iconst (nI 0) 36 dX9_sheet_35 rfl rfl ?_
        refine cs_X9_299 39 dX9_sheet_36 rfl rfl rfl (Nat.le_of_ble_eq_true rfl) (wp_shBecome (n := 0) hj (by omega) (fun σ1 x1 x2 x3 x4 x5 => ?_))
        refine jr_iconst (1) 40 dX9_sheet_39 rfl rfl ?_
        refine jr_ireturn dX9_sheet_40 rfl rfl ?_
        refine jr_enter (L := [some (.ref 46), some (.int (nI j)), some (.int (-1)), some (.int c), none]) (by decide) (Nat.le_of_ble_eq_true rfl) rfl ?_
        refine jr_iload_n 1 1 dX10_sheet_0 rfl rfl rfl ?_
        refine jr_iconst (0) 2 dX10_sheet_1 rfl rfl ?_
        refine jr_iconst (3) 3 dX10_sheet_2 rfl rfl ?_
        refine cs_X10_108 6 dX10_sheet_3 rfl rfl (Nat.le_of_ble_eq_true rfl) (wp_inT (m := 3) (by omega) (by decide) rfl ?_)
        refine jr_if_eq 29 9 dX10_sheet_6 rfl rfl (fun q => absurd q (by decide)) (fun q6 => ?_)
        refine jr_iload_n 2 10 dX10_sheet_9 rfl rfl rfl ?_
        refine jr_iconst ((-1)) 11 dX10_sheet_10 rfl rfl ?_
        refine jr_iconst (2) 12 dX10_sheet_11 rfl rfl ?_
        refine cs_X10_108 15 dX10_sheet_12 rfl rfl (Nat.le_of_ble_eq_true rfl) (wp_in (fun _ _ => ?_) (fun q => absurd hb q))
        refine jr_if_eq 29 18 dX10_sheet_15 rfl rfl (fun q => absurd q (by decide)) (fun q15 => ?_)
        refine jr_iload_n 2 19 dX10_sheet_18 rfl rfl rfl ?_
        refine jr_iconst ((-1)) 20 dX10_sheet_19 rfl rfl ?_
        refine jr_icmp_eq 32 23 dX10_sheet_20 rfl rfl (fun q20 => ?_) (fun q => absurd rfl q)
        refine jr_iload_n 2 33 dX10_sheet_32 rfl rfl rfl ?_
        refine jr_iconst ((-1)) 34 dX10_sheet_33 rfl rfl ?_
        refine jr_icmp_eq 44 37 dX10_sheet_34 rfl rfl (fun q34 => ?_) (fun q => absurd rfl q)
        refine jr_aload_n 0 45 dX10_sheet_44 rfl rfl rfl ?_
        refine gf_X10_40 48 dX10_sheet_45 rfl rfl rfl rfl ?_
        refine jr_iload_n 1 49 dX10_sheet_48 rfl rfl rfl ?_
        refine jr_iload_n 2 50 dX10_sheet_49 rfl rfl rfl ?_
        refine jr_iast rfl rfl (by omega) 51 dX10_sheet_50 rfl ?_
        refine jr_aload_n 0 52 dX10_sheet_51 rfl rfl rfl ?_
        refine gf_X10_43 55 dX10_sheet_52 rfl rfl rfl rfl ?_
        refine jr_iload_n 1 56 dX10_sheet_55 rfl rfl rfl ?_
        refine jr_iload_n 2 57 dX10_sheet_56 rfl rfl rfl ?_
        refine jr_iconst ((-1)) 58 dX10_sheet_57 rfl rfl ?_
        refine jr_icmp_ne 65 61 dX10_sheet_58 rfl rfl (fun q => absurd rfl q) (fun q58 => ?_)
        refine jr_iconst (nI 0) 62 dX10_sheet_61 rfl rfl ?_
        refine jr_goto 66 dX10_sheet_62 rfl ?_
        refine jr_iast rfl rfl (by omega) 67 dX10_sheet_66 rfl ?_
        refine jr_iconst (0) 68 dX10_sheet_67 rfl rfl ?_
        refine jr_istore (L' := [_, _, _, _, _]) 70 dX10_sheet_68 rfl (by decide) rfl ?_
        refine sheet_l hj (fun σ2 r1 r2 r3 => ?_) 40 0 _ (by omega) (fun _ _ => rfl) (fun q hq => absurd hq (Nat.not_lt_zero q)) (fun _ _ => rfl)
        refine ⟨rfl, T, n, nf, nc, kd, se, lw, tp, iv_shs h (fun a ha ha2 => ?_) (fun k hk => ?_) (fun s hs => ?_)⟩
        · simp only [List.mem_cons, not_or] at ha2
          rw [r1 a (by omega)]
          unfold jr_up
          rw [if_neg (by omega), if_neg (by omega)]
          exact x1 a (by simp only [List.mem_cons, not_or]; exact ⟨by omega, by omega, by omega, by simp⟩)
        · rw [r1 46 (by decide)]
          show σ1 46 k = _
          rw [x1 46 (by decide)]
        · have y57 : σ2 57 = upd (σ 57) j (-1) := by rw [r1 57 (by decide)]; show upd (σ1 57) j _ = _; rw [x1 57 (by decide)]
          have y58 : σ2 58 = upd (σ 58) j (nI 0) := by rw [r1 58 (by decide)]; show upd (σ1 58) j _ = _; rw [x1 58 (by decide)]
          have y43 : σ2 43 = upd (σ 43) j (-1) := by rw [r1 43 (by decide)]; exact x2
          have y44 : σ2 44 = upd (σ 44) j (nI 0) := by rw [r1 44 (by decide)]; exact x3
          have y45 : σ2 45 = σ1 45 := r1 45 (by decide)
          by_cases e : s = j
          · subst e
            refine ⟨by rw [y43, y57, pk_us, pk_us], by rw [y44, y58, pk_us, pk_us], by rw [y57, pk_us]; exact hb4, 0, by omega, by rw [y58, pk_us], fun i hi => ?_⟩
            rw [y45, x4 i hi, r2 i (by omega)]
          · exact sh1_mov (hsh s hs) e (fun x hx => by rw [y43, pk_un hx]) (fun x hx => by rw [y44, pk_un hx]) (fun x hx => by rw [y57, pk_un hx]) (fun x hx => by rw [y58, pk_un hx]) (fun q hq => by rw [y45]; exact x5 q hq) (fun q hq => by rw [r3 q hq]; show σ1 59 q = _; rw [x1 59 (by decide)])
      · by_cases hc : 40 < c
        · refine jr_enter (L := [some (.ref 0), some (.int (nI j)), some (.int b), some (.int c)]) (by decide) (Nat.le_of_ble_eq_true rfl) rfl ?_
          refine jr_aload_n 0 1 dX9_sheet_0 rfl rfl rfl ?_
          refine gf_X9_57 4 dX9_sheet_1 rfl rfl rfl rfl ?_
          refine jr_iload_n 1 5 dX9_sheet_4 rfl rfl rfl ?_
          refine cs_X9_298 8 dX9_sheet_5 rfl rfl rfl (Nat.le_of_ble_eq_true rfl) (wp_shasT hj ?_)
          refine jr_if_eq 21 11 dX9_sheet_8 rfl rfl (fun q => absurd q (by decide)) (fun q8 => ?_)
          refine jr_iload_n 2 12 dX9_sheet_11 rfl rfl rfl ?_
          refine jr_iconst ((-1)) 13 dX9_sheet_12 rfl rfl ?_
          refine jr_icmp_lt 21 16 dX9_sheet_13 rfl rfl (fun q => absurd q (Int32.not_lt.mpr hb.1)) (fun q13 => ?_)
          refine jr_iload_n 2 17 dX9_sheet_16 rfl rfl rfl ?_
          refine jr_iconst (2) 18 dX9_sheet_17 rfl rfl ?_
          refine jr_icmp_le 24 21 dX9_sheet_18 rfl rfl (fun q18 => ?_) (fun q => absurd hb.2 q)
          refine jr_iload_n 2 25 dX9_sheet_24 rfl rfl rfl ?_
          refine jr_iconst ((-1)) 26 dX9_sheet_25 rfl rfl ?_
          refine jr_icmp_ne 41 29 dX9_sheet_26 rfl rfl (fun q26 => ?_) (fun q => absurd q hm)
          refine jr_iload_n 3 42 dX9_sheet_41 rfl rfl rfl ?_
          refine jr_bipush (40) 44 dX9_sheet_42 rfl rfl ?_
          refine jr_icmp_le 50 47 dX9_sheet_44 rfl rfl (fun q => absurd hc (Int32.not_lt.mpr q)) (fun q44 => ?_)
          refine jr_bipush ((-2)) 49 dX9_sheet_47 rfl rfl ?_
          refine jr_ireturn dX9_sheet_49 rfl rfl ?_
          refine jr_enter (L := [some (.ref 46), some (.int (nI j)), some (.int b), some (.int c), none]) (by decide) (Nat.le_of_ble_eq_true rfl) rfl ?_
          refine jr_iload_n 1 1 dX10_sheet_0 rfl rfl rfl ?_
          refine jr_iconst (0) 2 dX10_sheet_1 rfl rfl ?_
          refine jr_iconst (3) 3 dX10_sheet_2 rfl rfl ?_
          refine cs_X10_108 6 dX10_sheet_3 rfl rfl (Nat.le_of_ble_eq_true rfl) (wp_inT (m := 3) (by omega) (by decide) rfl ?_)
          refine jr_if_eq 29 9 dX10_sheet_6 rfl rfl (fun q => absurd q (by decide)) (fun q6 => ?_)
          refine jr_iload_n 2 10 dX10_sheet_9 rfl rfl rfl ?_
          refine jr_iconst ((-1)) 11 dX10_sheet_10 rfl rfl ?_
          refine jr_iconst (2) 12 dX10_sheet_11 rfl rfl ?_
          refine cs_X10_108 15 dX10_sheet_12 rfl rfl (Nat.le_of_ble_eq_true rfl) (wp_in (fun _ _ => ?_) (fun q => absurd hb q))
          refine jr_if_eq 29 18 dX10_sheet_15 rfl rfl (fun q => absurd q (by decide)) (fun q15 => ?_)
          refine jr_iload_n 2 19 dX10_sheet_18 rfl rfl rfl ?_
          refine jr_iconst ((-1)) 20 dX10_sheet_19 rfl rfl ?_
          refine jr_icmp_eq 32 23 dX10_sheet_20 rfl rfl (fun q => absurd q hm) (fun q20 => ?_)
          refine jr_iload_n 3 24 dX10_sheet_23 rfl rfl rfl ?_
          refine jr_bipush (40) 26 dX10_sheet_24 rfl rfl ?_
          refine jr_icmp_le 32 29 dX10_sheet_26 rfl rfl (fun q => absurd hc (Int32.not_lt.mpr q)) (fun q26 => ?_)
          refine jr_bipush ((-2)) 31 dX10_sheet_29 rfl rfl ?_
          refine jr_ireturn dX10_sheet_31 rfl rfl ?_
          exact ⟨rfl, IV_mov (iv_same_x (jr_eqx_rf [] _) (by decide)) h⟩
        · by_cases hc0 : c < 0
          · refine jr_enter (L := [some (.ref 0), some (.int (nI j)), some (.int b), some (.int c)]) (by decide) (Nat.le_of_ble_eq_true rfl) rfl ?_
            refine jr_aload_n 0 1 dX9_sheet_0 rfl rfl rfl ?_
            refine gf_X9_57 4 dX9_sheet_1 rfl rfl rfl rfl ?_
            refine jr_iload_n 1 5 dX9_sheet_4 rfl rfl rfl ?_
            refine cs_X9_298 8 dX9_sheet_5 rfl rfl rfl (Nat.le_of_ble_eq_true rfl) (wp_shasT hj ?_)
            refine jr_if_eq 21 11 dX9_sheet_8 rfl rfl (fun q => absurd q (by decide)) (fun q8 => ?_)
            refine jr_iload_n 2 12 dX9_sheet_11 rfl rfl rfl ?_
            refine jr_iconst ((-1)) 13 dX9_sheet_12 rfl rfl ?_
            refine jr_icmp_lt 21 16 dX9_sheet_13 rfl rfl (fun q => absurd q (Int32.not_lt.mpr hb.1)) (fun q13 => ?_)
            refine jr_iload_n 2 17 dX9_sheet_16 rfl rfl rfl ?_
            refine jr_iconst (2) 18 dX9_sheet_17 rfl rfl ?_
            refine jr_icmp_le 24 21 dX9_sheet_18 rfl rfl (fun q18 => ?_) (fun q => absurd hb.2 q)
            refine jr_iload_n 2 25 dX9_sheet_24 rfl rfl rfl ?_
            refine jr_iconst ((-1)) 26 dX9_sheet_25 rfl rfl ?_
            refine jr_icmp_ne 41 29 dX9_sheet_26 rfl rfl (fun q26 => ?_) (fun q => absurd q hm)
            refine jr_iload_n 3 42 dX9_sheet_41 rfl rfl rfl ?_
            refine jr_bipush (40) 44 dX9_sheet_42 rfl rfl ?_
            refine jr_icmp_le 50 47 dX9_sheet_44 rfl rfl (fun q44 => ?_) (fun q => absurd (Int32.not_lt.mp hc) q)
            refine jr_iload_n 3 51 dX9_sheet_50 rfl rfl rfl ?_
            refine jr_if_ge 57 54 dX9_sheet_51 rfl rfl (fun q => absurd hc0 (Int32.not_lt.mpr q)) (fun q51 => ?_)
            refine jr_bipush ((-14)) 56 dX9_sheet_54 rfl rfl ?_
            refine jr_ireturn dX9_sheet_56 rfl rfl ?_
            refine jr_enter (L := [some (.ref 46), some (.int (nI j)), some (.int b), some (.int c), none]) (by decide) (Nat.le_of_ble_eq_true rfl) rfl ?_
            refine jr_iload_n 1 1 dX10_sheet_0 rfl rfl rfl ?_
            refine jr_iconst (0) 2 dX10_sheet_1 rfl rfl ?_
            refine jr_iconst (3) 3 dX10_sheet_2 rfl rfl ?_
            refine cs_X10_108 6 dX10_sheet_3 rfl rfl (Nat.le_of_ble_eq_true rfl) (wp_inT (m := 3) (by omega) (by decide) rfl ?_)
            refine jr_if_eq 29 9 dX10_sheet_6 rfl rfl (fun q => absurd q (by decide)) (fun q6 => ?_)
            refine jr_iload_n 2 10 dX10_sheet_9 rfl rfl rfl ?_
            refine jr_iconst ((-1)) 11 dX10_sheet_10 rfl rfl ?_
            refine jr_iconst (2) 12 dX10_sheet_11 rfl rfl ?_
            refine cs_X10_108 15 dX10_sheet_12 rfl rfl (Nat.le_of_ble_eq_true rfl) (wp_in (fun _ _ => ?_) (fun q => absurd hb q))
            refine jr_if_eq 29 18 dX10_sheet_15 rfl rfl (fun q => absurd q (by decide)) (fun q15 => ?_)
            refine jr_iload_n 2 19 dX10_sheet_18 rfl rfl rfl ?_
            refine jr_iconst ((-1)) 20 dX10_sheet_19 rfl rfl ?_
            refine jr_icmp_eq 32 23 dX10_sheet_20 rfl rfl (fun q => absurd q hm) (fun q20 => ?_)
            refine jr_iload_n 3 24 dX10_sheet_23 rfl rfl rfl ?_
            refine jr_bipush (40) 26 dX10_sheet_24 rfl rfl ?_
            refine jr_icmp_le 32 29 dX10_sheet_26 rfl rfl (fun q26 => ?_) (fun q => absurd (Int32.not_lt.mp hc) q)
            refine jr_iload_n 2 33 dX10_sheet_32 rfl rfl rfl ?_
            refine jr_iconst ((-1)) 34 dX10_sheet_33 rfl rfl ?_
            refine jr_icmp_eq 44 37 dX10_sheet_34 rfl rfl (fun q => absurd q hm) (fun q34 => ?_)
            refine jr_iload_n 3 38 dX10_sheet_37 rfl rfl rfl ?_
            refine jr_if_ge 44 41 dX10_sheet_38 rfl rfl (fun q => absurd hc0 (Int32.not_lt.mpr q)) (fun q38 => ?_)
            refine jr_bipush ((-14)) 43 dX10_sheet_41 rfl rfl ?_
            refine jr_ireturn dX10_sheet_43 rfl rfl ?_
            exact ⟨rfl, IV_mov (iv_same_x (jr_eqx_rf [] _) (by decide)) h⟩
          · obtain ⟨z, hz, rfl⟩ := nI_of hc0
            have hz40 : z ≤ 40 := by
              rcases Nat.lt_or_ge 40 z with q | q
              · exact absurd (nI_lt (a := 40) q hz) hc
              · exact q
            refine jr_enter (L := [some (.ref 0), some (.int (nI j)), some (.int b), some (.int (nI z))]) (by decide) (Nat.le_of_ble_eq_true rfl) rfl ?_
            refine jr_aload_n 0 1 dX9_sheet_0 rfl rfl rfl ?_
            refine gf_X9_57 4 dX9_sheet_1 rfl rfl rfl rfl ?_
            refine jr_iload_n 1 5 dX9_sheet_4 rfl rfl rfl ?_
            refine cs_X9_298 8 dX9_sheet_5 rfl rfl rfl (Nat.le_of_ble_eq_true rfl) (wp_shasT hj ?_)
            refine jr_if_eq 21 11 dX9_sheet_8 rfl rfl (fun q => absurd q (by decide)) (fun q8 => ?_)
            refine jr_iload_n 2 12 dX9_sheet_11 rfl rfl rfl ?_
            refine jr_iconst ((-1)) 13 dX9_sheet_12 rfl rfl ?_
            refine jr_icmp_lt 21 16 dX9_sheet_13 rfl rfl (fun q => absurd q (Int32.not_lt.mpr hb.1)) (fun q13 => ?_)
            refine jr_iload_n 2 17 dX9_sheet_16 rfl rfl rfl ?_
            refine jr_iconst (2) 18 dX9_sheet_17 rfl rfl ?_
            refine jr_icmp_le 24 21 dX9_sheet_18 rfl rfl (fun q18 => ?_) (fun q => absurd hb.2 q)
            refine jr_iload_n 2 25 dX9_sheet_24 rfl rfl rfl ?_
            refine jr_iconst ((-1)) 26 dX9_sheet_25 rfl rfl ?_
            refine jr_icmp_ne 41 29 dX9_sheet_26 rfl rfl (fun q26 => ?_) (fun q => absurd q hm)
            refine jr_iload_n 3 42 dX9_sheet_41 rfl rfl rfl ?_
            refine jr_bipush (40) 44 dX9_sheet_42 rfl rfl ?_
            refine jr_icmp_le 50 47 dX9_sheet_44 rfl rfl (fun q44 => ?_) (fun q => absurd (Int32.not_lt.mp hc) q)
            refine jr_iload_n 3 51 dX9_sheet_50 rfl rfl rfl ?_
            refine jr_if_ge 57 54 dX9_sheet_51 rfl rfl (fun q51 => ?_) (fun q => absurd (nI_pos' (by omega)) q)
            refine jr_aload_n 0 58 dX9_sheet_57 rfl rfl rfl ?_
            refine gf_X9_57 61 dX9_sheet_58 rfl rfl rfl rfl ?_
            refine jr_iload_n 1 62 dX9_sheet_61 rfl rfl rfl ?_
            refine jr_iload_n 2 63 dX9_sheet_62 rfl rfl rfl ?_
            refine jr_iload_n 3 64 dX9_sheet_63 rfl rfl rfl ?_
            refine cs_X9_299 67 dX9_sheet_64 rfl rfl rfl (Nat.le_of_ble_eq_true rfl) (wp_shBecome (n := z) hj (by omega) (fun σ1 x1 x2 x3 x4 x5 => ?_))
            refine jr_iconst (1) 68 dX9_sheet_67 rfl rfl ?_
            refine jr_ireturn dX9_sheet_68 rfl rfl ?_
            refine jr_enter (L := [some (.ref 46), some (.int (nI j)), some (.int b), some (.int (nI z)), none]) (by decide) (Nat.le_of_ble_eq_true rfl) rfl ?_
            refine jr_iload_n 1 1 dX10_sheet_0 rfl rfl rfl ?_
            refine jr_iconst (0) 2 dX10_sheet_1 rfl rfl ?_
            refine jr_iconst (3) 3 dX10_sheet_2 rfl rfl ?_
            refine cs_X10_108 6 dX10_sheet_3 rfl rfl (Nat.le_of_ble_eq_true rfl) (wp_inT (m := 3) (by omega) (by decide) rfl ?_)
            refine jr_if_eq 29 9 dX10_sheet_6 rfl rfl (fun q => absurd q (by decide)) (fun q6 => ?_)
            refine jr_iload_n 2 10 dX10_sheet_9 rfl rfl rfl ?_
            refine jr_iconst ((-1)) 11 dX10_sheet_10 rfl rfl ?_
            refine jr_iconst (2) 12 dX10_sheet_11 rfl rfl ?_
            refine cs_X10_108 15 dX10_sheet_12 rfl rfl (Nat.le_of_ble_eq_true rfl) (wp_in (fun _ _ => ?_) (fun q => absurd hb q))
            refine jr_if_eq 29 18 dX10_sheet_15 rfl rfl (fun q => absurd q (by decide)) (fun q15 => ?_)
            refine jr_iload_n 2 19 dX10_sheet_18 rfl rfl rfl ?_
            refine jr_iconst ((-1)) 20 dX10_sheet_19 rfl rfl ?_
            refine jr_icmp_eq 32 23 dX10_sheet_20 rfl rfl (fun q => absurd q hm) (fun q20 => ?_)
            refine jr_iload_n 3 24 dX10_sheet_23 rfl rfl rfl ?_
            refine jr_bipush (40) 26 dX10_sheet_24 rfl rfl ?_
            refine jr_icmp_le 32 29 dX10_sheet_26 rfl rfl (fun q26 => ?_) (fun q => absurd (Int32.not_lt.mp hc) q)
            refine jr_iload_n 2 33 dX10_sheet_32 rfl rfl rfl ?_
            refine jr_iconst ((-1)) 34 dX10_sheet_33 rfl rfl ?_
            refine jr_icmp_eq 44 37 dX10_sheet_34 rfl rfl (fun q => absurd q hm) (fun q34 => ?_)
            refine jr_iload_n 3 38 dX10_sheet_37 rfl rfl rfl ?_
            refine jr_if_ge 44 41 dX10_sheet_38 rfl rfl (fun q38 => ?_) (fun q => absurd (nI_pos' (by omega)) q)
            refine jr_aload_n 0 45 dX10_sheet_44 rfl rfl rfl ?_
            refine gf_X10_40 48 dX10_sheet_45 rfl rfl rfl rfl ?_
            refine jr_iload_n 1 49 dX10_sheet_48 rfl rfl rfl ?_
            refine jr_iload_n 2 50 dX10_sheet_49 rfl rfl rfl ?_
            refine jr_iast rfl rfl (by omega) 51 dX10_sheet_50 rfl ?_
            refine jr_aload_n 0 52 dX10_sheet_51 rfl rfl rfl ?_
            refine gf_X10_43 55 dX10_sheet_52 rfl rfl rfl rfl ?_
            refine jr_iload_n 1 56 dX10_sheet_55 rfl rfl rfl ?_
            refine jr_iload_n 2 57 dX10_sheet_56 rfl rfl rfl ?_
            refine jr_iconst ((-1)) 58 dX10_sheet_57 rfl rfl ?_
            refine jr_icmp_ne 65 61 dX10_sheet_58 rfl rfl (fun q58 => ?_) (fun q => absurd q hm)
            refine jr_iload_n 3 66 dX10_sheet_65 rfl rfl rfl ?_
            refine jr_iast rfl rfl (by omega) 67 dX10_sheet_66 rfl ?_
            refine jr_iconst (0) 68 dX10_sheet_67 rfl rfl ?_
            refine jr_istore (L' := [_, _, _, _, _]) 70 dX10_sheet_68 rfl (by decide) rfl ?_
            refine sheet_l hj (fun σ2 r1 r2 r3 => ?_) 40 0 _ (by omega) (fun _ _ => rfl) (fun q hq => absurd hq (Nat.not_lt_zero q)) (fun _ _ => rfl)
            refine ⟨rfl, T, n, nf, nc, kd, se, lw, tp, iv_shs h (fun a ha ha2 => ?_) (fun k hk => ?_) (fun s hs => ?_)⟩
            · simp only [List.mem_cons, not_or] at ha2
              rw [r1 a (by omega)]
              unfold jr_up
              rw [if_neg (by omega), if_neg (by omega)]
              exact x1 a (by simp only [List.mem_cons, not_or]; exact ⟨by omega, by omega, by omega, by simp⟩)
            · rw [r1 46 (by decide)]
              show σ1 46 k = _
              rw [x1 46 (by decide)]
            · have y57 : σ2 57 = upd (σ 57) j b := by rw [r1 57 (by decide)]; show upd (σ1 57) j _ = _; rw [x1 57 (by decide)]
              have y58 : σ2 58 = upd (σ 58) j (nI z) := by rw [r1 58 (by decide)]; show upd (σ1 58) j _ = _; rw [x1 58 (by decide)]
              have y43 : σ2 43 = upd (σ 43) j b := by rw [r1 43 (by decide)]; exact x2
              have y44 : σ2 44 = upd (σ 44) j (nI z) := by rw [r1 44 (by decide)]; exact x3
              have y45 : σ2 45 = σ1 45 := r1 45 (by decide)
              by_cases e : s = j
              · subst e
                refine ⟨by rw [y43, y57, pk_us, pk_us], by rw [y44, y58, pk_us, pk_us], by rw [y57, pk_us]; exact hb4, z, by omega, by rw [y58, pk_us], fun i hi => ?_⟩
                rw [y45, x4 i hi, r2 i (by omega)]
              · exact sh1_mov (hsh s hs) e (fun x hx => by rw [y43, pk_un hx]) (fun x hx => by rw [y44, pk_un hx]) (fun x hx => by rw [y57, pk_un hx]) (fun x hx => by rw [y58, pk_un hx]) (fun q hq => by rw [y45]; exact x5 q hq) (fun q hq => by rw [r3 q hq]; show σ1 59 q = _; rw [x1 59 (by decide)])
    · by_cases b1 : b < -1
      · refine jr_enter (L := [some (.ref 0), some (.int (nI j)), some (.int b), some (.int c)]) (by decide) (Nat.le_of_ble_eq_true rfl) rfl ?_
        refine jr_aload_n 0 1 dX9_sheet_0 rfl rfl rfl ?_
        refine gf_X9_57 4 dX9_sheet_1 rfl rfl rfl rfl ?_
        refine jr_iload_n 1 5 dX9_sheet_4 rfl rfl rfl ?_
        refine cs_X9_298 8 dX9_sheet_5 rfl rfl rfl (Nat.le_of_ble_eq_true rfl) (wp_shasT hj ?_)
        refine jr_if_eq 21 11 dX9_sheet_8 rfl rfl (fun q => absurd q (by decide)) (fun q8 => ?_)
        refine jr_iload_n 2 12 dX9_sheet_11 rfl rfl rfl ?_
        refine jr_iconst ((-1)) 13 dX9_sheet_12 rfl rfl ?_
        refine jr_icmp_lt 21 16 dX9_sheet_13 rfl rfl (fun q13 => ?_) (fun q => absurd b1 q)
        refine jr_bipush ((-2)) 23 dX9_sheet_21 rfl rfl ?_
        refine jr_ireturn dX9_sheet_23 rfl rfl ?_
        refine jr_enter (L := [some (.ref 46), some (.int (nI j)), some (.int b), some (.int c), none]) (by decide) (Nat.le_of_ble_eq_true rfl) rfl ?_
        refine jr_iload_n 1 1 dX10_sheet_0 rfl rfl rfl ?_
        refine jr_iconst (0) 2 dX10_sheet_1 rfl rfl ?_
        refine jr_iconst (3) 3 dX10_sheet_2 rfl rfl ?_
        refine cs_X10_108 6 dX10_sheet_3 rfl rfl (Nat.le_of_ble_eq_true rfl) (wp_inT (m := 3) (by omega) (by decide) rfl ?_)
        refine jr_if_eq 29 9 dX10_sheet_6 rfl rfl (fun q => absurd q (by decide)) (fun q6 => ?_)
        refine jr_iload_n 2 10 dX10_sheet_9 rfl rfl rfl ?_
        refine jr_iconst ((-1)) 11 dX10_sheet_10 rfl rfl ?_
        refine jr_iconst (2) 12 dX10_sheet_11 rfl rfl ?_
        refine cs_X10_108 15 dX10_sheet_12 rfl rfl (Nat.le_of_ble_eq_true rfl) (wp_in (fun a b => absurd ⟨a, b⟩ hb) (fun _ => ?_))
        refine jr_if_eq 29 18 dX10_sheet_15 rfl rfl (fun q15 => ?_) (fun q => absurd (by decide) q)
        refine jr_bipush ((-2)) 31 dX10_sheet_29 rfl rfl ?_
        refine jr_ireturn dX10_sheet_31 rfl rfl ?_
        exact ⟨rfl, IV_mov (iv_same_x (jr_eqx_rf [] _) (by decide)) h⟩
      · refine jr_enter (L := [some (.ref 0), some (.int (nI j)), some (.int b), some (.int c)]) (by decide) (Nat.le_of_ble_eq_true rfl) rfl ?_
        refine jr_aload_n 0 1 dX9_sheet_0 rfl rfl rfl ?_
        refine gf_X9_57 4 dX9_sheet_1 rfl rfl rfl rfl ?_
        refine jr_iload_n 1 5 dX9_sheet_4 rfl rfl rfl ?_
        refine cs_X9_298 8 dX9_sheet_5 rfl rfl rfl (Nat.le_of_ble_eq_true rfl) (wp_shasT hj ?_)
        refine jr_if_eq 21 11 dX9_sheet_8 rfl rfl (fun q => absurd q (by decide)) (fun q8 => ?_)
        refine jr_iload_n 2 12 dX9_sheet_11 rfl rfl rfl ?_
        refine jr_iconst ((-1)) 13 dX9_sheet_12 rfl rfl ?_
        refine jr_icmp_lt 21 16 dX9_sheet_13 rfl rfl (fun q => absurd q b1) (fun q13 => ?_)
        refine jr_iload_n 2 17 dX9_sheet_16 rfl rfl rfl ?_
        refine jr_iconst (2) 18 dX9_sheet_17 rfl rfl ?_
        refine jr_icmp_le 24 21 dX9_sheet_18 rfl rfl (fun q => absurd ⟨Int32.not_lt.mp b1, q⟩ hb) (fun q18 => ?_)
        refine jr_bipush ((-2)) 23 dX9_sheet_21 rfl rfl ?_
        refine jr_ireturn dX9_sheet_23 rfl rfl ?_
        refine jr_enter (L := [some (.ref 46), some (.int (nI j)), some (.int b), some (.int c), none]) (by decide) (Nat.le_of_ble_eq_true rfl) rfl ?_
        refine jr_iload_n 1 1 dX10_sheet_0 rfl rfl rfl ?_
        refine jr_iconst (0) 2 dX10_sheet_1 rfl rfl ?_
        refine jr_iconst (3) 3 dX10_sheet_2 rfl rfl ?_
        refine cs_X10_108 6 dX10_sheet_3 rfl rfl (Nat.le_of_ble_eq_true rfl) (wp_inT (m := 3) (by omega) (by decide) rfl ?_)
        refine jr_if_eq 29 9 dX10_sheet_6 rfl rfl (fun q => absurd q (by decide)) (fun q6 => ?_)
        refine jr_iload_n 2 10 dX10_sheet_9 rfl rfl rfl ?_
        refine jr_iconst ((-1)) 11 dX10_sheet_10 rfl rfl ?_
        refine jr_iconst (2) 12 dX10_sheet_11 rfl rfl ?_
        refine cs_X10_108 15 dX10_sheet_12 rfl rfl (Nat.le_of_ble_eq_true rfl) (wp_in (fun a b => absurd ⟨a, b⟩ hb) (fun _ => ?_))
        refine jr_if_eq 29 18 dX10_sheet_15 rfl rfl (fun q15 => ?_) (fun q => absurd (by decide) q)
        refine jr_bipush ((-2)) 31 dX10_sheet_29 rfl rfl ?_
        refine jr_ireturn dX10_sheet_31 rfl rfl ?_
        exact ⟨rfl, IV_mov (iv_same_x (jr_eqx_rf [] _) (by decide)) h⟩
  · refine jr_enter (L := [some (.ref 0), some (.int a), some (.int b), some (.int c)]) (by decide) (Nat.le_of_ble_eq_true rfl) rfl ?_
    refine jr_aload_n 0 1 dX9_sheet_0 rfl rfl rfl ?_
    refine gf_X9_57 4 dX9_sheet_1 rfl rfl rfl rfl ?_
    refine jr_iload_n 1 5 dX9_sheet_4 rfl rfl rfl ?_
    refine cs_X9_298 8 dX9_sheet_5 rfl rfl rfl (Nat.le_of_ble_eq_true rfl) (wp_shasF ha ?_)
    refine jr_if_eq 21 11 dX9_sheet_8 rfl rfl (fun q8 => ?_) (fun q => absurd (by decide) q)
    refine jr_bipush ((-2)) 23 dX9_sheet_21 rfl rfl ?_
    refine jr_ireturn dX9_sheet_23 rfl rfl ?_
    refine jr_enter (L := [some (.ref 46), some (.int a), some (.int b), some (.int c), none]) (by decide) (Nat.le_of_ble_eq_true rfl) rfl ?_
    refine jr_iload_n 1 1 dX10_sheet_0 rfl rfl rfl ?_
    refine jr_iconst (0) 2 dX10_sheet_1 rfl rfl ?_
    refine jr_iconst (3) 3 dX10_sheet_2 rfl rfl ?_
    refine cs_X10_108 6 dX10_sheet_3 rfl rfl (Nat.le_of_ble_eq_true rfl) (wp_inF ha ?_)
    refine jr_if_eq 29 9 dX10_sheet_6 rfl rfl (fun q6 => ?_) (fun q => absurd (by decide) q)
    refine jr_bipush ((-2)) 31 dX10_sheet_29 rfl rfl ?_
    refine jr_ireturn dX10_sheet_31 rfl rfl ?_
    exact ⟨rfl, IV_mov (iv_same_x (jr_eqx_rf [] _) (by decide)) h⟩
theorem sh_put {σ : jr_Sg} {j i z : Nat} {x : Int32} (hsh : iv_sh σ) (hj : j < 4) (ez : σ 58 j = nI z) (hi : i < z) (hz : z ≤ 40) {σ' : jr_Sg} (g : ∀ a, a ∈ [43, 44, 57, 58] → σ' a = σ a) (g45 : σ' 45 = upd (σ 45) (40 * j + i) x) (g59 : σ' 59 = upd (σ 59) (40 * j + i) x) : iv_sh σ' := fun s hs => by
  obtain ⟨h1, h2, h3, z2, hz2, h4, h5⟩ := hsh s hs
  refine ⟨by rw [g 43 (by decide), g 57 (by decide)]; exact h1, by rw [g 44 (by decide), g 58 (by decide)]; exact h2, by rw [g 57 (by decide)]; exact h3, z2, hz2, by rw [g 58 (by decide)]; exact h4, fun q hq => ?_⟩
  rw [g45, g59]
  by_cases e : 40 * s + q = 40 * j + i
  · rw [e, pk_us, pk_us]
  · rw [pk_un e, pk_un e]; exact h5 q hq
theorem hold_far {x b : Int32} {z : Nat} (e : x = nI z) (hz : z ≤ 40) (q : nI z ≤ b) : ¬ b.toInt + (1 : Int32).toInt ≤ x.toInt := by
  rw [e, nI_int (by omega)]
  have e0 : (1 : Int32).toInt = 1 := by decide
  rw [e0]
  rw [Int32.le_iff_toInt_le, nI_int (by omega)] at q
  omega
theorem in_m1z {a : Int32} {nc : Nat} (h8 : nc ≤ 40) (ha : a < 0 ∨ nI nc ≤ a) : ¬ (0 ≤ a ∧ a ≤ (if nc = 0 then (-1 : Int32) else nI (nc - 1))) := by
  rintro ⟨q1, q2⟩
  rcases ha with z | z
  · exact absurd z (Int32.not_lt.mpr q1)
  · by_cases e : nc = 0
    · rw [if_pos e] at q2; exact absurd (Int32.le_trans q1 q2) (by decide)
    · rw [if_neg e] at q2; exact absurd (Int32.le_trans z q2) (nI_ge (by omega) (by omega))
theorem pp_cell {G : jr_G} {d : Nat} {σ : jr_Sg} {a b v : Int32} (h : IV σ) : jr_pair G (d + 20) mi_X9_cell mi_X10_cell [.int a, .int b, .int v] σ := by
  obtain ⟨T, n, nf, nc, kd, se, lw, tp, h⟩ := h
  have hh := h
  obtain ⟨hTC, hTR, ⟨hsc, hsr, hl1, hl2, hlw, hfc, hli, hca⟩, htp, himg, hsh, hrest, hwd⟩ := hh
  have hnf := hsc.1
  have h5 := hsc.2.1
  have hnc := hsc.2.2.1
  have h8 := hsc.2.2.2.1
  have rnf := hsr.1
  have rnc := hsr.2.2.1
  have hlm := hrest.2.2.2.1
  unfold jr_pair
  by_cases ha : 0 ≤ a ∧ a ≤ 3
  · obtain ⟨j, hj, rfl⟩ := c4 ha
    obtain ⟨e1, e2, e3, z, hz, e4, e5⟩ := hsh j hj
    by_cases hm : σ 57 j = -1
    · refine jr_enter (L := [some (.ref 0), some (.int (nI j)), some (.int b), some (.int v)]) (by decide) (Nat.le_of_ble_eq_true rfl) rfl ?_
      refine jr_aload_n 0 1 dX9_cell_0 rfl rfl rfl ?_
      refine gf_X9_57 4 dX9_cell_1 rfl rfl rfl rfl ?_
      refine jr_iload_n 1 5 dX9_cell_4 rfl rfl rfl ?_
      refine cs_X9_298 8 dX9_cell_5 rfl rfl rfl (Nat.le_of_ble_eq_true rfl) (wp_shasT hj ?_)
      refine jr_if_ne 14 11 dX9_cell_8 rfl rfl (fun q8 => ?_) (fun q => absurd q (by decide))
      refine jr_aload_n 0 15 dX9_cell_14 rfl rfl rfl ?_
      refine gf_X9_57 18 dX9_cell_15 rfl rfl rfl rfl ?_
      refine jr_iload_n 1 19 dX9_cell_18 rfl rfl rfl ?_
      refine cs_X9_312 22 dX9_cell_19 rfl rfl rfl (Nat.le_of_ble_eq_true rfl) (wp_isMissing hj (fun _ => ?_) (fun q => absurd (e1.trans hm) q))
      refine jr_if_eq 28 25 dX9_cell_22 rfl rfl (fun q => absurd q (by decide)) (fun q22 => ?_)
      refine jr_bipush ((-11)) 27 dX9_cell_25 rfl rfl ?_
      refine jr_ireturn dX9_cell_27 rfl rfl ?_
      refine jr_enter (L := [some (.ref 46), some (.int (nI j)), some (.int b), some (.int v)]) (by decide) (Nat.le_of_ble_eq_true rfl) rfl ?_
      refine jr_iload_n 1 1 dX10_cell_0 rfl rfl rfl ?_
      refine jr_iconst (0) 2 dX10_cell_1 rfl rfl ?_
      refine jr_iconst (3) 3 dX10_cell_2 rfl rfl ?_
      refine cs_X10_108 6 dX10_cell_3 rfl rfl (Nat.le_of_ble_eq_true rfl) (wp_inT (m := 3) (by omega) (by decide) rfl ?_)
      refine jr_if_ne 12 9 dX10_cell_6 rfl rfl (fun q6 => ?_) (fun q => absurd q (by decide))
      refine jr_aload_n 0 13 dX10_cell_12 rfl rfl rfl ?_
      refine gf_X10_40 16 dX10_cell_13 rfl rfl rfl rfl ?_
      refine jr_iload_n 1 17 dX10_cell_16 rfl rfl rfl ?_
      refine jr_iald rfl rfl (by omega) 18 dX10_cell_17 rfl ?_
      refine jr_iconst ((-1)) 19 dX10_cell_18 rfl rfl ?_
      refine jr_icmp_ne 25 22 dX10_cell_19 rfl rfl (fun q => absurd hm q) (fun q19 => ?_)
      refine jr_bipush ((-11)) 24 dX10_cell_22 rfl rfl ?_
      refine jr_ireturn dX10_cell_24 rfl rfl ?_
      exact ⟨rfl, IV_mov (iv_same_x (jr_eqx_rf [] _) (by decide)) h⟩
    · have zm : nI z - 1 = if z = 0 then -1 else nI (z - 1) := by
        by_cases y : z = 0
        · rw [if_pos y, y]; decide
        · rw [if_neg y, show (1 : Int32) = nI 1 from rfl, pk_sub (by omega)]
      rcases pk_ix b (n := z) (by omega) with q | q | ⟨i, hi, rfl⟩
      · refine jr_enter (L := [some (.ref 0), some (.int (nI j)), some (.int b), some (.int v)]) (by decide) (Nat.le_of_ble_eq_true rfl) rfl ?_
        refine jr_aload_n 0 1 dX9_cell_0 rfl rfl rfl ?_
        refine gf_X9_57 4 dX9_cell_1 rfl rfl rfl rfl ?_
        refine jr_iload_n 1 5 dX9_cell_4 rfl rfl rfl ?_
        refine cs_X9_298 8 dX9_cell_5 rfl rfl rfl (Nat.le_of_ble_eq_true rfl) (wp_shasT hj ?_)
        refine jr_if_ne 14 11 dX9_cell_8 rfl rfl (fun q8 => ?_) (fun q => absurd q (by decide))
        refine jr_aload_n 0 15 dX9_cell_14 rfl rfl rfl ?_
        refine gf_X9_57 18 dX9_cell_15 rfl rfl rfl rfl ?_
        refine jr_iload_n 1 19 dX9_cell_18 rfl rfl rfl ?_
        refine cs_X9_312 22 dX9_cell_19 rfl rfl rfl (Nat.le_of_ble_eq_true rfl) (wp_isMissing hj (fun q => absurd (e1.symm.trans q) hm) (fun _ => ?_))
        refine jr_if_eq 28 25 dX9_cell_22 rfl rfl (fun q22 => ?_) (fun q => absurd (by decide) q)
        refine jr_aload_n 0 29 dX9_cell_28 rfl rfl rfl ?_
        refine gf_X9_57 32 dX9_cell_29 rfl rfl rfl rfl ?_
        refine jr_iload_n 1 33 dX9_cell_32 rfl rfl rfl ?_
        refine jr_iload_n 2 34 dX9_cell_33 rfl rfl rfl ?_
        refine jr_iconst (1) 35 dX9_cell_34 rfl rfl ?_
        refine cs_X9_315 38 dX9_cell_35 rfl rfl rfl (Nat.le_of_ble_eq_true rfl) (wp_holds hj (fun y _ _ => absurd q (Int32.not_lt.mpr y)) (fun _ => ?_))
        refine jr_if_ne 44 41 dX9_cell_38 rfl rfl (fun q => absurd (by decide) q) (fun q38 => ?_)
        refine jr_bipush ((-12)) 43 dX9_cell_41 rfl rfl ?_
        refine jr_ireturn dX9_cell_43 rfl rfl ?_
        refine jr_enter (L := [some (.ref 46), some (.int (nI j)), some (.int b), some (.int v)]) (by decide) (Nat.le_of_ble_eq_true rfl) rfl ?_
        refine jr_iload_n 1 1 dX10_cell_0 rfl rfl rfl ?_
        refine jr_iconst (0) 2 dX10_cell_1 rfl rfl ?_
        refine jr_iconst (3) 3 dX10_cell_2 rfl rfl ?_
        refine cs_X10_108 6 dX10_cell_3 rfl rfl (Nat.le_of_ble_eq_true rfl) (wp_inT (m := 3) (by omega) (by decide) rfl ?_)
        refine jr_if_ne 12 9 dX10_cell_6 rfl rfl (fun q6 => ?_) (fun q => absurd q (by decide))
        refine jr_aload_n 0 13 dX10_cell_12 rfl rfl rfl ?_
        refine gf_X10_40 16 dX10_cell_13 rfl rfl rfl rfl ?_
        refine jr_iload_n 1 17 dX10_cell_16 rfl rfl rfl ?_
        refine jr_iald rfl rfl (by omega) 18 dX10_cell_17 rfl ?_
        refine jr_iconst ((-1)) 19 dX10_cell_18 rfl rfl ?_
        refine jr_icmp_ne 25 22 dX10_cell_19 rfl rfl (fun q19 => ?_) (fun q => absurd q hm)
        refine jr_iload_n 2 26 dX10_cell_25 rfl rfl rfl ?_
        refine jr_iconst (0) 27 dX10_cell_26 rfl rfl ?_
        refine jr_aload_n 0 28 dX10_cell_27 rfl rfl rfl ?_
        refine gf_X10_43 31 dX10_cell_28 rfl rfl rfl rfl ?_
        refine jr_iload_n 1 32 dX10_cell_31 rfl rfl rfl ?_
        refine jr_iald rfl rfl (by omega) 33 dX10_cell_32 rfl ?_
        rw [e4]
        refine jr_iconst (1) 34 dX10_cell_33 rfl rfl ?_
        refine jr_isub 35 dX10_cell_34 rfl ?_
        rw [zm]
        refine cs_X10_108 38 dX10_cell_35 rfl rfl (Nat.le_of_ble_eq_true rfl) (wp_in (fun y _ => absurd q (Int32.not_lt.mpr y)) (fun _ => ?_))
        refine jr_if_ne 44 41 dX10_cell_38 rfl rfl (fun q => absurd (by decide) q) (fun q38 => ?_)
        refine jr_bipush ((-12)) 43 dX10_cell_41 rfl rfl ?_
        refine jr_ireturn dX10_cell_43 rfl rfl ?_
        exact ⟨rfl, IV_mov (iv_same_x (jr_eqx_rf [] _) (by decide)) h⟩
      · refine jr_enter (L := [some (.ref 0), some (.int (nI j)), some (.int b), some (.int v)]) (by decide) (Nat.le_of_ble_eq_true rfl) rfl ?_
        refine jr_aload_n 0 1 dX9_cell_0 rfl rfl rfl ?_
        refine gf_X9_57 4 dX9_cell_1 rfl rfl rfl rfl ?_
        refine jr_iload_n 1 5 dX9_cell_4 rfl rfl rfl ?_
        refine cs_X9_298 8 dX9_cell_5 rfl rfl rfl (Nat.le_of_ble_eq_true rfl) (wp_shasT hj ?_)
        refine jr_if_ne 14 11 dX9_cell_8 rfl rfl (fun q8 => ?_) (fun q => absurd q (by decide))
        refine jr_aload_n 0 15 dX9_cell_14 rfl rfl rfl ?_
        refine gf_X9_57 18 dX9_cell_15 rfl rfl rfl rfl ?_
        refine jr_iload_n 1 19 dX9_cell_18 rfl rfl rfl ?_
        refine cs_X9_312 22 dX9_cell_19 rfl rfl rfl (Nat.le_of_ble_eq_true rfl) (wp_isMissing hj (fun q => absurd (e1.symm.trans q) hm) (fun _ => ?_))
        refine jr_if_eq 28 25 dX9_cell_22 rfl rfl (fun q22 => ?_) (fun q => absurd (by decide) q)
        refine jr_aload_n 0 29 dX9_cell_28 rfl rfl rfl ?_
        refine gf_X9_57 32 dX9_cell_29 rfl rfl rfl rfl ?_
        refine jr_iload_n 1 33 dX9_cell_32 rfl rfl rfl ?_
        refine jr_iload_n 2 34 dX9_cell_33 rfl rfl rfl ?_
        refine jr_iconst (1) 35 dX9_cell_34 rfl rfl ?_
        refine cs_X9_315 38 dX9_cell_35 rfl rfl rfl (Nat.le_of_ble_eq_true rfl) (wp_holds hj (fun y _ y2 => absurd y2 (hold_far (e2.trans e4) hz q)) (fun _ => ?_))
        refine jr_if_ne 44 41 dX9_cell_38 rfl rfl (fun q => absurd (by decide) q) (fun q38 => ?_)
        refine jr_bipush ((-12)) 43 dX9_cell_41 rfl rfl ?_
        refine jr_ireturn dX9_cell_43 rfl rfl ?_
        refine jr_enter (L := [some (.ref 46), some (.int (nI j)), some (.int b), some (.int v)]) (by decide) (Nat.le_of_ble_eq_true rfl) rfl ?_
        refine jr_iload_n 1 1 dX10_cell_0 rfl rfl rfl ?_
        refine jr_iconst (0) 2 dX10_cell_1 rfl rfl ?_
        refine jr_iconst (3) 3 dX10_cell_2 rfl rfl ?_
        refine cs_X10_108 6 dX10_cell_3 rfl rfl (Nat.le_of_ble_eq_true rfl) (wp_inT (m := 3) (by omega) (by decide) rfl ?_)
        refine jr_if_ne 12 9 dX10_cell_6 rfl rfl (fun q6 => ?_) (fun q => absurd q (by decide))
        refine jr_aload_n 0 13 dX10_cell_12 rfl rfl rfl ?_
        refine gf_X10_40 16 dX10_cell_13 rfl rfl rfl rfl ?_
        refine jr_iload_n 1 17 dX10_cell_16 rfl rfl rfl ?_
        refine jr_iald rfl rfl (by omega) 18 dX10_cell_17 rfl ?_
        refine jr_iconst ((-1)) 19 dX10_cell_18 rfl rfl ?_
        refine jr_icmp_ne 25 22 dX10_cell_19 rfl rfl (fun q19 => ?_) (fun q => absurd q hm)
        refine jr_iload_n 2 26 dX10_cell_25 rfl rfl rfl ?_
        refine jr_iconst (0) 27 dX10_cell_26 rfl rfl ?_
        refine jr_aload_n 0 28 dX10_cell_27 rfl rfl rfl ?_
        refine gf_X10_43 31 dX10_cell_28 rfl rfl rfl rfl ?_
        refine jr_iload_n 1 32 dX10_cell_31 rfl rfl rfl ?_
        refine jr_iald rfl rfl (by omega) 33 dX10_cell_32 rfl ?_
        rw [e4]
        refine jr_iconst (1) 34 dX10_cell_33 rfl rfl ?_
        refine jr_isub 35 dX10_cell_34 rfl ?_
        rw [zm]
        refine cs_X10_108 38 dX10_cell_35 rfl rfl (Nat.le_of_ble_eq_true rfl) (wp_in (fun y1 y2 => absurd ⟨y1, y2⟩ (in_m1z hz (Or.inr q))) (fun _ => ?_))
        refine jr_if_ne 44 41 dX10_cell_38 rfl rfl (fun q => absurd (by decide) q) (fun q38 => ?_)
        refine jr_bipush ((-12)) 43 dX10_cell_41 rfl rfl ?_
        refine jr_ireturn dX10_cell_43 rfl rfl ?_
        exact ⟨rfl, IV_mov (iv_same_x (jr_eqx_rf [] _) (by decide)) h⟩
      · refine jr_enter (L := [some (.ref 0), some (.int (nI j)), some (.int (nI i)), some (.int v)]) (by decide) (Nat.le_of_ble_eq_true rfl) rfl ?_
        refine jr_aload_n 0 1 dX9_cell_0 rfl rfl rfl ?_
        refine gf_X9_57 4 dX9_cell_1 rfl rfl rfl rfl ?_
        refine jr_iload_n 1 5 dX9_cell_4 rfl rfl rfl ?_
        refine cs_X9_298 8 dX9_cell_5 rfl rfl rfl (Nat.le_of_ble_eq_true rfl) (wp_shasT hj ?_)
        refine jr_if_ne 14 11 dX9_cell_8 rfl rfl (fun q8 => ?_) (fun q => absurd q (by decide))
        refine jr_aload_n 0 15 dX9_cell_14 rfl rfl rfl ?_
        refine gf_X9_57 18 dX9_cell_15 rfl rfl rfl rfl ?_
        refine jr_iload_n 1 19 dX9_cell_18 rfl rfl rfl ?_
        refine cs_X9_312 22 dX9_cell_19 rfl rfl rfl (Nat.le_of_ble_eq_true rfl) (wp_isMissing hj (fun q => absurd (e1.symm.trans q) hm) (fun _ => ?_))
        refine jr_if_eq 28 25 dX9_cell_22 rfl rfl (fun q22 => ?_) (fun q => absurd (by decide) q)
        refine jr_aload_n 0 29 dX9_cell_28 rfl rfl rfl ?_
        refine gf_X9_57 32 dX9_cell_29 rfl rfl rfl rfl ?_
        refine jr_iload_n 1 33 dX9_cell_32 rfl rfl rfl ?_
        refine jr_iload_n 2 34 dX9_cell_33 rfl rfl rfl ?_
        refine jr_iconst (nI 1) 35 dX9_cell_34 rfl rfl ?_
        refine cs_X9_315 38 dX9_cell_35 rfl rfl rfl (Nat.le_of_ble_eq_true rfl) (wp_holdsT (n := 1) hj (e2.trans e4) hz (by omega) ?_)
        refine jr_if_ne 44 41 dX9_cell_38 rfl rfl (fun q38 => ?_) (fun q => absurd q (by decide))
        refine jr_aload_n 0 45 dX9_cell_44 rfl rfl rfl ?_
        refine gf_X9_57 48 dX9_cell_45 rfl rfl rfl rfl ?_
        refine jr_iload_n 1 49 dX9_cell_48 rfl rfl rfl ?_
        refine jr_iload_n 2 50 dX9_cell_49 rfl rfl rfl ?_
        refine jr_iload_n 3 51 dX9_cell_50 rfl rfl rfl ?_
        refine cs_X9_301 54 dX9_cell_51 rfl rfl rfl (Nat.le_of_ble_eq_true rfl) (wp_put hj (e2.trans e4) hz hi ?_)
        refine jr_iconst (1) 55 dX9_cell_54 rfl rfl ?_
        refine jr_ireturn dX9_cell_55 rfl rfl ?_
        refine jr_enter (L := [some (.ref 46), some (.int (nI j)), some (.int (nI i)), some (.int v)]) (by decide) (Nat.le_of_ble_eq_true rfl) rfl ?_
        refine jr_iload_n 1 1 dX10_cell_0 rfl rfl rfl ?_
        refine jr_iconst (nI 0) 2 dX10_cell_1 rfl rfl ?_
        refine jr_iconst (nI 3) 3 dX10_cell_2 rfl rfl ?_
        refine cs_X10_108 6 dX10_cell_3 rfl rfl (Nat.le_of_ble_eq_true rfl) (wp_inT (m := 3) (by omega) (by decide) rfl ?_)
        refine jr_if_ne 12 9 dX10_cell_6 rfl rfl (fun q6 => ?_) (fun q => absurd q (by decide))
        refine jr_aload_n 0 13 dX10_cell_12 rfl rfl rfl ?_
        refine gf_X10_40 16 dX10_cell_13 rfl rfl rfl rfl ?_
        refine jr_iload_n 1 17 dX10_cell_16 rfl rfl rfl ?_
        refine jr_iald rfl rfl (by omega) 18 dX10_cell_17 rfl ?_
        refine jr_iconst ((-1)) 19 dX10_cell_18 rfl rfl ?_
        refine jr_icmp_ne 25 22 dX10_cell_19 rfl rfl (fun q19 => ?_) (fun q => absurd q hm)
        refine jr_iload_n 2 26 dX10_cell_25 rfl rfl rfl ?_
        refine jr_iconst (nI 0) 27 dX10_cell_26 rfl rfl ?_
        refine jr_aload_n 0 28 dX10_cell_27 rfl rfl rfl ?_
        refine gf_X10_43 31 dX10_cell_28 rfl rfl rfl rfl ?_
        refine jr_iload_n 1 32 dX10_cell_31 rfl rfl rfl ?_
        refine jr_iald rfl rfl (by omega) 33 dX10_cell_32 rfl ?_
        refine jr_topi (y := nI z) e4 ?_
        refine jr_iconst (1) 34 dX10_cell_33 rfl rfl ?_
        refine jr_isub 35 dX10_cell_34 rfl ?_
        rw [zm]
        refine cs_X10_108 38 dX10_cell_35 rfl rfl (Nat.le_of_ble_eq_true rfl) (wp_in (fun _ _ => ?_) (fun q => absurd ⟨nI_pos' (by omega), by rw [if_neg (by omega)]; exact nI_le (by omega) (by omega)⟩ q))
        refine jr_if_ne 44 41 dX10_cell_38 rfl rfl (fun q38 => ?_) (fun q => absurd q (by decide))
        refine jr_aload_n 0 45 dX10_cell_44 rfl rfl rfl ?_
        refine gf_X10_46 48 dX10_cell_45 rfl rfl rfl rfl ?_
        refine jr_bipush (nI 40) 50 dX10_cell_48 rfl rfl ?_
        refine jr_iload_n 1 51 dX10_cell_50 rfl rfl rfl ?_
        refine jr_imul 52 dX10_cell_51 rfl ?_
        refine jr_iload_n 2 53 dX10_cell_52 rfl rfl rfl ?_
        refine jr_iadd 54 dX10_cell_53 rfl ?_
        refine jr_aload_n 0 55 dX10_cell_54 rfl rfl rfl ?_
        refine gf_X10_40 58 dX10_cell_55 rfl rfl rfl rfl ?_
        refine jr_iload_n 1 59 dX10_cell_58 rfl rfl rfl ?_
        refine jr_iald rfl rfl (by omega) 60 dX10_cell_59 rfl ?_
        refine jr_if_ne 68 63 dX10_cell_60 rfl rfl (fun q60 => ?_) (fun q60 => ?_)
        · refine jr_aload_n 0 69 dX10_cell_68 rfl rfl rfl ?_
          refine gf_X10_40 72 dX10_cell_69 rfl rfl rfl rfl ?_
          refine jr_iload_n 1 73 dX10_cell_72 rfl rfl rfl ?_
          refine jr_iald rfl rfl (by omega) 74 dX10_cell_73 rfl ?_
          refine jr_iconst (1) 75 dX10_cell_74 rfl rfl ?_
          refine jr_icmp_ne 83 78 dX10_cell_75 rfl rfl (fun q75 => ?_) (fun q75 => ?_)
          · refine jr_iload_n 3 84 dX10_cell_83 rfl rfl rfl ?_
            refine jr_iast rfl (ix40' j i) (by omega) 85 dX10_cell_84 rfl ?_
            refine jr_iconst (1) 86 dX10_cell_85 rfl rfl ?_
            refine jr_ireturn dX10_cell_86 rfl rfl ?_
            refine ⟨rfl, T, n, nf, nc, kd, se, lw, tp, iv_shs h (fun a ha ha2 => ?_) (fun k hk => rfl) (sh_put (x := pv (σ 57 j) v) hsh hj e4 hi hz (fun a ha => ?_) ?_ ?_)⟩
            · simp only [List.mem_cons, not_or] at ha2
              unfold jr_up
              rw [if_neg (by omega), if_neg (by omega)]
            · simp only [List.mem_cons, List.not_mem_nil, or_false] at ha
              unfold jr_up
              rw [if_neg (by omega), if_neg (by omega)]
            · show upd (σ 45) (40 * j + i) (pv (σ 43 j) v) = _
              rw [e1]
            · show upd (σ 59) (40 * j + i) _ = _
              unfold pv
              first | (have u1 : ¬ σ 57 j = 0 := q60; have u2 : ¬ σ 57 j = 1 := q75; rw [if_neg u1, if_neg u2]) | (have u1 : ¬ σ 57 j = 0 := q60; have u2 : σ 57 j = 1 := q75; rw [if_neg u1, if_pos u2]) | (have u1 : σ 57 j = 0 := q60; rw [if_pos u1])
          · refine jr_iload_n 3 79 dX10_cell_78 rfl rfl rfl ?_
            refine jr_i2s 80 dX10_cell_79 rfl ?_
            refine jr_goto 84 dX10_cell_80 rfl ?_
            refine jr_iast rfl (ix40' j i) (by omega) 85 dX10_cell_84 rfl ?_
            refine jr_iconst (1) 86 dX10_cell_85 rfl rfl ?_
            refine jr_ireturn dX10_cell_86 rfl rfl ?_
            refine ⟨rfl, T, n, nf, nc, kd, se, lw, tp, iv_shs h (fun a ha ha2 => ?_) (fun k hk => rfl) (sh_put (x := pv (σ 57 j) v) hsh hj e4 hi hz (fun a ha => ?_) ?_ ?_)⟩
            · simp only [List.mem_cons, not_or] at ha2
              unfold jr_up
              rw [if_neg (by omega), if_neg (by omega)]
            · simp only [List.mem_cons, List.not_mem_nil, or_false] at ha
              unfold jr_up
              rw [if_neg (by omega), if_neg (by omega)]
            · show upd (σ 45) (40 * j + i) (pv (σ 43 j) v) = _
              rw [e1]
            · show upd (σ 59) (40 * j + i) _ = _
              unfold pv
              first | (have u1 : ¬ σ 57 j = 0 := q60; have u2 : ¬ σ 57 j = 1 := q75; rw [if_neg u1, if_neg u2]) | (have u1 : ¬ σ 57 j = 0 := q60; have u2 : σ 57 j = 1 := q75; rw [if_neg u1, if_pos u2]) | (have u1 : σ 57 j = 0 := q60; rw [if_pos u1])
        · refine jr_iload_n 3 64 dX10_cell_63 rfl rfl rfl ?_
          refine jr_i2b 65 dX10_cell_64 rfl ?_
          refine jr_goto 84 dX10_cell_65 rfl ?_
          refine jr_iast rfl (ix40' j i) (by omega) 85 dX10_cell_84 rfl ?_
          refine jr_iconst (1) 86 dX10_cell_85 rfl rfl ?_
          refine jr_ireturn dX10_cell_86 rfl rfl ?_
          refine ⟨rfl, T, n, nf, nc, kd, se, lw, tp, iv_shs h (fun a ha ha2 => ?_) (fun k hk => rfl) (sh_put (x := pv (σ 57 j) v) hsh hj e4 hi hz (fun a ha => ?_) ?_ ?_)⟩
          · simp only [List.mem_cons, not_or] at ha2
            unfold jr_up
            rw [if_neg (by omega), if_neg (by omega)]
          · simp only [List.mem_cons, List.not_mem_nil, or_false] at ha
            unfold jr_up
            rw [if_neg (by omega), if_neg (by omega)]
          · show upd (σ 45) (40 * j + i) (pv (σ 43 j) v) = _
            rw [e1]
          · show upd (σ 59) (40 * j + i) _ = _
            unfold pv
            first | (have u1 : ¬ σ 57 j = 0 := q60; have u2 : ¬ σ 57 j = 1 := q75; rw [if_neg u1, if_neg u2]) | (have u1 : ¬ σ 57 j = 0 := q60; have u2 : σ 57 j = 1 := q75; rw [if_neg u1, if_pos u2]) | (have u1 : σ 57 j = 0 := q60; rw [if_pos u1])
  · refine jr_enter (L := [some (.ref 0), some (.int a), some (.int b), some (.int v)]) (by decide) (Nat.le_of_ble_eq_true rfl) rfl ?_
    refine jr_aload_n 0 1 dX9_cell_0 rfl rfl rfl ?_
    refine gf_X9_57 4 dX9_cell_1 rfl rfl rfl rfl ?_
    refine jr_iload_n 1 5 dX9_cell_4 rfl rfl rfl ?_
    refine cs_X9_298 8 dX9_cell_5 rfl rfl rfl (Nat.le_of_ble_eq_true rfl) (wp_shasF ha ?_)
    refine jr_if_ne 14 11 dX9_cell_8 rfl rfl (fun q => absurd (by decide) q) (fun q8 => ?_)
    refine jr_bipush ((-2)) 13 dX9_cell_11 rfl rfl ?_
    refine jr_ireturn dX9_cell_13 rfl rfl ?_
    refine jr_enter (L := [some (.ref 46), some (.int a), some (.int b), some (.int v)]) (by decide) (Nat.le_of_ble_eq_true rfl) rfl ?_
    refine jr_iload_n 1 1 dX10_cell_0 rfl rfl rfl ?_
    refine jr_iconst (0) 2 dX10_cell_1 rfl rfl ?_
    refine jr_iconst (3) 3 dX10_cell_2 rfl rfl ?_
    refine cs_X10_108 6 dX10_cell_3 rfl rfl (Nat.le_of_ble_eq_true rfl) (wp_inF ha ?_)
    refine jr_if_ne 12 9 dX10_cell_6 rfl rfl (fun q => absurd (by decide) q) (fun q6 => ?_)
    refine jr_bipush ((-2)) 11 dX10_cell_9 rfl rfl ?_
    refine jr_ireturn dX10_cell_11 rfl rfl ?_
    exact ⟨rfl, IV_mov (iv_same_x (jr_eqx_rf [] _) (by decide)) h⟩
theorem film_x {G : jr_G} {d : Nat} {σ : jr_Sg} {k : Value → jr_Sg → Prop} {T : Nat → Nat → List Nat} {n nf nc lw tp j f z : Nat} {kd se : Nat → Nat} (h : iv T n nf nc kd se lw tp σ) (hj : j < 4) (hf : f < nf) (hz : z ≤ 8) {σ1 : jr_Sg} (h43 : σ1 43 j = 2) (h44 : σ1 44 j = nI z) (hp : pd σ1 (5 * z) f (pr_rf kd se σ f) (sm_R T lw nf nc kd se σ f)) (fin : ∀ σ2 : jr_Sg, (∀ a, a ≠ 45 → σ2 a = σ1 a) → (∀ q, q < z → σ2 45 (40 * j + q) = (sm_R T lw nf nc kd se σ f (5 * (q + 1))).1) → (∀ q, q < 40 * j ∨ 40 * j + 40 ≤ q → σ2 45 q = σ1 45 q) → k (.int (nI z)) σ2) : ∀ (m i : Nat) (σ2 : jr_Sg), i + m = z → (∀ a, a ≠ 45 → σ2 a = σ1 a) → (∀ q, q < i → σ2 45 (40 * j + q) = (sm_R T lw nf nc kd se σ f (5 * (q + 1))).1) → (∀ q, q < 40 * j ∨ 40 * j + 40 ≤ q → σ2 45 q = σ1 45 q) → jr_R G (d + 19) mi_X9_film (jr_k k) 61 [some (.ref 0), some (.int (nI j)), some (.int (nI f)), some (.int (nI z)), some (.int (nI i))] [] σ2 := by
  have h5 : nf ≤ 5 := h.2.2.1.2.1.2.1
  intro m
  induction m with
  | zero =>
    intro i σ2 hi g1 g2 g3
    have ei : i = z := hi
    subst ei
    refine jr_iload 63 dX9_film_61 rfl rfl ?_
    refine jr_iload_n 3 64 dX9_film_63 rfl rfl rfl ?_
    refine jr_icmp_ge 97 67 dX9_film_64 rfl rfl (fun q64 => ?_) (fun q => absurd (Int32.le_refl _) q)
    refine jr_iload_n 3 98 dX9_film_97 rfl rfl rfl ?_
    refine jr_ireturn dX9_film_98 rfl rfl ?_
    exact fin σ2 g1 g2 g3
  | succ m ih =>
    intro i σ2 hi g1 g2 g3
    have ew : σ2 12 (5 * (5 * (i + 1)) + f) = (sm_R T lw nf nc kd se σ f (5 * (i + 1))).1 := by rw [g1 12 (by decide)]; exact (hp.2 (5 * (i + 1)) (by omega)).1
    have e43 : σ2 43 j = 2 := by rw [g1 43 (by decide)]; exact h43
    refine jr_iload 63 dX9_film_61 rfl rfl ?_
    refine jr_iload_n 3 64 dX9_film_63 rfl rfl rfl ?_
    refine jr_icmp_ge 97 67 dX9_film_64 rfl rfl (fun q => absurd q (nI_ge (by omega) (by omega))) (fun q64 => ?_)
    refine jr_aload_n 0 68 dX9_film_67 rfl rfl rfl ?_
    refine gf_X9_57 71 dX9_film_68 rfl rfl rfl rfl ?_
    refine jr_iload_n 1 72 dX9_film_71 rfl rfl rfl ?_
    refine jr_iload 74 dX9_film_72 rfl rfl ?_
    refine jr_aload_n 0 75 dX9_film_74 rfl rfl rfl ?_
    refine gf_X9_37 78 dX9_film_75 rfl rfl rfl rfl ?_
    refine jr_iconst (nI 5) 79 dX9_film_78 rfl rfl ?_
    refine jr_iload 81 dX9_film_79 rfl rfl ?_
    refine jr_iconst (nI 1) 82 dX9_film_81 rfl rfl ?_
    refine jr_iadd 83 dX9_film_82 rfl ?_
    refine jr_imul 84 dX9_film_83 rfl ?_
    rw [nI5]
    refine jr_iload_n 2 85 dX9_film_84 rfl rfl rfl ?_
    refine cs_X9_192 88 dX9_film_85 rfl rfl rfl (Nat.le_of_ble_eq_true rfl) (wp_warmthBehind (t := 5 * (i + 1)) (f := f) (by omega) (by omega) ?_)
    rw [ew]
    refine cs_X9_301 91 dX9_film_88 rfl rfl rfl (Nat.le_of_ble_eq_true rfl) (wp_put hj (show σ2 44 j = nI z by rw [g1 44 (by decide)]; exact h44) (by omega) (by omega) ?_)
    refine jr_iinc (v := nI (i + 1)) (L' := [_, _, _, _, _]) 94 dX9_film_91 rfl rfl (nI_1 i) (by decide) rfl ?_
    refine jr_goto 61 dX9_film_94 rfl ?_
    refine ih (i + 1) _ (by omega) (fun a ha => ?_) (fun q hq => ?_) (fun q hq => ?_)
    · unfold jr_up
      rw [if_neg ha]
      exact g1 a ha
    · show upd (σ2 45) (40 * j + i) (pv (σ2 43 j) _) (40 * j + q) = _
      rw [e43]
      by_cases e : q = i
      · subst e; exact pk_us
      · rw [pk_un (by omega)]; exact g2 q (by omega)
    · show upd (σ2 45) (40 * j + i) _ q = _
      rw [pk_un (by omega)]; exact g3 q hq
theorem film_r {G : jr_G} {d : Nat} {σ : jr_Sg} {k : Value → jr_Sg → Prop} {T : Nat → Nat → List Nat} {n nf nc lw tp j f z : Nat} {kd se : Nat → Nat} (h : iv T n nf nc kd se lw tp σ) (hj : j < 4) (hf : f < nf) (hz : z ≤ 8) {σ1 : jr_Sg} (hW : ∀ t, t < 40 → σ1 69 (5 * t + f) = (sm_R T lw nf nc kd se σ f (t + 1)).1) (fin : ∀ σ2 : jr_Sg, (∀ a, a ≠ 59 → σ2 a = σ1 a) → (∀ q, q < z → σ2 59 (40 * j + q) = (sm_R T lw nf nc kd se σ f (5 * (q + 1))).1) → (∀ q, q < 40 * j ∨ 40 * j + 40 ≤ q → σ2 59 q = σ1 59 q) → k (.int (nI z)) σ2) : ∀ (m i : Nat) (σ2 : jr_Sg), i + m = 40 → (∀ a, a ≠ 59 → σ2 a = σ1 a) → (∀ q, q < i → q < z → σ2 59 (40 * j + q) = (sm_R T lw nf nc kd se σ f (5 * (q + 1))).1) → (∀ q, q < 40 * j ∨ 40 * j + 40 ≤ q → σ2 59 q = σ1 59 q) → jr_R G (d + 20) mi_X10_film (jr_k k) 59 [some (.ref 46), some (.int (nI j)), some (.int (nI f)), some (.int (nI z)), some (.int (nI i))] [] σ2 := by
  have h5 : nf ≤ 5 := h.2.2.1.2.1.2.1
  intro m
  induction m with
  | zero =>
    intro i σ2 hi g1 g2 g3
    have ei : i = 40 := hi
    subst ei
    refine jr_iload 61 dX10_film_59 rfl rfl ?_
    refine jr_bipush (nI 40) 63 dX10_film_61 rfl rfl ?_
    refine jr_icmp_ge 109 66 dX10_film_63 rfl rfl (fun q63 => ?_) (fun q => absurd (by decide) q)
    refine jr_iload_n 3 110 dX10_film_109 rfl rfl rfl ?_
    refine jr_ireturn dX10_film_110 rfl rfl ?_
    exact fin σ2 g1 (fun q hq => g2 q (by omega) hq) g3
  | succ m ih =>
    intro i σ2 hi g1 g2 g3
    have ei : nI 5 * (nI 5 * nI i + nI 4) + nI f = nI (5 * (5 * i + 4) + f) := by rw [pk_mul, nI_add, pk_mul, nI_add]
    by_cases hiz : i < z
    · refine jr_iload 61 dX10_film_59 rfl rfl ?_
      refine jr_bipush (nI 40) 63 dX10_film_61 rfl rfl ?_
      refine jr_icmp_ge 109 66 dX10_film_63 rfl rfl (fun z => absurd z (nI_ge (b := 40) (by omega) (by decide))) (fun q63 => ?_)
      refine jr_aload_n 0 67 dX10_film_66 rfl rfl rfl ?_
      refine gf_X10_46 70 dX10_film_67 rfl rfl rfl rfl ?_
      refine jr_bipush (nI 40) 72 dX10_film_70 rfl rfl ?_
      refine jr_iload_n 1 73 dX10_film_72 rfl rfl rfl ?_
      refine jr_imul 74 dX10_film_73 rfl ?_
      refine jr_iload 76 dX10_film_74 rfl rfl ?_
      refine jr_iadd 77 dX10_film_76 rfl ?_
      refine jr_iload 79 dX10_film_77 rfl rfl ?_
      refine jr_iload_n 3 80 dX10_film_79 rfl rfl rfl ?_
      refine jr_icmp_ge 101 83 dX10_film_80 rfl rfl (fun q => absurd q (nI_ge (by omega) (by omega))) (fun q80 => ?_)
      refine jr_aload_n 0 84 dX10_film_83 rfl rfl rfl ?_
      refine gf_X10_76 87 dX10_film_84 rfl rfl rfl rfl ?_
      refine jr_iconst (nI 5) 88 dX10_film_87 rfl rfl ?_
      refine jr_iconst (nI 5) 89 dX10_film_88 rfl rfl ?_
      refine jr_iload 91 dX10_film_89 rfl rfl ?_
      refine jr_imul 92 dX10_film_91 rfl ?_
      refine jr_iconst (nI 4) 93 dX10_film_92 rfl rfl ?_
      refine jr_iadd 94 dX10_film_93 rfl ?_
      refine jr_imul 95 dX10_film_94 rfl ?_
      refine jr_iload_n 2 96 dX10_film_95 rfl rfl rfl ?_
      refine jr_iadd 97 dX10_film_96 rfl ?_
      refine jr_iald rfl ei (by omega) 98 dX10_film_97 rfl ?_
      refine jr_topi (y := (sm_R T lw nf nc kd se σ f (5 * (i + 1))).1) (by rw [g1 69 (by decide)]; exact hW (5 * i + 4) (by omega)) ?_
      refine jr_goto 102 dX10_film_98 rfl ?_
      refine jr_iast rfl (ix40' j i) (by omega) 103 dX10_film_102 rfl ?_
      refine jr_iinc (v := nI (i + 1)) (L' := [_, _, _, _, _]) 106 dX10_film_103 rfl rfl (nI_1 i) (by decide) rfl ?_
      refine jr_goto 59 dX10_film_106 rfl ?_
      refine ih (i + 1) _ (by omega) (fun a ha => ?_) (fun q hq hq2 => ?_) (fun q hq => ?_)
      · unfold jr_up
        rw [if_neg ha]
        exact g1 a ha
      · show upd (σ2 59) (40 * j + i) _ (40 * j + q) = _
        by_cases e : q = i
        · subst e; exact pk_us
        · rw [pk_un (by omega)]; exact g2 q (by omega) hq2
      · show upd (σ2 59) (40 * j + i) _ q = _
        rw [pk_un (by omega)]; exact g3 q hq
    · refine jr_iload 61 dX10_film_59 rfl rfl ?_
      refine jr_bipush (nI 40) 63 dX10_film_61 rfl rfl ?_
      refine jr_icmp_ge 109 66 dX10_film_63 rfl rfl (fun z => absurd z (nI_ge (b := 40) (by omega) (by decide))) (fun q63 => ?_)
      refine jr_aload_n 0 67 dX10_film_66 rfl rfl rfl ?_
      refine gf_X10_46 70 dX10_film_67 rfl rfl rfl rfl ?_
      refine jr_bipush (nI 40) 72 dX10_film_70 rfl rfl ?_
      refine jr_iload_n 1 73 dX10_film_72 rfl rfl rfl ?_
      refine jr_imul 74 dX10_film_73 rfl ?_
      refine jr_iload 76 dX10_film_74 rfl rfl ?_
      refine jr_iadd 77 dX10_film_76 rfl ?_
      refine jr_iload 79 dX10_film_77 rfl rfl ?_
      refine jr_iload_n 3 80 dX10_film_79 rfl rfl rfl ?_
      refine jr_icmp_ge 101 83 dX10_film_80 rfl rfl (fun q80 => ?_) (fun q => absurd (nI_le (by omega) (by omega)) q)
      refine jr_iconst (0) 102 dX10_film_101 rfl rfl ?_
      refine jr_iast rfl (ix40' j i) (by omega) 103 dX10_film_102 rfl ?_
      refine jr_iinc (v := nI (i + 1)) (L' := [_, _, _, _, _]) 106 dX10_film_103 rfl rfl (nI_1 i) (by decide) rfl ?_
      refine jr_goto 59 dX10_film_106 rfl ?_
      refine ih (i + 1) _ (by omega) (fun a ha => ?_) (fun q hq hq2 => ?_) (fun q hq => ?_)
      · unfold jr_up
        rw [if_neg ha]
        exact g1 a ha
      · show upd (σ2 59) (40 * j + i) _ (40 * j + q) = _
        rw [pk_un (by omega)]; exact g2 q (by omega) hq2
      · show upd (σ2 59) (40 * j + i) _ q = _
        rw [pk_un (by omega)]; exact g3 q hq
theorem pp_film {G : jr_G} {d : Nat} {σ : jr_Sg} {a f c : Int32} (h : IV σ) : jr_pair G (d + 20) mi_X9_film mi_X10_film [.int a, .int f, .int c] σ := by
  obtain ⟨T, n, nf, nc, kd, se, lw, tp, h⟩ := h
  have hh := h
  obtain ⟨hTC, hTR, ⟨hsc, hsr, hl1, hl2, hlw, hfc, hli, hca⟩, htp, himg, hsh, hrest, hwd⟩ := hh
  have hnf := hsc.1
  have h5 := hsc.2.1
  have hnc := hsc.2.2.1
  have h8 := hsc.2.2.2.1
  have rnf := hsr.1
  have rnc := hsr.2.2.1
  have hlm := hrest.2.2.2.1
  unfold jr_pair
  by_cases ha : 0 ≤ a ∧ a ≤ 3
  · obtain ⟨i0, hi0, rfl⟩ := c4 ha
    rcases jr_fc f h5 with hf | ⟨j, hj, rfl⟩
    · refine jr_enter (L := [some (.ref 0), some (.int (nI i0)), some (.int f), some (.int c), none]) (by decide) (Nat.le_of_ble_eq_true rfl) rfl ?_
      refine jr_aload_n 0 1 dX9_film_0 rfl rfl rfl ?_
      refine gf_X9_57 4 dX9_film_1 rfl rfl rfl rfl ?_
      refine jr_iload_n 1 5 dX9_film_4 rfl rfl rfl ?_
      refine cs_X9_298 8 dX9_film_5 rfl rfl rfl (Nat.le_of_ble_eq_true rfl) (wp_shasT hi0 ?_)
      refine jr_if_ne 14 11 dX9_film_8 rfl rfl (fun q8 => ?_) (fun q => absurd q (by decide))
      refine jr_aload_n 0 15 dX9_film_14 rfl rfl rfl ?_
      refine gf_X9_44 18 dX9_film_15 rfl rfl rfl rfl ?_
      refine jr_iload_n 2 19 dX9_film_18 rfl rfl rfl ?_
      refine cs_X9_146 22 dX9_film_19 rfl rfl rfl (Nat.le_of_ble_eq_true rfl) (wp_has_15 hnf h5 (fun j hj e => absurd hf (by rw [e]; exact jr_fcn hj (by omega))) (fun _ => ?_))
      refine jr_if_ne 28 25 dX9_film_22 rfl rfl (fun q => absurd (by decide) q) (fun q22 => ?_)
      refine jr_bipush ((-5)) 27 dX9_film_25 rfl rfl ?_
      refine jr_ireturn dX9_film_27 rfl rfl ?_
      refine jr_enter (L := [some (.ref 46), some (.int (nI i0)), some (.int f), some (.int c), none]) (by decide) (Nat.le_of_ble_eq_true rfl) rfl ?_
      refine jr_iload_n 1 1 dX10_film_0 rfl rfl rfl ?_
      refine jr_iconst (0) 2 dX10_film_1 rfl rfl ?_
      refine jr_iconst (3) 3 dX10_film_2 rfl rfl ?_
      refine cs_X10_108 6 dX10_film_3 rfl rfl (Nat.le_of_ble_eq_true rfl) (wp_inT (m := 3) (by omega) (by decide) rfl ?_)
      refine jr_if_ne 12 9 dX10_film_6 rfl rfl (fun q6 => ?_) (fun q => absurd q (by decide))
      refine jr_aload_n 0 13 dX10_film_12 rfl rfl rfl ?_
      refine jr_iload_n 2 14 dX10_film_13 rfl rfl rfl ?_
      refine cs_X10_204 17 dX10_film_14 rfl rfl rfl (Nat.le_of_ble_eq_true rfl) (wp_isFace rnf h5 (fun j hj e => absurd hf (by rw [e]; exact jr_fcn hj (by omega))) (fun _ => ?_))
      refine jr_if_ne 23 20 dX10_film_17 rfl rfl (fun q => absurd (by decide) q) (fun q17 => ?_)
      refine jr_bipush ((-5)) 22 dX10_film_20 rfl rfl ?_
      refine jr_ireturn dX10_film_22 rfl rfl ?_
      exact ⟨rfl, IV_mov (iv_same_x (jr_eqx_rf [] _) (by decide)) h⟩
    · rcases jr_rg c (m := 8) (by decide) with qz | ⟨z, hz, rfl⟩
      · refine jr_enter (L := [some (.ref 0), some (.int (nI i0)), some (.int (nI j)), some (.int c), none]) (by decide) (Nat.le_of_ble_eq_true rfl) rfl ?_
        refine jr_aload_n 0 1 dX9_film_0 rfl rfl rfl ?_
        refine gf_X9_57 4 dX9_film_1 rfl rfl rfl rfl ?_
        refine jr_iload_n 1 5 dX9_film_4 rfl rfl rfl ?_
        refine cs_X9_298 8 dX9_film_5 rfl rfl rfl (Nat.le_of_ble_eq_true rfl) (wp_shasT hi0 ?_)
        refine jr_if_ne 14 11 dX9_film_8 rfl rfl (fun q8 => ?_) (fun q => absurd q (by decide))
        refine jr_aload_n 0 15 dX9_film_14 rfl rfl rfl ?_
        refine gf_X9_44 18 dX9_film_15 rfl rfl rfl rfl ?_
        refine jr_iload_n 2 19 dX9_film_18 rfl rfl rfl ?_
        refine cs_X9_146 22 dX9_film_19 rfl rfl rfl (Nat.le_of_ble_eq_true rfl) (wp_hasT_15 hnf h5 hj ?_)
        refine jr_if_ne 28 25 dX9_film_22 rfl rfl (fun q22 => ?_) (fun q => absurd q (by decide))
        refine jr_iload_n 3 29 dX9_film_28 rfl rfl rfl ?_
        refine jr_bipush (8) 31 dX9_film_29 rfl rfl ?_
        refine cs_X9_104 34 dX9_film_31 rfl rfl (Nat.le_of_ble_eq_true rfl) (wp_wiF qz ?_)
        refine jr_if_ne 40 37 dX9_film_34 rfl rfl (fun q => absurd (by decide) q) (fun q34 => ?_)
        refine jr_bipush ((-7)) 39 dX9_film_37 rfl rfl ?_
        refine jr_ireturn dX9_film_39 rfl rfl ?_
        refine jr_enter (L := [some (.ref 46), some (.int (nI i0)), some (.int (nI j)), some (.int c), none]) (by decide) (Nat.le_of_ble_eq_true rfl) rfl ?_
        refine jr_iload_n 1 1 dX10_film_0 rfl rfl rfl ?_
        refine jr_iconst (0) 2 dX10_film_1 rfl rfl ?_
        refine jr_iconst (3) 3 dX10_film_2 rfl rfl ?_
        refine cs_X10_108 6 dX10_film_3 rfl rfl (Nat.le_of_ble_eq_true rfl) (wp_inT (m := 3) (by omega) (by decide) rfl ?_)
        refine jr_if_ne 12 9 dX10_film_6 rfl rfl (fun q6 => ?_) (fun q => absurd q (by decide))
        refine jr_aload_n 0 13 dX10_film_12 rfl rfl rfl ?_
        refine jr_iload_n 2 14 dX10_film_13 rfl rfl rfl ?_
        refine cs_X10_204 17 dX10_film_14 rfl rfl rfl (Nat.le_of_ble_eq_true rfl) (wp_isFace rnf h5 (fun _ _ _ => ?_) (fun q => absurd q (jr_fcn hj (by omega))))
        refine jr_if_ne 23 20 dX10_film_17 rfl rfl (fun q17 => ?_) (fun q => absurd q (by decide))
        refine jr_iload_n 3 24 dX10_film_23 rfl rfl rfl ?_
        refine jr_iconst (0) 25 dX10_film_24 rfl rfl ?_
        refine jr_bipush (8) 27 dX10_film_25 rfl rfl ?_
        refine cs_X10_108 30 dX10_film_27 rfl rfl (Nat.le_of_ble_eq_true rfl) (wp_inF qz ?_)
        refine jr_if_ne 36 33 dX10_film_30 rfl rfl (fun q => absurd (by decide) q) (fun q30 => ?_)
        refine jr_bipush ((-7)) 35 dX10_film_33 rfl rfl ?_
        refine jr_ireturn dX10_film_35 rfl rfl ?_
        exact ⟨rfl, IV_mov (iv_same_x (jr_eqx_rf [] _) (by decide)) h⟩
      · refine jr_enter (L := [some (.ref 0), some (.int (nI i0)), some (.int (nI j)), some (.int (nI z)), none]) (by decide) (Nat.le_of_ble_eq_true rfl) rfl ?_
        refine jr_aload_n 0 1 dX9_film_0 rfl rfl rfl ?_
        refine gf_X9_57 4 dX9_film_1 rfl rfl rfl rfl ?_
        refine jr_iload_n 1 5 dX9_film_4 rfl rfl rfl ?_
        refine cs_X9_298 8 dX9_film_5 rfl rfl rfl (Nat.le_of_ble_eq_true rfl) (wp_shasT hi0 ?_)
        refine jr_if_ne 14 11 dX9_film_8 rfl rfl (fun q8 => ?_) (fun q => absurd q (by decide))
        refine jr_aload_n 0 15 dX9_film_14 rfl rfl rfl ?_
        refine gf_X9_44 18 dX9_film_15 rfl rfl rfl rfl ?_
        refine jr_iload_n 2 19 dX9_film_18 rfl rfl rfl ?_
        refine cs_X9_146 22 dX9_film_19 rfl rfl rfl (Nat.le_of_ble_eq_true rfl) (wp_hasT_15 hnf h5 hj ?_)
        refine jr_if_ne 28 25 dX9_film_22 rfl rfl (fun q22 => ?_) (fun q => absurd q (by decide))
        refine jr_iload_n 3 29 dX9_film_28 rfl rfl rfl ?_
        refine jr_bipush (nI 8) 31 dX9_film_29 rfl rfl ?_
        refine cs_X9_104 34 dX9_film_31 rfl rfl (Nat.le_of_ble_eq_true rfl) (wp_wiT hz (by decide) rfl ?_)
        refine jr_if_ne 40 37 dX9_film_34 rfl rfl (fun q34 => ?_) (fun q => absurd q (by decide))
        refine jr_aload_n 0 41 dX9_film_40 rfl rfl rfl ?_
        refine jr_iload_n 2 42 dX9_film_41 rfl rfl rfl ?_
        refine jr_iconst (nI 5) 43 dX9_film_42 rfl rfl ?_
        refine jr_iload_n 3 44 dX9_film_43 rfl rfl rfl ?_
        refine jr_imul 45 dX9_film_44 rfl ?_
        rw [pk_mul]
        refine cs_X9_189 48 dX9_film_45 rfl rfl rfl (Nat.le_of_ble_eq_true rfl) (wp_playNow (len := 5 * z) (by omega) h hj (jr_eqx_rf _ _) (fun σ1 g1 g2 => ?_))
        refine jr_aload_n 0 49 dX9_film_48 rfl rfl rfl ?_
        refine gf_X9_57 52 dX9_film_49 rfl rfl rfl rfl ?_
        refine jr_iload_n 1 53 dX9_film_52 rfl rfl rfl ?_
        refine jr_iconst (2) 54 dX9_film_53 rfl rfl ?_
        refine jr_iload_n 3 55 dX9_film_54 rfl rfl rfl ?_
        refine cs_X9_299 58 dX9_film_55 rfl rfl rfl (Nat.le_of_ble_eq_true rfl) (wp_shBecome (n := z) hi0 (by omega) (fun σ2 x1 x2 x3 x4 x5 => ?_))
        refine jr_iconst (nI 0) 59 dX9_film_58 rfl rfl ?_
        refine jr_istore (L' := [_, _, _, _, _]) 61 dX9_film_59 rfl (by decide) rfl ?_
        refine film_x h hi0 hj hz (σ1 := σ2) (by rw [x2, pk_us]) (by rw [x3, pk_us]) ?_ (fun σ3 y1 y2 y3 => ?_) z 0 _ (Nat.zero_add _) (fun _ _ => rfl) (fun q hq => absurd hq (Nat.not_lt_zero q)) (fun _ _ => rfl)
        · refine ⟨by rw [x1 14 (by decide)]; exact g2.1, fun t ht => ?_⟩
          rw [x1 12 (by decide), x1 13 (by decide)]; exact g2.2 t ht
        have gA : ∀ a, a ∉ iv_CX → a ∉ [43, 44, 45] → σ3 a = σ a := fun a h1 h2 => by
          rw [y1 a (fun e => h2 (by rw [e]; decide)), x1 a h2, g1 a h1]
        have gB : jr_eqx (43 :: 44 :: 45 :: iv_CX) σ σ3 := fun a ha => gA a (fun q => ha (List.mem_cons_of_mem _ (List.mem_cons_of_mem _ (List.mem_cons_of_mem _ q)))) (fun q => ha (by
          rcases (by simpa using q : a = 43 ∨ a = 44 ∨ a = 45) with rfl | rfl | rfl <;> decide))
        have r3 : rr_ok T n nf nc kd se lw σ3 := rr_x (rr_of h) gB (by decide)
        refine jr_enter (L := [some (.ref 46), some (.int (nI i0)), some (.int (nI j)), some (.int (nI z)), none]) (by decide) (Nat.le_of_ble_eq_true rfl) rfl ?_
        refine jr_iload_n 1 1 dX10_film_0 rfl rfl rfl ?_
        refine jr_iconst (nI 0) 2 dX10_film_1 rfl rfl ?_
        refine jr_iconst (nI 3) 3 dX10_film_2 rfl rfl ?_
        refine cs_X10_108 6 dX10_film_3 rfl rfl (Nat.le_of_ble_eq_true rfl) (wp_inT (m := 3) (by omega) (by decide) rfl ?_)
        refine jr_if_ne 12 9 dX10_film_6 rfl rfl (fun q6 => ?_) (fun q => absurd q (by decide))
        refine jr_aload_n 0 13 dX10_film_12 rfl rfl rfl ?_
        refine jr_iload_n 2 14 dX10_film_13 rfl rfl rfl ?_
        refine cs_X10_204 17 dX10_film_14 rfl rfl rfl (Nat.le_of_ble_eq_true rfl) (wp_isFace r3.1.1 h5 (fun _ _ _ => ?_) (fun q => absurd q (jr_fcn hj (by omega))))
        refine jr_if_ne 23 20 dX10_film_17 rfl rfl (fun q17 => ?_) (fun q => absurd q (by decide))
        refine jr_iload_n 3 24 dX10_film_23 rfl rfl rfl ?_
        refine jr_iconst (nI 0) 25 dX10_film_24 rfl rfl ?_
        refine jr_bipush (nI 8) 27 dX10_film_25 rfl rfl ?_
        refine cs_X10_108 30 dX10_film_27 rfl rfl (Nat.le_of_ble_eq_true rfl) (wp_inT hz (by decide) rfl ?_)
        refine jr_if_ne 36 33 dX10_film_30 rfl rfl (fun q30 => ?_) (fun q => absurd q (by decide))
        refine jr_aload_n 0 37 dX10_film_36 rfl rfl rfl ?_
        refine jr_bipush (nI 40) 39 dX10_film_37 rfl rfl ?_
        refine cs_X10_253 42 dX10_film_39 rfl rfl rfl (Nat.le_of_ble_eq_true rfl) (wp_rruns (len := 40) r3 (by omega) (fun σ4 g3 g4 => ?_))
        refine jr_aload_n 0 43 dX10_film_42 rfl rfl rfl ?_
        refine gf_X10_40 46 dX10_film_43 rfl rfl rfl rfl ?_
        refine jr_iload_n 1 47 dX10_film_46 rfl rfl rfl ?_
        refine jr_iconst (2) 48 dX10_film_47 rfl rfl ?_
        refine jr_iast rfl rfl (by omega) 49 dX10_film_48 rfl ?_
        refine jr_aload_n 0 50 dX10_film_49 rfl rfl rfl ?_
        refine gf_X10_43 53 dX10_film_50 rfl rfl rfl rfl ?_
        refine jr_iload_n 1 54 dX10_film_53 rfl rfl rfl ?_
        refine jr_iload_n 3 55 dX10_film_54 rfl rfl rfl ?_
        refine jr_iast rfl rfl (by omega) 56 dX10_film_55 rfl ?_
        refine jr_iconst (nI 0) 57 dX10_film_56 rfl rfl ?_
        refine jr_istore (L' := [_, _, _, _, _]) 59 dX10_film_57 rfl (by decide) rfl ?_
        refine film_r h hi0 hj hz (fun t ht => ?_) (fun σ5 r1 r2 r3b => ?_) 40 0 _ (by omega) (fun _ _ => rfl) (fun q hq => absurd hq (Nat.not_lt_zero q)) (fun _ _ => rfl)
        · show σ4 69 _ = _
          rw [(g4 j hj).2.2 t ht, sm_R_x gB (by decide)]
        refine ⟨rfl, T, n, nf, nc, kd, se, lw, tp, iv_shs h (fun a ha ha2 => ?_) (fun k hk => ?_) (fun s hs => ?_)⟩
        · have hx : a ∉ iv_RX ∧ a ∉ iv_CX := by revert a; decide
          have hm : a ≠ 43 ∧ a ≠ 44 ∧ a ≠ 45 ∧ a ≠ 57 ∧ a ≠ 58 ∧ a ≠ 59 := by
            simp only [List.mem_cons, not_or] at ha2
            omega
          rw [r1 a (by omega)]
          unfold jr_up
          rw [if_neg (by omega), if_neg (by omega), g3 a hx.1, y1 a (by omega), x1 a (by simp only [List.mem_cons, not_or]; exact ⟨by omega, by omega, by omega, by simp⟩), g1 a hx.2]
        · rw [r1 46 (by decide)]
          show σ4 46 k = _
          rw [g3 46 (by decide), y1 46 (by decide), x1 46 (by decide), g1 46 (by decide)]
        · have y57 : σ5 57 = upd (σ 57) i0 2 := by rw [r1 57 (by decide)]; show upd (σ4 57) i0 _ = _; rw [g3 57 (by decide), y1 57 (by decide), x1 57 (by decide), g1 57 (by decide)]
          have y58 : σ5 58 = upd (σ 58) i0 (nI z) := by rw [r1 58 (by decide)]; show upd (σ4 58) i0 _ = _; rw [g3 58 (by decide), y1 58 (by decide), x1 58 (by decide), g1 58 (by decide)]
          have y43 : σ5 43 = upd (σ 43) i0 2 := by rw [r1 43 (by decide)]; show σ4 43 = _; rw [g3 43 (by decide), y1 43 (by decide), x2, g1 43 (by decide)]
          have y44 : σ5 44 = upd (σ 44) i0 (nI z) := by rw [r1 44 (by decide)]; show σ4 44 = _; rw [g3 44 (by decide), y1 44 (by decide), x3, g1 44 (by decide)]
          have y45 : σ5 45 = σ3 45 := by rw [r1 45 (by decide)]; show σ4 45 = _; rw [g3 45 (by decide)]
          by_cases e : s = i0
          · subst e
            refine ⟨by rw [y43, y57, pk_us, pk_us], by rw [y44, y58, pk_us, pk_us], by rw [y57, pk_us]; exact Or.inr (Or.inr (Or.inr rfl)), z, by omega, by rw [y58, pk_us], fun i hi => ?_⟩
            rw [y45, y2 i hi, r2 i hi]
          · exact sh1_mov (hsh s hs) e (fun x hx => by rw [y43, pk_un hx]) (fun x hx => by rw [y44, pk_un hx]) (fun x hx => by rw [y57, pk_un hx]) (fun x hx => by rw [y58, pk_un hx]) (fun q hq => by rw [y45, y3 q hq, x5 q hq, g1 45 (by decide)]) (fun q hq => by rw [r3b q hq]; show σ4 59 q = _; rw [g3 59 (by decide), y1 59 (by decide), x1 59 (by decide), g1 59 (by decide)])
  · refine jr_enter (L := [some (.ref 0), some (.int a), some (.int f), some (.int c), none]) (by decide) (Nat.le_of_ble_eq_true rfl) rfl ?_
    refine jr_aload_n 0 1 dX9_film_0 rfl rfl rfl ?_
    refine gf_X9_57 4 dX9_film_1 rfl rfl rfl rfl ?_
    refine jr_iload_n 1 5 dX9_film_4 rfl rfl rfl ?_
    refine cs_X9_298 8 dX9_film_5 rfl rfl rfl (Nat.le_of_ble_eq_true rfl) (wp_shasF ha ?_)
    refine jr_if_ne 14 11 dX9_film_8 rfl rfl (fun q => absurd (by decide) q) (fun q8 => ?_)
    refine jr_bipush ((-2)) 13 dX9_film_11 rfl rfl ?_
    refine jr_ireturn dX9_film_13 rfl rfl ?_
    refine jr_enter (L := [some (.ref 46), some (.int a), some (.int f), some (.int c), none]) (by decide) (Nat.le_of_ble_eq_true rfl) rfl ?_
    refine jr_iload_n 1 1 dX10_film_0 rfl rfl rfl ?_
    refine jr_iconst (0) 2 dX10_film_1 rfl rfl ?_
    refine jr_iconst (3) 3 dX10_film_2 rfl rfl ?_
    refine cs_X10_108 6 dX10_film_3 rfl rfl (Nat.le_of_ble_eq_true rfl) (wp_inF ha ?_)
    refine jr_if_ne 12 9 dX10_film_6 rfl rfl (fun q => absurd (by decide) q) (fun q6 => ?_)
    refine jr_bipush ((-2)) 11 dX10_film_9 rfl rfl ?_
    refine jr_ireturn dX10_film_11 rfl rfl ?_
    exact ⟨rfl, IV_mov (iv_same_x (jr_eqx_rf [] _) (by decide)) h⟩

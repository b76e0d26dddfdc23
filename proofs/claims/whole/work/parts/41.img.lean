/-- an other image -/
theorem iv_imgs {T : Nat → Nat → List Nat} {n nf nc : Nat} {kd se : Nat → Nat} {lw tp : Nat} {σ σ' : jr_Sg} (h : iv T n nf nc kd se lw tp σ) (hc : ∀ a, a ∈ iv_cells → a ∉ [0, 33, 34, 35, 36, 37, 38, 39, 40, 41, 56] → σ' a = σ a) (hf : ∀ k, k ∈ iv_flds → k ∉ [14, 15, 16, 17] → σ' 46 k = σ 46 k) (hi : iv_img nf n σ') : iv T n nf nc kd se lw tp σ' := by
  have h2 : iv T n nf nc kd se lw tp (fun a => if a ∈ [0, 33, 34, 35, 36, 37, 38, 39, 40, 41, 56] then σ a else if a = 46 then (fun k => if k ∈ [14, 15, 16, 17] then σ 46 k else σ' 46 k) else σ' a) := iv_mov ⟨fun a ha => by
    have h46 : ¬ a = 46 := by revert a; decide
    by_cases e : a ∈ [0, 33, 34, 35, 36, 37, 38, 39, 40, 41, 56]
    · show (if a ∈ [0, 33, 34, 35, 36, 37, 38, 39, 40, 41, 56] then σ a else _) = _
      rw [if_pos e]
    · show (if a ∈ [0, 33, 34, 35, 36, 37, 38, 39, 40, 41, 56] then σ a else if a = 46 then (fun k => if k ∈ [14, 15, 16, 17] then σ 46 k else σ' 46 k) else σ' a) = _
      rw [if_neg e, if_neg h46]; exact hc a ha e, fun k hk => by
    show (if k ∈ [14, 15, 16, 17] then σ 46 k else σ' 46 k) = _
    by_cases e : k ∈ [14, 15, 16, 17]
    · rw [if_pos e]
    · rw [if_neg e]; exact hf k hk e⟩ h
  obtain ⟨a1, a2, a3, a4, a5, a6, a7, a8⟩ := h2
  exact ⟨a1, a2, a3, a4, hi, a6, a7, a8⟩
/-- an other scene -/
theorem iv_scs {T : Nat → Nat → List Nat} {n nf nc nf' nc' lw' : Nat} {kd se kd' se' : Nat → Nat} {lw tp : Nat} {σ σ' : jr_Sg} (h : iv T n nf nc kd se lw tp σ) (hc : ∀ a, a ∈ iv_cells → a ∉ [15, 16, 17, 18, 19, 20, 21, 22, 23, 47, 48, 49, 50, 51, 52] → σ' a = σ a) (hf : ∀ k, k ∈ iv_flds → k ∉ [1, 6, 13] → σ' 46 k = σ 46 k) (hs : iv_sc nf' nc' kd' se' lw' n σ') (hi : iv_img nf' n σ') : iv T n nf' nc' kd' se' lw' tp σ' := by
  have h2 : iv T n nf nc kd se lw tp (fun a => if a ∈ [15, 16, 17, 18, 19, 20, 21, 22, 23, 47, 48, 49, 50, 51, 52] then σ a else if a = 46 then (fun k => if k ∈ [1, 6, 13] then σ 46 k else σ' 46 k) else σ' a) := iv_mov ⟨fun a ha => by
    have h46 : ¬ a = 46 := by revert a; decide
    by_cases e : a ∈ [15, 16, 17, 18, 19, 20, 21, 22, 23, 47, 48, 49, 50, 51, 52]
    · show (if a ∈ [15, 16, 17, 18, 19, 20, 21, 22, 23, 47, 48, 49, 50, 51, 52] then σ a else _) = _
      rw [if_pos e]
    · show (if a ∈ [15, 16, 17, 18, 19, 20, 21, 22, 23, 47, 48, 49, 50, 51, 52] then σ a else if a = 46 then (fun k => if k ∈ [1, 6, 13] then σ 46 k else σ' 46 k) else σ' a) = _
      rw [if_neg e, if_neg h46]; exact hc a ha e, fun k hk => by
    show (if k ∈ [1, 6, 13] then σ 46 k else σ' 46 k) = _
    by_cases e : k ∈ [1, 6, 13]
    · rw [if_pos e]
    · rw [if_neg e]; exact hf k hk e⟩ h
  obtain ⟨a1, a2, a3, a4, a5, a6, a7, a8⟩ := h2
  exact ⟨a1, a2, hs, a4, hi, a6, a7, a8⟩
/-- an other tape -/
theorem iv_tapes {T : Nat → Nat → List Nat} {n nf nc tp' : Nat} {kd se : Nat → Nat} {lw tp : Nat} {σ σ' : jr_Sg} (h : iv T n nf nc kd se lw tp σ) (hc : ∀ a, a ∈ iv_cells → a ∉ [5, 6, 53] → σ' a = σ a) (hf : ∀ k, k ∈ iv_flds → k ∉ [9] → σ' 46 k = σ 46 k) (ht : iv_tape tp' σ') : iv T n nf nc kd se lw tp' σ' := by
  have h2 : iv T n nf nc kd se lw tp (fun a => if a ∈ [5, 6, 53] then σ a else if a = 46 then (fun k => if k ∈ [9] then σ 46 k else σ' 46 k) else σ' a) := iv_mov ⟨fun a ha => by
    have h46 : ¬ a = 46 := by revert a; decide
    by_cases e : a ∈ [5, 6, 53]
    · show (if a ∈ [5, 6, 53] then σ a else _) = _
      rw [if_pos e]
    · show (if a ∈ [5, 6, 53] then σ a else if a = 46 then (fun k => if k ∈ [9] then σ 46 k else σ' 46 k) else σ' a) = _
      rw [if_neg e, if_neg h46]; exact hc a ha e, fun k hk => by
    show (if k ∈ [9] then σ 46 k else σ' 46 k) = _
    by_cases e : k ∈ [9]
    · rw [if_pos e]
    · rw [if_neg e]; exact hf k hk e⟩ h
  obtain ⟨a1, a2, a3, a4, a5, a6, a7, a8⟩ := h2
  exact ⟨a1, a2, a3, ht, a5, a6, a7, a8⟩
theorem image_l1 {G : jr_G} {d : Nat} {σ : jr_Sg} {k : Value → jr_Sg → Prop} (fin : ∀ σ' : jr_Sg, (∀ a, a ≠ 56 → σ' a = σ a) → (∀ q, q < 5 → σ' 56 (q) = σ 50 (q)) ∧ (∀ q, q < 5 → σ' 56 (5 + q) = σ 51 (q)) → (∀ p, (∀ q, q < 5 → p ≠ q ∧ p ≠ 5 + q) → σ' 56 p = σ 56 p) → jr_R G d mi_X10_image (jr_k k) 68 [some (.ref 46), some (.int (nI 5))] [] σ') : ∀ (m i : Nat) (σ2 : jr_Sg), i + m = 5 → (∀ a, a ≠ 56 → σ2 a = σ a) → (∀ q, q < i → σ2 56 (q) = σ 50 (q)) ∧ (∀ q, q < i → σ2 56 (5 + q) = σ 51 (q)) → (∀ p, (∀ q, q < i → p ≠ q ∧ p ≠ 5 + q) → σ2 56 p = σ 56 p) → jr_R G d mi_X10_image (jr_k k) 31 [some (.ref 46), some (.int (nI i))] [] σ2 := by
  intro m
  induction m with
  | zero =>
    intro i σ2 hi g1 g2 g3
    have ei : i = 5 := hi
    subst ei
    refine jr_iload_n 1 32 dX10_image_31 rfl rfl rfl ?_
    refine jr_iconst (nI 5) 33 dX10_image_32 rfl rfl ?_
    refine jr_icmp_ge 68 36 dX10_image_33 rfl rfl (fun q33 => ?_) (fun z => absurd (by decide) z)
    exact fin σ2 g1 g2 g3
  | succ m ih =>
    intro i σ2 hi g1 g2 g3
    refine jr_iload_n 1 32 dX10_image_31 rfl rfl rfl ?_
    refine jr_iconst (nI 5) 33 dX10_image_32 rfl rfl ?_
    refine jr_icmp_ge 68 36 dX10_image_33 rfl rfl (fun z => absurd z (nI_ge (b := 5) (by omega) (by decide))) (fun q33 => ?_)
    refine jr_aload_n 0 37 dX10_image_36 rfl rfl rfl ?_
    refine gf_X10_37 40 dX10_image_37 rfl rfl rfl rfl ?_
    refine jr_iload_n 1 41 dX10_image_40 rfl rfl rfl ?_
    refine jr_aload_n 0 42 dX10_image_41 rfl rfl rfl ?_
    refine gf_X10_19 45 dX10_image_42 rfl rfl rfl rfl ?_
    refine jr_iload_n 1 46 dX10_image_45 rfl rfl rfl ?_
    refine jr_iald rfl rfl (by omega) 47 dX10_image_46 rfl ?_
    refine jr_iast rfl rfl (by omega) 48 dX10_image_47 rfl ?_
    refine jr_aload_n 0 49 dX10_image_48 rfl rfl rfl ?_
    refine gf_X10_37 52 dX10_image_49 rfl rfl rfl rfl ?_
    refine jr_iconst (nI 5) 53 dX10_image_52 rfl rfl ?_
    refine jr_iload_n 1 54 dX10_image_53 rfl rfl rfl ?_
    refine jr_iadd 55 dX10_image_54 rfl ?_
    refine jr_aload_n 0 56 dX10_image_55 rfl rfl rfl ?_
    refine gf_X10_22 59 dX10_image_56 rfl rfl rfl rfl ?_
    refine jr_iload_n 1 60 dX10_image_59 rfl rfl rfl ?_
    refine jr_iald rfl rfl (by omega) 61 dX10_image_60 rfl ?_
    refine jr_iast rfl (show nI 5 + nI i = nI (5 + i) from nI_add _ _) (by omega) 62 dX10_image_61 rfl ?_
    refine jr_iinc (v := nI (i + 1)) (L' := [_, _]) 65 dX10_image_62 rfl rfl (nI_1 i) (by decide) rfl ?_
    refine jr_goto 31 dX10_image_65 rfl ?_
    refine ih (i + 1) _ (by omega) (fun a h56 => ?_) ?_ ?_
    · simp only [jr_up]
      rw [if_neg h56, if_neg h56]
      exact g1 a h56
    · exact ⟨(fun q hq => by
        show (upd (upd (σ2 56) (i) (σ2 50 (i))) (5 + i) (σ2 51 (i))) (q) = _
        by_cases e : q = i
        · subst e
          rw [pk_un (by omega), pk_us]
          exact congrFun (g1 50 (by decide)) _
        · rw [pk_un (by omega), pk_un (by omega)]; exact g2.1 q (by omega)), (fun q hq => by
        show (upd (upd (σ2 56) (i) (σ2 50 (i))) (5 + i) (σ2 51 (i))) (5 + q) = _
        by_cases e : q = i
        · subst e
          rw [pk_us]
          exact congrFun (g1 51 (by decide)) _
        · rw [pk_un (by omega), pk_un (by omega)]; exact g2.2 q (by omega))⟩
    · exact (fun p hp => by
        show (upd (upd (σ2 56) (i) (σ2 50 (i))) (5 + i) (σ2 51 (i))) p = _
        rw [pk_un ((hp i (by omega)).2), pk_un ((hp i (by omega)).1)]
        exact g3 p (fun q hq => hp q (by omega)))
theorem image_l2 {G : jr_G} {d : Nat} {σ : jr_Sg} {k : Value → jr_Sg → Prop} (fin : ∀ σ' : jr_Sg, (∀ a, a ≠ 56 → σ' a = σ a) → (∀ q, q < 8 → σ' 56 (10 + q) = σ 47 (q)) → (∀ p, (∀ q, q < 8 → p ≠ 10 + q) → σ' 56 p = σ 56 p) → jr_R G d mi_X10_image (jr_k k) 97 [some (.ref 46), some (.int (nI 8))] [] σ') : ∀ (m i : Nat) (σ2 : jr_Sg), i + m = 8 → (∀ a, a ≠ 56 → σ2 a = σ a) → (∀ q, q < i → σ2 56 (10 + q) = σ 47 (q)) → (∀ p, (∀ q, q < i → p ≠ 10 + q) → σ2 56 p = σ 56 p) → jr_R G d mi_X10_image (jr_k k) 70 [some (.ref 46), some (.int (nI i))] [] σ2 := by
  intro m
  induction m with
  | zero =>
    intro i σ2 hi g1 g2 g3
    have ei : i = 8 := hi
    subst ei
    refine jr_iload_n 1 71 dX10_image_70 rfl rfl rfl ?_
    refine jr_bipush (nI 8) 73 dX10_image_71 rfl rfl ?_
    refine jr_icmp_ge 97 76 dX10_image_73 rfl rfl (fun q73 => ?_) (fun z => absurd (by decide) z)
    exact fin σ2 g1 g2 g3
  | succ m ih =>
    intro i σ2 hi g1 g2 g3
    refine jr_iload_n 1 71 dX10_image_70 rfl rfl rfl ?_
    refine jr_bipush (nI 8) 73 dX10_image_71 rfl rfl ?_
    refine jr_icmp_ge 97 76 dX10_image_73 rfl rfl (fun z => absurd z (nI_ge (b := 8) (by omega) (by decide))) (fun q73 => ?_)
    refine jr_aload_n 0 77 dX10_image_76 rfl rfl rfl ?_
    refine gf_X10_37 80 dX10_image_77 rfl rfl rfl rfl ?_
    refine jr_bipush (nI 10) 82 dX10_image_80 rfl rfl ?_
    refine jr_iload_n 1 83 dX10_image_82 rfl rfl rfl ?_
    refine jr_iadd 84 dX10_image_83 rfl ?_
    refine jr_aload_n 0 85 dX10_image_84 rfl rfl rfl ?_
    refine gf_X10_7 88 dX10_image_85 rfl rfl rfl rfl ?_
    refine jr_iload_n 1 89 dX10_image_88 rfl rfl rfl ?_
    refine jr_iald rfl rfl (by omega) 90 dX10_image_89 rfl ?_
    refine jr_iast rfl (show nI 10 + nI i = nI (10 + i) from nI_add _ _) (by omega) 91 dX10_image_90 rfl ?_
    refine jr_iinc (v := nI (i + 1)) (L' := [_, _]) 94 dX10_image_91 rfl rfl (nI_1 i) (by decide) rfl ?_
    refine jr_goto 70 dX10_image_94 rfl ?_
    refine ih (i + 1) _ (by omega) (fun a h56 => ?_) ?_ ?_
    · simp only [jr_up]
      rw [if_neg h56]
      exact g1 a h56
    · exact (fun q hq => by
        show (upd (σ2 56) (10 + i) (σ2 47 (i))) (10 + q) = _
        by_cases e : q = i
        · subst e
          rw [pk_us]
          exact congrFun (g1 47 (by decide)) _
        · rw [pk_un (by omega)]; exact g2 q (by omega))
    · exact (fun p hp => by
        show (upd (σ2 56) (10 + i) (σ2 47 (i))) p = _
        rw [pk_un (hp i (by omega))]
        exact g3 p (fun q hq => hp q (by omega)))
theorem image_l3 {G : jr_G} {d : Nat} {σ : jr_Sg} {k : Value → jr_Sg → Prop} (fin : ∀ σ' : jr_Sg, (∀ a, a ≠ 56 → σ' a = σ a) → (∀ q, q < 24 → σ' 56 (18 + q) = σ 52 (q)) → (∀ p, (∀ q, q < 24 → p ≠ 18 + q) → σ' 56 p = σ 56 p) → jr_R G d mi_X10_image (jr_k k) 126 [some (.ref 46), some (.int (nI 24))] [] σ') : ∀ (m i : Nat) (σ2 : jr_Sg), i + m = 24 → (∀ a, a ≠ 56 → σ2 a = σ a) → (∀ q, q < i → σ2 56 (18 + q) = σ 52 (q)) → (∀ p, (∀ q, q < i → p ≠ 18 + q) → σ2 56 p = σ 56 p) → jr_R G d mi_X10_image (jr_k k) 99 [some (.ref 46), some (.int (nI i))] [] σ2 := by
  intro m
  induction m with
  | zero =>
    intro i σ2 hi g1 g2 g3
    have ei : i = 24 := hi
    subst ei
    refine jr_iload_n 1 100 dX10_image_99 rfl rfl rfl ?_
    refine jr_bipush (nI 24) 102 dX10_image_100 rfl rfl ?_
    refine jr_icmp_ge 126 105 dX10_image_102 rfl rfl (fun q102 => ?_) (fun z => absurd (by decide) z)
    exact fin σ2 g1 g2 g3
  | succ m ih =>
    intro i σ2 hi g1 g2 g3
    refine jr_iload_n 1 100 dX10_image_99 rfl rfl rfl ?_
    refine jr_bipush (nI 24) 102 dX10_image_100 rfl rfl ?_
    refine jr_icmp_ge 126 105 dX10_image_102 rfl rfl (fun z => absurd z (nI_ge (b := 24) (by omega) (by decide))) (fun q102 => ?_)
    refine jr_aload_n 0 106 dX10_image_105 rfl rfl rfl ?_
    refine gf_X10_37 109 dX10_image_106 rfl rfl rfl rfl ?_
    refine jr_bipush (nI 18) 111 dX10_image_109 rfl rfl ?_
    refine jr_iload_n 1 112 dX10_image_111 rfl rfl rfl ?_
    refine jr_iadd 113 dX10_image_112 rfl ?_
    refine jr_aload_n 0 114 dX10_image_113 rfl rfl rfl ?_
    refine gf_X10_25 117 dX10_image_114 rfl rfl rfl rfl ?_
    refine jr_iload_n 1 118 dX10_image_117 rfl rfl rfl ?_
    refine jr_iald rfl rfl (by omega) 119 dX10_image_118 rfl ?_
    refine jr_iast rfl (show nI 18 + nI i = nI (18 + i) from nI_add _ _) (by omega) 120 dX10_image_119 rfl ?_
    refine jr_iinc (v := nI (i + 1)) (L' := [_, _]) 123 dX10_image_120 rfl rfl (nI_1 i) (by decide) rfl ?_
    refine jr_goto 99 dX10_image_123 rfl ?_
    refine ih (i + 1) _ (by omega) (fun a h56 => ?_) ?_ ?_
    · simp only [jr_up]
      rw [if_neg h56]
      exact g1 a h56
    · exact (fun q hq => by
        show (upd (σ2 56) (18 + i) (σ2 52 (i))) (18 + q) = _
        by_cases e : q = i
        · subst e
          rw [pk_us]
          exact congrFun (g1 52 (by decide)) _
        · rw [pk_un (by omega)]; exact g2 q (by omega))
    · exact (fun p hp => by
        show (upd (σ2 56) (18 + i) (σ2 52 (i))) p = _
        rw [pk_un (hp i (by omega))]
        exact g3 p (fun q hq => hp q (by omega)))
theorem back_l1 {G : jr_G} {d : Nat} {σ : jr_Sg} {k : Value → jr_Sg → Prop} (fin : ∀ σ' : jr_Sg, (∀ a, a ≠ 50 → a ≠ 51 → σ' a = σ a) → (∀ q, q < 5 → σ' 50 (q) = σ 56 (q)) ∧ (∀ q, q < 5 → σ' 51 (q) = σ 56 (5 + q)) → (∀ p, (∀ q, q < 5 → p ≠ q) → σ' 50 p = σ 50 p) ∧ (∀ p, (∀ q, q < 5 → p ≠ q) → σ' 51 p = σ 51 p) → jr_R G d mi_X10_back (jr_k k) 73 [some (.ref 46), some (.int (nI 5))] [] σ') : ∀ (m i : Nat) (σ2 : jr_Sg), i + m = 5 → (∀ a, a ≠ 50 → a ≠ 51 → σ2 a = σ a) → (∀ q, q < i → σ2 50 (q) = σ 56 (q)) ∧ (∀ q, q < i → σ2 51 (q) = σ 56 (5 + q)) → (∀ p, (∀ q, q < i → p ≠ q) → σ2 50 p = σ 50 p) ∧ (∀ p, (∀ q, q < i → p ≠ q) → σ2 51 p = σ 51 p) → jr_R G d mi_X10_back (jr_k k) 36 [some (.ref 46), some (.int (nI i))] [] σ2 := by
  intro m
  induction m with
  | zero =>
    intro i σ2 hi g1 g2 g3
    have ei : i = 5 := hi
    subst ei
    refine jr_iload_n 1 37 dX10_back_36 rfl rfl rfl ?_
    refine jr_iconst (nI 5) 38 dX10_back_37 rfl rfl ?_
    refine jr_icmp_ge 73 41 dX10_back_38 rfl rfl (fun q38 => ?_) (fun z => absurd (by decide) z)
    exact fin σ2 g1 g2 g3
  | succ m ih =>
    intro i σ2 hi g1 g2 g3
    refine jr_iload_n 1 37 dX10_back_36 rfl rfl rfl ?_
    refine jr_iconst (nI 5) 38 dX10_back_37 rfl rfl ?_
    refine jr_icmp_ge 73 41 dX10_back_38 rfl rfl (fun z => absurd z (nI_ge (b := 5) (by omega) (by decide))) (fun q38 => ?_)
    refine jr_aload_n 0 42 dX10_back_41 rfl rfl rfl ?_
    refine gf_X10_19 45 dX10_back_42 rfl rfl rfl rfl ?_
    refine jr_iload_n 1 46 dX10_back_45 rfl rfl rfl ?_
    refine jr_aload_n 0 47 dX10_back_46 rfl rfl rfl ?_
    refine gf_X10_37 50 dX10_back_47 rfl rfl rfl rfl ?_
    refine jr_iload_n 1 51 dX10_back_50 rfl rfl rfl ?_
    refine jr_iald rfl rfl (by omega) 52 dX10_back_51 rfl ?_
    refine jr_iast rfl rfl (by omega) 53 dX10_back_52 rfl ?_
    refine jr_aload_n 0 54 dX10_back_53 rfl rfl rfl ?_
    refine gf_X10_22 57 dX10_back_54 rfl rfl rfl rfl ?_
    refine jr_iload_n 1 58 dX10_back_57 rfl rfl rfl ?_
    refine jr_aload_n 0 59 dX10_back_58 rfl rfl rfl ?_
    refine gf_X10_37 62 dX10_back_59 rfl rfl rfl rfl ?_
    refine jr_iconst (nI 5) 63 dX10_back_62 rfl rfl ?_
    refine jr_iload_n 1 64 dX10_back_63 rfl rfl rfl ?_
    refine jr_iadd 65 dX10_back_64 rfl ?_
    refine jr_iald rfl (show nI 5 + nI i = nI (5 + i) from nI_add _ _) (by omega) 66 dX10_back_65 rfl ?_
    refine jr_iast rfl rfl (by omega) 67 dX10_back_66 rfl ?_
    refine jr_iinc (v := nI (i + 1)) (L' := [_, _]) 70 dX10_back_67 rfl rfl (nI_1 i) (by decide) rfl ?_
    refine jr_goto 36 dX10_back_70 rfl ?_
    refine ih (i + 1) _ (by omega) (fun a h50 h51 => ?_) ?_ ?_
    · simp only [jr_up]
      rw [if_neg h51, if_neg h50]
      exact g1 a h50 h51
    · exact ⟨(fun q hq => by
        show (upd (σ2 50) (i) (σ2 56 (i))) (q) = _
        by_cases e : q = i
        · subst e
          rw [pk_us]
          exact congrFun (g1 56 (by decide) (by decide)) _
        · rw [pk_un (by omega)]; exact g2.1 q (by omega)), (fun q hq => by
        show (upd (σ2 51) (i) (σ2 56 (5 + i))) (q) = _
        by_cases e : q = i
        · subst e
          rw [pk_us]
          exact congrFun (g1 56 (by decide) (by decide)) _
        · rw [pk_un (by omega)]; exact g2.2 q (by omega))⟩
    · exact ⟨(fun p hp => by
        show (upd (σ2 50) (i) (σ2 56 (i))) p = _
        rw [pk_un (hp i (by omega))]
        exact g3.1 p (fun q hq => hp q (by omega))), (fun p hp => by
        show (upd (σ2 51) (i) (σ2 56 (5 + i))) p = _
        rw [pk_un (hp i (by omega))]
        exact g3.2 p (fun q hq => hp q (by omega)))⟩
theorem back_l2 {G : jr_G} {d : Nat} {σ : jr_Sg} {k : Value → jr_Sg → Prop} (fin : ∀ σ' : jr_Sg, (∀ a, a ≠ 47 → σ' a = σ a) → (∀ q, q < 8 → σ' 47 (q) = σ 56 (10 + q)) → (∀ p, (∀ q, q < 8 → p ≠ q) → σ' 47 p = σ 47 p) → jr_R G d mi_X10_back (jr_k k) 102 [some (.ref 46), some (.int (nI 8))] [] σ') : ∀ (m i : Nat) (σ2 : jr_Sg), i + m = 8 → (∀ a, a ≠ 47 → σ2 a = σ a) → (∀ q, q < i → σ2 47 (q) = σ 56 (10 + q)) → (∀ p, (∀ q, q < i → p ≠ q) → σ2 47 p = σ 47 p) → jr_R G d mi_X10_back (jr_k k) 75 [some (.ref 46), some (.int (nI i))] [] σ2 := by
  intro m
  induction m with
  | zero =>
    intro i σ2 hi g1 g2 g3
    have ei : i = 8 := hi
    subst ei
    refine jr_iload_n 1 76 dX10_back_75 rfl rfl rfl ?_
    refine jr_bipush (nI 8) 78 dX10_back_76 rfl rfl ?_
    refine jr_icmp_ge 102 81 dX10_back_78 rfl rfl (fun q78 => ?_) (fun z => absurd (by decide) z)
    exact fin σ2 g1 g2 g3
  | succ m ih =>
    intro i σ2 hi g1 g2 g3
    refine jr_iload_n 1 76 dX10_back_75 rfl rfl rfl ?_
    refine jr_bipush (nI 8) 78 dX10_back_76 rfl rfl ?_
    refine jr_icmp_ge 102 81 dX10_back_78 rfl rfl (fun z => absurd z (nI_ge (b := 8) (by omega) (by decide))) (fun q78 => ?_)
    refine jr_aload_n 0 82 dX10_back_81 rfl rfl rfl ?_
    refine gf_X10_7 85 dX10_back_82 rfl rfl rfl rfl ?_
    refine jr_iload_n 1 86 dX10_back_85 rfl rfl rfl ?_
    refine jr_aload_n 0 87 dX10_back_86 rfl rfl rfl ?_
    refine gf_X10_37 90 dX10_back_87 rfl rfl rfl rfl ?_
    refine jr_bipush (nI 10) 92 dX10_back_90 rfl rfl ?_
    refine jr_iload_n 1 93 dX10_back_92 rfl rfl rfl ?_
    refine jr_iadd 94 dX10_back_93 rfl ?_
    refine jr_iald rfl (show nI 10 + nI i = nI (10 + i) from nI_add _ _) (by omega) 95 dX10_back_94 rfl ?_
    refine jr_iast rfl rfl (by omega) 96 dX10_back_95 rfl ?_
    refine jr_iinc (v := nI (i + 1)) (L' := [_, _]) 99 dX10_back_96 rfl rfl (nI_1 i) (by decide) rfl ?_
    refine jr_goto 75 dX10_back_99 rfl ?_
    refine ih (i + 1) _ (by omega) (fun a h47 => ?_) ?_ ?_
    · simp only [jr_up]
      rw [if_neg h47]
      exact g1 a h47
    · exact (fun q hq => by
        show (upd (σ2 47) (i) (σ2 56 (10 + i))) (q) = _
        by_cases e : q = i
        · subst e
          rw [pk_us]
          exact congrFun (g1 56 (by decide)) _
        · rw [pk_un (by omega)]; exact g2 q (by omega))
    · exact (fun p hp => by
        show (upd (σ2 47) (i) (σ2 56 (10 + i))) p = _
        rw [pk_un (hp i (by omega))]
        exact g3 p (fun q hq => hp q (by omega)))
theorem back_l3 {G : jr_G} {d : Nat} {σ : jr_Sg} {k : Value → jr_Sg → Prop} (fin : ∀ σ' : jr_Sg, (∀ a, a ≠ 52 → σ' a = σ a) → (∀ q, q < 24 → σ' 52 (q) = σ 56 (18 + q)) → (∀ p, (∀ q, q < 24 → p ≠ q) → σ' 52 p = σ 52 p) → jr_R G d mi_X10_back (jr_k k) 131 [some (.ref 46), some (.int (nI 24))] [] σ') : ∀ (m i : Nat) (σ2 : jr_Sg), i + m = 24 → (∀ a, a ≠ 52 → σ2 a = σ a) → (∀ q, q < i → σ2 52 (q) = σ 56 (18 + q)) → (∀ p, (∀ q, q < i → p ≠ q) → σ2 52 p = σ 52 p) → jr_R G d mi_X10_back (jr_k k) 104 [some (.ref 46), some (.int (nI i))] [] σ2 := by
  intro m
  induction m with
  | zero =>
    intro i σ2 hi g1 g2 g3
    have ei : i = 24 := hi
    subst ei
    refine jr_iload_n 1 105 dX10_back_104 rfl rfl rfl ?_
    refine jr_bipush (nI 24) 107 dX10_back_105 rfl rfl ?_
    refine jr_icmp_ge 131 110 dX10_back_107 rfl rfl (fun q107 => ?_) (fun z => absurd (by decide) z)
    exact fin σ2 g1 g2 g3
  | succ m ih =>
    intro i σ2 hi g1 g2 g3
    refine jr_iload_n 1 105 dX10_back_104 rfl rfl rfl ?_
    refine jr_bipush (nI 24) 107 dX10_back_105 rfl rfl ?_
    refine jr_icmp_ge 131 110 dX10_back_107 rfl rfl (fun z => absurd z (nI_ge (b := 24) (by omega) (by decide))) (fun q107 => ?_)
    refine jr_aload_n 0 111 dX10_back_110 rfl rfl rfl ?_
    refine gf_X10_25 114 dX10_back_111 rfl rfl rfl rfl ?_
    refine jr_iload_n 1 115 dX10_back_114 rfl rfl rfl ?_
    refine jr_aload_n 0 116 dX10_back_115 rfl rfl rfl ?_
    refine gf_X10_37 119 dX10_back_116 rfl rfl rfl rfl ?_
    refine jr_bipush (nI 18) 121 dX10_back_119 rfl rfl ?_
    refine jr_iload_n 1 122 dX10_back_121 rfl rfl rfl ?_
    refine jr_iadd 123 dX10_back_122 rfl ?_
    refine jr_iald rfl (show nI 18 + nI i = nI (18 + i) from nI_add _ _) (by omega) 124 dX10_back_123 rfl ?_
    refine jr_iast rfl rfl (by omega) 125 dX10_back_124 rfl ?_
    refine jr_iinc (v := nI (i + 1)) (L' := [_, _]) 128 dX10_back_125 rfl rfl (nI_1 i) (by decide) rfl ?_
    refine jr_goto 104 dX10_back_128 rfl ?_
    refine ih (i + 1) _ (by omega) (fun a h52 => ?_) ?_ ?_
    · simp only [jr_up]
      rw [if_neg h52]
      exact g1 a h52
    · exact (fun q hq => by
        show (upd (σ2 52) (i) (σ2 56 (18 + i))) (q) = _
        by_cases e : q = i
        · subst e
          rw [pk_us]
          exact congrFun (g1 56 (by decide)) _
        · rw [pk_un (by omega)]; exact g2 q (by omega))
    · exact (fun p hp => by
        show (upd (σ2 52) (i) (σ2 56 (18 + i))) p = _
        rw [pk_un (hp i (by omega))]
        exact g3 p (fun q hq => hp q (by omega)))
theorem pp_image {G : jr_G} {d : Nat} {σ : jr_Sg} (h : IV σ) : jr_pair G (d + 20) mi_X9_image mi_X10_image [] σ := by
  obtain ⟨T, n, nf, nc, kd, se, lw, tp, h⟩ := h
  have hh := h
  obtain ⟨hTC, hTR, ⟨hsc, hsr, hl1, hl2, hlw, hfc, hli, hca⟩, htp, himg, hsh, hrest, hwd⟩ := hh
  have hnf := hsc.1
  have h5 := hsc.2.1
  have hnc := hsc.2.2.1
  have h8 := hsc.2.2.2.1
  have rnf := hsr.1
  have rnc := hsr.2.2.1
  have hlm := hrest.2.2.2.1
  unfold jr_pair
  refine jr_enter (L := [some (.ref 0)]) (by decide) (Nat.le_of_ble_eq_true rfl) rfl ?_
  refine jr_aload_n 0 1 dX9_image_0 rfl rfl rfl ?_
  refine gf_X9_51 4 dX9_image_1 rfl rfl rfl rfl ?_
  refine jr_aload_n 0 5 dX9_image_4 rfl rfl rfl ?_
  refine gf_X9_44 8 dX9_image_5 rfl rfl rfl rfl ?_
  refine cs_X9_225 11 dX9_image_8 rfl rfl rfl (Nat.le_of_ble_eq_true rfl) (wp_become_33_15 (fun σ1 b => ?_))
  refine jr_aload_n 0 12 dX9_image_11 rfl rfl rfl ?_
  refine jr_iconst (1) 13 dX9_image_12 rfl rfl ?_
  refine pf_X9_61 16 dX9_image_13 rfl (by decide) rfl rfl rfl ?_
  refine jr_aload_n 0 17 dX9_image_16 rfl rfl rfl ?_
  refine gf_X9_51 20 dX9_image_17 rfl rfl rfl rfl ?_
  refine gf_X9_84 23 dX9_image_20 rfl rfl rfl rfl ?_
  refine jr_ireturn dX9_image_23 rfl rfl ?_
  refine jr_enter (L := [some (.ref 46), none]) (by decide) (Nat.le_of_ble_eq_true rfl) rfl ?_
  refine jr_aload_n 0 1 dX10_image_0 rfl rfl rfl ?_
  refine jr_iconst (1) 2 dX10_image_1 rfl rfl ?_
  refine pf_X10_338 5 dX10_image_2 rfl (by decide) rfl rfl rfl ?_
  refine jr_aload_n 0 6 dX10_image_5 rfl rfl rfl ?_
  refine jr_aload_n 0 7 dX10_image_6 rfl rfl rfl ?_
  refine gf_X10_105 10 dX10_image_7 rfl rfl rfl rfl ?_
  refine jr_topi (y := σ1 46 1) rfl ?_
  refine pf_X10_342 13 dX10_image_10 rfl rfl rfl rfl ?_
  refine jr_aload_n 0 14 dX10_image_13 rfl rfl rfl ?_
  refine jr_aload_n 0 15 dX10_image_14 rfl rfl rfl ?_
  refine gf_X10_112 18 dX10_image_15 rfl rfl rfl rfl ?_
  refine jr_topi (y := σ1 46 6) rfl ?_
  refine pf_X10_345 21 dX10_image_18 rfl rfl rfl rfl ?_
  refine jr_aload_n 0 22 dX10_image_21 rfl rfl rfl ?_
  refine jr_aload_n 0 23 dX10_image_22 rfl rfl rfl ?_
  refine gf_X10_118 26 dX10_image_23 rfl rfl rfl rfl ?_
  refine jr_topi (y := σ1 46 13) rfl ?_
  refine pf_X10_348 29 dX10_image_26 rfl rfl rfl rfl ?_
  refine jr_iconst (nI 0) 30 dX10_image_29 rfl rfl ?_
  refine jr_istore_n 1 (L' := [_, _]) 31 dX10_image_30 rfl rfl (by decide) rfl ?_
  refine image_l1 (fun σ2 p1 p2 p3 => ?_) 5 0 _ (by omega) (fun _ _ => rfl) ⟨fun q hq => absurd hq (Nat.not_lt_zero q), fun q hq => absurd hq (Nat.not_lt_zero q)⟩ (fun _ _ => rfl)
  refine jr_iconst (nI 0) 69 dX10_image_68 rfl rfl ?_
  refine jr_istore_n 1 (L' := [_, _]) 70 dX10_image_69 rfl rfl (by decide) rfl ?_
  refine image_l2 (fun σ3 q1 q2 q3 => ?_) 8 0 _ (by omega) (fun _ _ => rfl) (fun q hq => absurd hq (Nat.not_lt_zero q)) (fun _ _ => rfl)
  refine jr_iconst (nI 0) 98 dX10_image_97 rfl rfl ?_
  refine jr_istore_n 1 (L' := [_, _]) 99 dX10_image_98 rfl rfl (by decide) rfl ?_
  refine image_l3 (fun σ4 r1 r2 r3 => ?_) 24 0 _ (by omega) (fun _ _ => rfl) (fun q hq => absurd hq (Nat.not_lt_zero q)) (fun _ _ => rfl)
  refine jr_aload_n 0 127 dX10_image_126 rfl rfl rfl ?_
  refine gf_X10_105 130 dX10_image_127 rfl rfl rfl rfl ?_
  refine jr_ireturn dX10_image_130 rfl rfl ?_
  have F1 : ∀ a, a ≠ 56 → σ4 a = (jr_up (jr_up (jr_up (jr_up (jr_up σ1 0 8 1) 46 14 1) 46 15 (σ1 46 1)) 46 16 (σ1 46 6)) 46 17 (σ1 46 13)) a := fun a ha => by rw [r1 a ha, q1 a ha, p1 a ha]
  have F2 : ∀ q, q < 5 → σ4 56 q = (jr_up (jr_up (jr_up (jr_up (jr_up σ1 0 8 1) 46 14 1) 46 15 (σ1 46 1)) 46 16 (σ1 46 6)) 46 17 (σ1 46 13)) 50 q := fun q hq => by rw [r3 q (fun y hy => by omega), q3 q (fun y hy => by omega), p2.1 q hq]
  have F3 : ∀ q, q < 5 → σ4 56 (5 + q) = (jr_up (jr_up (jr_up (jr_up (jr_up σ1 0 8 1) 46 14 1) 46 15 (σ1 46 1)) 46 16 (σ1 46 6)) 46 17 (σ1 46 13)) 51 q := fun q hq => by rw [r3 (5 + q) (fun y hy => by omega), q3 (5 + q) (fun y hy => by omega), p2.2 q hq]
  have F4 : ∀ q, q < 8 → σ4 56 (10 + q) = (jr_up (jr_up (jr_up (jr_up (jr_up σ1 0 8 1) 46 14 1) 46 15 (σ1 46 1)) 46 16 (σ1 46 6)) 46 17 (σ1 46 13)) 47 q := fun q hq => by rw [r3 (10 + q) (fun y hy => by omega), q2 q hq, p1 47 (by decide)]
  have F5 : ∀ q, q < 24 → σ4 56 (18 + q) = (jr_up (jr_up (jr_up (jr_up (jr_up σ1 0 8 1) 46 14 1) 46 15 (σ1 46 1)) 46 16 (σ1 46 6)) 46 17 (σ1 46 13)) 52 q := fun q hq => by rw [r2 q hq, q1 52 (by decide), p1 52 (by decide)]
  have G : ∀ a, a < 33 ∨ 33 + 8 < a → σ1 a = σ a := b.1
  have C0 : ∀ a, a ≠ 0 → a ≠ 46 → a ≠ 56 → σ4 a = σ1 a := fun a h0 h6 h5 => by
    rw [F1 a h5]
    simp only [jr_up]
    rw [if_neg h6, if_neg h6, if_neg h6, if_neg h6, if_neg h0]
  have E50 : ∀ q, q < 5 → σ4 56 q = σ 50 q := fun q hq => by rw [F2 q hq]; show σ1 50 q = _; rw [G 50 (by omega)]
  have E51 : ∀ q, q < 5 → σ4 56 (5 + q) = σ 51 q := fun q hq => by rw [F3 q hq]; show σ1 51 q = _; rw [G 51 (by omega)]
  have E47 : ∀ q, q < 8 → σ4 56 (10 + q) = σ 47 q := fun q hq => by rw [F4 q hq]; show σ1 47 q = _; rw [G 47 (by omega)]
  have E52 : ∀ q, q < 24 → σ4 56 (18 + q) = σ 52 q := fun q hq => by rw [F5 q hq]; show σ1 52 q = _; rw [G 52 (by omega)]
  have G46 : σ1 46 = σ 46 := G 46 (by omega)
  have K33 : ∀ k, σ4 33 k = σ1 33 k := fun k => by rw [C0 33 (by decide) (by decide) (by decide)]
  have M1 : σ4 46 15 = nI nf := by rw [F1 46 (by decide)]; show σ1 46 1 = _; rw [G46]; exact rnf
  have M2 : σ4 46 16 = nI nc := by rw [F1 46 (by decide)]; show σ1 46 6 = _; rw [G46]; exact rnc
  have M3 : σ4 46 17 = nI lw := by rw [F1 46 (by decide)]; show σ1 46 13 = _; rw [G46]; exact hl2
  have I : iv_img nf n σ4 := by
    refine Or.inr ⟨by rw [F1 0 (by decide)]; rfl, by rw [F1 46 (by decide)]; rfl, nf, nc, lw, Nat.le_refl _, h5, h8, hlw, by rw [K33, b.2.2.2.1]; exact hnf, M1, by rw [K33, b.2.2.2.2.1]; exact hnc, M2, by rw [K33, b.2.2.2.2.2]; exact hl1, M3, fun f hf => ?_, fun s hs => ?_, fun k hk => ?_⟩
    · obtain ⟨c1, c2, c3, c4⟩ := b.2.1 f (by omega)
      refine ⟨?_, ?_, ?_, ?_, ?_, ?_⟩
      · rw [C0 34 (by decide) (by decide) (by decide), C0 16 (by decide) (by decide) (by decide), G 16 (by omega)]; exact c1
      · rw [C0 35 (by decide) (by decide) (by decide), C0 17 (by decide) (by decide) (by decide), G 17 (by omega)]; exact c2
      · rw [C0 36 (by decide) (by decide) (by decide), E50 f (by omega)]; exact c3.trans (hfc f hf).2.1
      · rw [C0 37 (by decide) (by decide) (by decide), E51 f (by omega)]; exact c4.trans ((hsc.2.2.2.2 f hf).2.2.2.trans (hsr.2.2.2.2 f hf).2.2.2.1.symm)
      · rw [E50 f (by omega)]; exact (hfc f hf).2.2
      · rw [E51 f (by omega)]; exact ⟨se f, (hsr.2.2.2.2 f hf).2.1, (hsr.2.2.2.2 f hf).2.2.2.1⟩
    · obtain ⟨c1, -⟩ := b.2.2.1 s hs
      refine ⟨?_, ?_⟩
      · rw [C0 38 (by decide) (by decide) (by decide), E47 s hs]; exact c1.trans (hli s hs).1
      · rw [E47 s hs]; exact (hli s hs).2
    · obtain ⟨-, c2, c3, c4⟩ := b.2.2.1 k (by omega)
      refine ⟨?_, ?_, ?_⟩
      · rw [C0 39 (by decide) (by decide) (by decide), E52 (3 * k) (by omega)]; exact c2.trans (hca k hk).1
      · rw [C0 40 (by decide) (by decide) (by decide), Nat.add_assoc, E52 (3 * k + 1) (by omega)]; exact c3.trans (hca k hk).2.1
      · rw [C0 41 (by decide) (by decide) (by decide), Nat.add_assoc, E52 (3 * k + 2) (by omega)]; exact c4.trans (hca k hk).2.2
  refine ⟨congrArg Value.int ?_, T, n, nf, nc, kd, se, lw, tp, iv_imgs h (fun a ha ha2 => ?_) (fun k hk hk2 => ?_) I⟩
  · rw [F1 46 (by decide)]
    show σ1 46 1 = σ1 33 8
    rw [G46, b.2.2.2.1, rnf, hnf]
  · simp only [List.mem_cons, not_or] at ha2
    have h46 : a ≠ 46 := by rintro rfl; exact absurd ha (by decide)
    rw [C0 a (by omega) h46 (by omega), G a (by omega)]
  · simp only [List.mem_cons, List.not_mem_nil, or_false, not_or] at hk2
    rw [F1 46 (by decide)]
    show upd (upd (upd (upd (σ1 46) 14 _) 15 _) 16 _) 17 _ k = _
    rw [pk_un (by omega), pk_un (by omega), pk_un (by omega), pk_un (by omega), G46]
theorem pp_back {G : jr_G} {d : Nat} {σ : jr_Sg} (h : IV σ) : jr_pair G (d + 20) mi_X9_back mi_X10_back [] σ := by
  obtain ⟨T, n, nf, nc, kd, se, lw, tp, h⟩ := h
  have hh := h
  obtain ⟨hTC, hTR, ⟨hsc, hsr, hl1, hl2, hlw, hfc, hli, hca⟩, htp, himg, hsh, hrest, hwd⟩ := hh
  have hnf := hsc.1
  have h5 := hsc.2.1
  have hnc := hsc.2.2.1
  have h8 := hsc.2.2.2.1
  have rnf := hsr.1
  have rnc := hsr.2.2.1
  have hlm := hrest.2.2.2.1
  unfold jr_pair
  rcases himg with ⟨i1, i2⟩ | ⟨i1, i2, inf, inc, il, j1, j2, j3, j4, j5, j6, j7, j8, j9, j10, j11, j12, j13⟩
  · refine jr_enter (L := [some (.ref 0)]) (by decide) (Nat.le_of_ble_eq_true rfl) rfl ?_
    refine jr_aload_n 0 1 dX9_back_0 rfl rfl rfl ?_
    refine gf_X9_61 4 dX9_back_1 rfl rfl rfl rfl ?_
    refine jr_if_ne 10 7 dX9_back_4 rfl rfl (fun q => absurd q (by first | exact fun z => z i1 | exact fun z => absurd i1 z)) (fun q4 => ?_)
    refine jr_bipush ((-3)) 9 dX9_back_7 rfl rfl ?_
    refine jr_ireturn dX9_back_9 rfl rfl ?_
    refine jr_enter (L := [some (.ref 46), none]) (by decide) (Nat.le_of_ble_eq_true rfl) rfl ?_
    refine jr_aload_n 0 1 dX10_back_0 rfl rfl rfl ?_
    refine gf_X10_338 4 dX10_back_1 rfl rfl rfl rfl ?_
    refine jr_if_ne 10 7 dX10_back_4 rfl rfl (fun q => absurd q (by first | exact fun z => z i2 | exact fun z => absurd i2 z)) (fun q4 => ?_)
    refine jr_bipush ((-3)) 9 dX10_back_7 rfl rfl ?_
    refine jr_ireturn dX10_back_9 rfl rfl ?_
    exact ⟨rfl, IV_mov (iv_same_x (jr_eqx_rf [] _) (by decide)) h⟩
  · refine jr_enter (L := [some (.ref 0)]) (by decide) (Nat.le_of_ble_eq_true rfl) rfl ?_
    refine jr_aload_n 0 1 dX9_back_0 rfl rfl rfl ?_
    refine gf_X9_61 4 dX9_back_1 rfl rfl rfl rfl ?_
    refine jr_if_ne 10 7 dX9_back_4 rfl rfl (fun q4 => ?_) (fun q => absurd q (show ¬ σ 0 8 = 0 by rw [i1]; decide))
    refine jr_aload_n 0 11 dX9_back_10 rfl rfl rfl ?_
    refine gf_X9_44 14 dX9_back_11 rfl rfl rfl rfl ?_
    refine jr_aload_n 0 15 dX9_back_14 rfl rfl rfl ?_
    refine gf_X9_51 18 dX9_back_15 rfl rfl rfl rfl ?_
    refine cs_X9_225 21 dX9_back_18 rfl rfl rfl (Nat.le_of_ble_eq_true rfl) (wp_become_15_33 (fun σ1 b => ?_))
    refine jr_aload_n 0 22 dX9_back_21 rfl rfl rfl ?_
    refine gf_X9_44 25 dX9_back_22 rfl rfl rfl rfl ?_
    refine gf_X9_84 28 dX9_back_25 rfl rfl rfl rfl ?_
    refine jr_ireturn dX9_back_28 rfl rfl ?_
    refine jr_enter (L := [some (.ref 46), none]) (by decide) (Nat.le_of_ble_eq_true rfl) rfl ?_
    refine jr_aload_n 0 1 dX10_back_0 rfl rfl rfl ?_
    refine gf_X10_338 4 dX10_back_1 rfl rfl rfl rfl ?_
    refine jr_if_ne 10 7 dX10_back_4 rfl rfl (fun q4 => ?_) (fun q => absurd q (show ¬ σ1 46 14 = 0 by rw [b.1 46 (by omega), i2]; decide))
    refine jr_aload_n 0 11 dX10_back_10 rfl rfl rfl ?_
    refine jr_aload_n 0 12 dX10_back_11 rfl rfl rfl ?_
    refine gf_X10_342 15 dX10_back_12 rfl rfl rfl rfl ?_
    refine jr_topi (y := σ1 46 15) rfl ?_
    refine pf_X10_105 18 dX10_back_15 rfl rfl rfl rfl ?_
    refine jr_aload_n 0 19 dX10_back_18 rfl rfl rfl ?_
    refine jr_aload_n 0 20 dX10_back_19 rfl rfl rfl ?_
    refine gf_X10_345 23 dX10_back_20 rfl rfl rfl rfl ?_
    refine jr_topi (y := σ1 46 16) rfl ?_
    refine pf_X10_112 26 dX10_back_23 rfl rfl rfl rfl ?_
    refine jr_aload_n 0 27 dX10_back_26 rfl rfl rfl ?_
    refine jr_aload_n 0 28 dX10_back_27 rfl rfl rfl ?_
    refine gf_X10_348 31 dX10_back_28 rfl rfl rfl rfl ?_
    refine jr_topi (y := σ1 46 17) rfl ?_
    refine pf_X10_118 34 dX10_back_31 rfl rfl rfl rfl ?_
    refine jr_iconst (nI 0) 35 dX10_back_34 rfl rfl ?_
    refine jr_istore_n 1 (L' := [_, _]) 36 dX10_back_35 rfl rfl (by decide) rfl ?_
    refine back_l1 (fun σ2 p1 p2 p3 => ?_) 5 0 _ (by omega) (fun _ _ _ => rfl) ⟨fun q hq => absurd hq (Nat.not_lt_zero q), fun q hq => absurd hq (Nat.not_lt_zero q)⟩ ⟨fun _ _ => rfl, fun _ _ => rfl⟩
    refine jr_iconst (nI 0) 74 dX10_back_73 rfl rfl ?_
    refine jr_istore_n 1 (L' := [_, _]) 75 dX10_back_74 rfl rfl (by decide) rfl ?_
    refine back_l2 (fun σ3 q1 q2 q3 => ?_) 8 0 _ (by omega) (fun _ _ => rfl) (fun q hq => absurd hq (Nat.not_lt_zero q)) (fun _ _ => rfl)
    refine jr_iconst (nI 0) 103 dX10_back_102 rfl rfl ?_
    refine jr_istore_n 1 (L' := [_, _]) 104 dX10_back_103 rfl rfl (by decide) rfl ?_
    refine back_l3 (fun σ4 r1 r2 r3 => ?_) 24 0 _ (by omega) (fun _ _ => rfl) (fun q hq => absurd hq (Nat.not_lt_zero q)) (fun _ _ => rfl)
    refine jr_aload_n 0 132 dX10_back_131 rfl rfl rfl ?_
    refine gf_X10_105 135 dX10_back_132 rfl rfl rfl rfl ?_
    refine jr_ireturn dX10_back_135 rfl rfl ?_
    have G : ∀ a, a < 15 ∨ 15 + 8 < a → σ1 a = σ a := b.1
    have G46 : σ1 46 = σ 46 := G 46 (by omega)
    have F1 : ∀ a, a ≠ 50 → a ≠ 51 → a ≠ 47 → a ≠ 52 → σ4 a = (jr_up (jr_up (jr_up σ1 46 1 (σ1 46 15)) 46 6 (σ1 46 16)) 46 13 (σ1 46 17)) a := fun a h0 h1 h7 h2 => by rw [r1 a h2, q1 a h7, p1 a h0 h1]
    have C0 : ∀ a, a ≠ 46 → a ≠ 50 → a ≠ 51 → a ≠ 47 → a ≠ 52 → σ4 a = σ1 a := fun a h6 h0 h1 h7 h2 => by
      rw [F1 a h0 h1 h7 h2]
      simp only [jr_up]
      rw [if_neg h6, if_neg h6, if_neg h6]
    have P56 : σ4 56 = σ 56 := by rw [C0 56 (by decide) (by decide) (by decide) (by decide) (by decide), G 56 (by omega)]
    have E50 : ∀ q, q < 5 → σ4 50 q = σ 56 q := fun q hq => by rw [r1 50 (by decide), q1 50 (by decide), p2.1 q hq]; show σ1 56 q = _; rw [G 56 (by omega)]
    have E51 : ∀ q, q < 5 → σ4 51 q = σ 56 (5 + q) := fun q hq => by rw [r1 51 (by decide), q1 51 (by decide), p2.2 q hq]; show σ1 56 _ = _; rw [G 56 (by omega)]
    have E47 : ∀ q, q < 8 → σ4 47 q = σ 56 (10 + q) := fun q hq => by rw [r1 47 (by decide), q2 q hq, p1 56 (by decide) (by decide)]; show σ1 56 _ = _; rw [G 56 (by omega)]
    have E52 : ∀ q, q < 24 → σ4 52 q = σ 56 (18 + q) := fun q hq => by rw [r2 q hq, q1 56 (by decide), p1 56 (by decide) (by decide)]; show σ1 56 _ = _; rw [G 56 (by omega)]
    have M1 : σ4 46 1 = nI inf := by rw [F1 46 (by decide) (by decide) (by decide) (by decide)]; show σ1 46 15 = _; rw [G46]; exact j6
    have M2 : σ4 46 6 = nI inc := by rw [F1 46 (by decide) (by decide) (by decide) (by decide)]; show σ1 46 16 = _; rw [G46]; exact j8
    have M3 : σ4 46 13 = nI il := by rw [F1 46 (by decide) (by decide) (by decide) (by decide)]; show σ1 46 17 = _; rw [G46]; exact j10
    have K15 : ∀ k, σ4 15 k = σ1 15 k := fun k => by rw [C0 15 (by decide) (by decide) (by decide) (by decide) (by decide)]
    have N1 : σ4 15 8 = nI inf := by rw [K15, b.2.2.2.1]; exact j5
    have N2 : σ4 15 9 = nI inc := by rw [K15, b.2.2.2.2.1]; exact j7
    have N3 : σ4 15 10 = nI il := by rw [K15, b.2.2.2.2.2]; exact j9
    have D : ∀ a, 15 < a → a < 24 → σ4 a = σ1 a := fun a h1 h2 => C0 a (by omega) (by omega) (by omega) (by omega) (by omega)
    have X16 : ∀ f, f < inf → σ4 16 f = σ 34 f ∧ σ4 17 f = σ 35 f ∧ σ4 18 f = σ 36 f ∧ σ4 19 f = σ 37 f := fun f hf => by
      rw [D 16 (by omega) (by omega), D 17 (by omega) (by omega), D 18 (by omega) (by omega), D 19 (by omega) (by omega)]
      exact b.2.1 f (by omega)
    have X20 : ∀ f, f < 8 → σ4 20 f = σ 38 f ∧ σ4 21 f = σ 39 f ∧ σ4 22 f = σ 40 f ∧ σ4 23 f = σ 41 f := fun f hf => by
      rw [D 20 (by omega) (by omega), D 21 (by omega) (by omega), D 22 (by omega) (by omega), D 23 (by omega) (by omega)]
      exact b.2.2.1 f hf
    have S8 : ∀ f, f < inf → (σ 56 (5 + f)).toNatClampNeg < 8 ∧ σ 56 (5 + f) = nI ((σ 56 (5 + f)).toNatClampNeg) := fun f hf => by
      obtain ⟨s, hs, e⟩ := (j11 f hf).2.2.2.2.2
      rw [e, nI_clamp (by omega)]
      exact ⟨hs, rfl⟩
    have Q : ∀ a, 24 ≤ a → a ≠ 46 → a ≠ 50 → a ≠ 51 → a ≠ 47 → a ≠ 52 → σ4 a = σ a := fun a h0 h6 h1 h2 h3 h4 => by rw [C0 a h6 h1 h2 h3 h4, G a (by omega)]
    have SC : iv_sc inf inc kd (fun f => (σ 56 (5 + f)).toNatClampNeg) il n σ4 := by
      refine ⟨⟨N1, j2, N2, j3, fun f hf => ⟨(hsr.2.2.2.2 f (by omega)).1, (S8 f hf).1, ?_, ?_⟩⟩, ⟨M1, j2, M2, j3, fun f hf => ⟨(hsr.2.2.2.2 f (by omega)).1, (S8 f hf).1, ?_, ?_, ?_⟩⟩, N3, M3, j4, fun f hf => ⟨?_, ?_, ?_⟩, fun s hs => ⟨?_, ?_⟩, fun k hk => ⟨?_, ?_, ?_⟩⟩
      · exact (X16 f hf).1.trans ((j11 f hf).1.trans (hsc.2.2.2.2 f (by omega)).2.2.1)
      · exact (X16 f hf).2.2.2.trans ((j11 f hf).2.2.2.1.trans (S8 f hf).2)
      · rw [Q 48 (by omega) (by decide) (by decide) (by decide) (by decide) (by decide)]; exact (hsr.2.2.2.2 f (by omega)).2.2.1
      · rw [E51 f (by omega)]; exact (S8 f hf).2
      · rw [Q 49 (by omega) (by decide) (by decide) (by decide) (by decide) (by decide)]; exact (hsr.2.2.2.2 f (by omega)).2.2.2.2
      · rw [Q 49 (by omega) (by decide) (by decide) (by decide) (by decide) (by decide)]; exact (X16 f hf).2.1.trans ((j11 f hf).2.1.trans (hfc f (by omega)).1)
      · rw [E50 f (by omega)]; exact (X16 f hf).2.2.1.trans (j11 f hf).2.2.1
      · rw [E50 f (by omega)]; exact (j11 f hf).2.2.2.2.1
      · rw [E47 s hs]; exact (X20 s hs).1.trans (j12 s hs).1
      · rw [E47 s hs]; exact (j12 s hs).2
      · rw [E52 (3 * k) (by omega)]; exact (X20 k (by omega)).2.1.trans (j13 k hk).1
      · rw [E52 (3 * k + 1) (by omega)]; exact (X20 k (by omega)).2.2.1.trans (j13 k hk).2.1
      · rw [E52 (3 * k + 2) (by omega)]; exact (X20 k (by omega)).2.2.2.trans (j13 k hk).2.2
    have Q3 : ∀ a, 33 ≤ a → a ≤ 41 → σ4 a = σ a := fun a h1 h2 => Q a (by omega) (by omega) (by omega) (by omega) (by omega) (by omega)
    have U : ∀ k, k ≠ 1 → k ≠ 6 → k ≠ 13 → σ4 46 k = σ 46 k := fun k h1 h2 h3 => by
      rw [F1 46 (by decide) (by decide) (by decide) (by decide)]
      show upd (upd (upd (σ1 46) 1 _) 6 _) 13 _ k = _
      rw [pk_un h3, pk_un h2, pk_un h1, G46]
    have IM : iv_img inf n σ4 := by
      refine Or.inr ⟨?_, by rw [U 14 (by decide) (by decide) (by decide)]; exact i2, inf, inc, il, Nat.le_refl _, j2, j3, j4, by rw [Q3 33 (by omega) (by omega)]; exact j5, by rw [U 15 (by decide) (by decide) (by decide)]; exact j6, by rw [Q3 33 (by omega) (by omega)]; exact j7, by rw [U 16 (by decide) (by decide) (by decide)]; exact j8, by rw [Q3 33 (by omega) (by omega)]; exact j9, by rw [U 17 (by decide) (by decide) (by decide)]; exact j10, fun f hf => ?_, fun s hs => ?_, fun k hk => ?_⟩
      · rw [C0 0 (by decide) (by decide) (by decide) (by decide) (by decide), G 0 (by omega)]; exact i1
      · rw [Q3 34 (by omega) (by omega), Q3 35 (by omega) (by omega), Q3 36 (by omega) (by omega), Q3 37 (by omega) (by omega), P56]
        exact ⟨(X16 f hf).1.symm, (X16 f hf).2.1.symm, (j11 f hf).2.2⟩
      · rw [Q3 38 (by omega) (by omega), P56]; exact j12 s hs
      · rw [Q3 39 (by omega) (by omega), Q3 40 (by omega) (by omega), Q3 41 (by omega) (by omega), P56]; exact j13 k hk
    refine ⟨congrArg Value.int ?_, T, n, inf, inc, kd, _, il, tp, iv_scs h (fun a ha ha2 => ?_) (fun k hk hk2 => ?_) SC IM⟩
    · rw [M1, ← N1, K15]
    · simp only [List.mem_cons, not_or] at ha2
      have h46 : a ≠ 46 := by rintro rfl; exact absurd ha (by decide)
      rw [C0 a h46 (by omega) (by omega) (by omega) (by omega), G a (by omega)]
    · simp only [List.mem_cons, List.not_mem_nil, or_false, not_or] at hk2
      exact U k (by omega) (by omega) (by omega)

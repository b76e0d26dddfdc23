/-- an other image -/
theorem iv_imgs {T : Nat → Nat → List Nat} {n nf nc : Nat} {kd se : Nat → Nat} {lw tp : Nat} {σ σ' : jr_Sg} (h : iv T n nf nc kd se lw tp σ) (hc : ∀ a, a ∈ iv_cells → a ∉ [0, 33, 34, 35, 36, 37, 38, 39, 40, 41, 56] → σ' a = σ a) (hf : ∀ k, k ∈ iv_flds → k ∉ [14, 15, 16, 17] → σ' 46 k = σ 46 k) (hi : iv_img nf n σ') : iv T n nf nc kd se lw tp σ' := by
  have h2 : iv T n nf nc kd se lw tp (fun a => if a ∈ [0, 33, 34, 35, 36, 37, 38, 39, 40, 41, 56] then σ a else if a = 46 then (fun k => if k ∈ [14, 15, 16, 17] then σ 46 k else σ' 46 k) else σ' a) := iv_mov ⟨fun a ha => by
    have h46 : ¬ a = 46 := by revert a; decide
    by_cases e : a ∈ [0, 33, 34, 35, 36, 37, 38, 39, 40, 41, 56]
    · show (if a ∈ [0, 33, 34, 35, 36, 37, 38, 39, 40, 41, 56] then σ a else _) = _
      rw [if_pos e]
    · show (if a ∈ [0, 33, 34, 35, 36, 37, 38, 39, 40, 41, 56] then σ a else if a = 46 then (fun k => if k ∈ [14, 15, 16, 17] then σ 46 k else σ' 46 k) else σ' a) = _
      rw [if_neg e, if_neg h46]; exact hc a ha e, fun k hk => by
    show (if k ∈ [14, 15, 16, 17] then σ 46 k else σ' 46 k) = _
    by_cases e : k ∈ [14, 15, 16, 17]
    · rw [if_pos e]
    · rw [if_neg e]; exact hf k hk e⟩ h
  obtain ⟨a1, a2, a3, a4, a5, a6, a7, a8⟩ := h2
  exact ⟨a1, a2, a3, a4, hi, a6, a7, a8⟩
/-- an other scene -/
theorem iv_scs {T : Nat → Nat → List Nat} {n nf nc nf' nc' lw' : Nat} {kd se kd' se' : Nat → Nat} {lw tp : Nat} {σ σ' : jr_Sg} (h : iv T n nf nc kd se lw tp σ) (hc : ∀ a, a ∈ iv_cells → a ∉ [15, 16, 17, 18, 19, 20, 21, 22, 23, 47, 48, 49, 50, 51, 52] → σ' a = σ a) (hf : ∀ k, k ∈ iv_flds → k ∉ [1, 6, 13] → σ' 46 k = σ 46 k) (hs : iv_sc nf' nc' kd' se' lw' n σ') (hi : iv_img nf' n σ') : iv T n nf' nc' kd' se' lw' tp σ' := by
  have h2 : iv T n nf nc kd se lw tp (fun a => if a ∈ [15, 16, 17, 18, 19, 20, 21, 22, 23, 47, 48, 49, 50, 51, 52] then σ a else if a = 46 then (fun k => if k ∈ [1, 6, 13] then σ 46 k else σ' 46 k) else σ' a) := iv_mov ⟨fun a ha => by
    have h46 : ¬ a = 46 := by revert a; decide
    by_cases e : a ∈ [15, 16, 17, 18, 19, 20, 21, 22, 23, 47, 48, 49, 50, 51, 52]
    · show (if a ∈ [15, 16, 17, 18, 19, 20, 21, 22, 23, 47, 48, 49, 50, 51, 52] then σ a else _) = _
      rw [if_pos e]
    · show (if a ∈ [15, 16, 17, 18, 19, 20, 21, 22, 23, 47, 48, 49, 50, 51, 52] then σ a else if a = 46 then (fun k => if k ∈ [1, 6, 13] then σ 46 k else σ' 46 k) else σ' a) = _
      rw [if_neg e, if_neg h46]; exact hc a ha e, fun k hk => by
    show (if k ∈ [1, 6, 13] then σ 46 k else σ' 46 k) = _
    by_cases e : k ∈ [1, 6, 13]
    · rw [if_pos e]
    · rw [if_neg e]; exact hf k hk e⟩ h
  obtain ⟨a1, a2, a3, a4, a5, a6, a7, a8⟩ := h2
  exact ⟨a1, a2, hs, a4, hi, a6, a7, a8⟩
/-- an other tape -/
theorem iv_tapes {T : Nat → Nat → List Nat} {n nf nc tp' : Nat} {kd se : Nat → Nat} {lw tp : Nat} {σ σ' : jr_Sg} (h : iv T n nf nc kd se lw tp σ) (hc : ∀ a, a ∈ iv_cells → a ∉ [5, 6, 53] → σ' a = σ a) (hf : ∀ k, k ∈ iv_flds → k ∉ [9] → σ' 46 k = σ 46 k) (ht : iv_tape tp' σ') : iv T n nf nc kd se lw tp' σ' := by
  have h2 : iv T n nf nc kd se lw tp (fun a => if a ∈ [5, 6, 53] then σ a else if a = 46 then (fun k => if k ∈ [9] then σ 46 k else σ' 46 k) else σ' a) := iv_mov ⟨fun a ha => by
    have h46 : ¬ a = 46 := by revert a; decide
    by_cases e : a ∈ [5, 6, 53]
    · show (if a ∈ [5, 6, 53] then σ a else _) = _
      rw [if_pos e]
    · show (if a ∈ [5, 6, 53] then σ a else if a = 46 then (fun k => if k ∈ [9] then σ 46 k else σ' 46 k) else σ' a) = _
      rw [if_neg e, if_neg h46]; exact hc a ha e, fun k hk => by
    show (if k ∈ [9] then σ 46 k else σ' 46 k) = _
    by_cases e : k ∈ [9]
    · rw [if_pos e]
    · rw [if_neg e]; exact hf k hk e⟩ h
  obtain ⟨a1, a2, a3, a4, a5, a6, a7, a8⟩ := h2
  exact ⟨a1, a2, a3, ht, a5, a6, a7, a8⟩
theorem image_l1 {G : jr_G} {d : Nat} {σ : jr_Sg} {k : Value → jr_Sg → Prop} (fin : ∀ σ' : jr_Sg, (∀ a, a ≠ 56 → σ' a = σ a) → (∀ q, q < 5 → σ' 56 (q) = σ 50 (q)) ∧ (∀ q, q < 5 → σ' 56 (5 + q) = σ 51 (q)) → (∀ p, (∀ q, q < 5 → p ≠ q ∧ p ≠ 5 + q) → σ' 56 p = σ 56 p) → jr_R G d mi_X10_image (jr_k k) 68 [some (.ref 46), some (.int (nI 5))] [] σ') : ∀ (m i : Nat) (σ2 : jr_Sg), i + m = 5 → (∀ a, a ≠ 56 → σ2 a = σ a) → (∀ q, q < i → σ2 56 (q) = σ 50 (q)) ∧ (∀ q, q < i → σ2 56 (5 + q) = σ 51 (q)) → (∀ p, (∀ q, q < i → p ≠ q ∧ p ≠ 5 + q) → σ2 56 p = σ 56 p) → jr_R G d mi_X10_image (jr_k k) 31 [some (.ref 46), some (.int (nI i))] [] σ2 := by
  intro m
  induction m with
  | zero =>
    intro i σ2 hi g1 g2 g3
    have ei : i = 5 := hi
    subst ei
    refine jr_iload_n 1 32 dX10_image_31 rfl rfl rfl ?_
    refine jr_iconst (nI 5) 33 dX10_image_32 rfl rfl ?_
    refine jr_icmp_ge 68 36 dX10_image_33 rfl rfl (fun q33 => ?_) (fun z => absurd (by decide) z)
    exact fin σ2 g1 g2 g3
  | succ m ih =>
    intro i σ2 hi g1 g2 g3
    refine jr_iload_n 1 32 dX10_image_31 rfl rfl rfl ?_
    refine jr_iconst (nI 5) 33 dX10_image_32 rfl rfl ?_
    refine jr_icmp_ge 68 36 dX10_image_33 rfl rfl (fun z => absurd z (nI_ge (b := 5) (by omega) (by decide))) (fun q33 => ?_)
    refine jr_aload_n 0 37 dX10_image_36 rfl rfl rfl ?_
    refine gf_X10_37 40 dX10_image_37 rfl rfl rfl rfl ?_
    refine jr_iload_n 1 41 dX10_image_40 rfl rfl rfl ?_
    refine jr_aload_n 0 42 dX10_image_41 rfl rfl rfl ?_
    refine gf_X10_19 45 dX10_image_42 rfl rfl rfl rfl ?_
    refine jr_iload_n 1 46 dX10_image_45 rfl rfl rfl ?_
    refine jr_iald rfl rfl (by omega) 47 dX10_image_46 rfl ?_
    refine jr_iast rfl rfl (by omega) 48 dX10_image_47 rfl ?_
    refine jr_aload_n 0 49 dX10_image_48 rfl rfl rfl ?_
    refine gf_X10_37 52 dX10_image_49 rfl rfl rfl rfl ?_
    refine jr_iconst (nI 5) 53 dX10_image_52 rfl rfl ?_
    refine jr_iload_n 1 54 dX10_image_53 rfl rfl rfl ?_
    refine jr_iadd 55 dX10_image_54 rfl ?_
    refine jr_aload_n 0 56 dX10_image_55 rfl rfl rfl ?_
    refine gf_X10_22 59 dX10_image_56 rfl rfl rfl rfl ?_
    refine jr_iload_n 1 60 dX10_image_59 rfl rfl rfl ?_
    refine jr_iald rfl rfl (by omega) 61 dX10_image_60 rfl ?_
    refine jr_iast rfl (show nI 5 + nI i = nI (5 + i) from nI_add _ _) (by omega) 62 dX10_image_61 rfl ?_
    refine jr_iinc (v := nI (i + 1)) (L' := [_, _]) 65 dX10_image_62 rfl rfl (nI_1 i) (by decide) rfl ?_
    refine jr_goto 31 dX10_image_65 rfl ?_
    refine ih (i + 1) _ (by omega) (fun a h56 => ?_) ?_ ?_
    · simp only [jr_up]
      rw [if_neg h56, if_neg h56]
      exact g1 a h56
    · exact ⟨(fun q hq => by
        show (upd (upd (σ2 56) (i) (σ2 50 (i))) (5 + i) (σ2 51 (i))) (q) = _
        by_cases e : q = i
        · subst e
          rw [pk_un (by omega), pk_us]
          exact congrFun (g1 50 (by decide)) _
        · rw [pk_un (by omega), pk_un (by omega)]; exact g2.1 q (by omega)), (fun q hq => by
        show (upd (upd (σ2 56) (i) (σ2 50 (i))) (5 + i) (σ2 51 (i))) (5 + q) = _
        by_cases e : q = i
        · subst e
          rw [pk_us]
          exact congrFun (g1 51 (by decide)) _
        · rw [pk_un (by omega), pk_un (by omega)]; exact g2.2 q (by omega))⟩
    · exact (fun p hp => by
        show (upd (upd (σ2 56) (i) (σ2 50 (i))) (5 + i) (σ2 51 (i))) p = _
        rw [pk_un ((hp i (by omega)).2), pk_un ((hp i (by omega)).1)]
        exact g3 p (fun q hq => hp q (by omega)))
theorem image_l2 {G : jr_G} {d : Nat} {σ : jr_Sg} {k : Value → jr_Sg → Prop} (fin : ∀ σ' : jr_Sg, (∀ a, a ≠ 56 → σ' a = σ a) → (∀ q, q < 8 → σ' 56 (10 + q) = σ 47 (q)) → (∀ p, (∀ q, q < 8 → p ≠ 10 + q) → σ' 56 p = σ 56 p) → jr_R G d mi_X10_image (jr_k k) 97 [some (.ref 46), some (.int (nI 8))] [] σ') : ∀ (m i : Nat) (σ2 : jr_Sg), i + m = 8 → (∀ a, a ≠ 56 → σ2 a = σ a) → (∀ q, q < i → σ2 56 (10 + q) = σ 47 (q)) → (∀ p, (∀ q, q < i → p ≠ 10 + q) → σ2 56 p = σ 56 p) → jr_R G d mi_X10_image (jr_k k) 70 [some (.ref 46), some (.int (nI i))] [] σ2 := by
  intro m
  induction m with
  | zero =>
    intro i σ2 hi g1 g2 g3
    have ei : i = 8 := hi
    subst ei
    refine jr_iload_n 1 71 dX10_image_70 rfl rfl rfl ?_
    refine jr_bipush (nI 8) 73 dX10_image_71 rfl rfl ?_
    refine jr_icmp_ge 97 76 dX10_image_73 rfl rfl (fun q73 => ?_) (fun z => absurd (by decide) z)
    exact fin σ2 g1 g2 g3
  | succ m ih =>
    intro i σ2 hi g1 g2 g3
    refine jr_iload_n 1 71 dX10_image_70 rfl rfl rfl ?_
    refine jr_bipush (nI 8) 73 dX10_image_71 rfl rfl ?_
    refine jr_icmp_ge 97 76 dX10_image_73 rfl rfl (fun z => absurd z (nI_ge (b := 8) (by omega) (by decide))) (fun q73 => ?_)
    refine jr_aload_n 0 77 dX10_image_76 rfl rfl rfl ?_
    refine gf_X10_37 80 dX10_image_77 rfl rfl rfl rfl ?_
    refine jr_bipush (nI 10) 82 dX10_image_80 rfl rfl ?_
    refine jr_iload_n 1 83 dX10_image_82 rfl rfl rfl ?_
    refine jr_iadd 84 dX10_image_83 rfl ?_
    refine jr_aload_n 0 85 dX10_image_84 rfl rfl rfl ?_
    refine gf_X10_7 88 dX10_image_85 rfl rfl rfl rfl ?_
    refine jr_iload_n 1 89 dX10_image_88 rfl rfl rfl ?_
    refine jr_iald rfl rfl (by omega) 90 dX10_image_89 rfl ?_
    refine jr_iast rfl (show nI 10 + nI i = nI (10 + i) from nI_add _ _) (by omega) 91 dX10_image_90 rfl ?_
    refine jr_iinc (v := nI (i + 1)) (L' := [_, _]) 94 dX10_image_91 rfl rfl (nI_1 i) (by decide) rfl ?_
    refine jr_goto 70 dX10_image_94 rfl ?_
    refine ih (i + 1) _ (by omega) (fun a h56 => ?_) ?_ ?_
    · simp only [jr_up]
      rw [if_neg h56]
      exact g1 a h56
    · exact (fun q hq => by
        show (upd (σ2 56) (10 + i) (σ2 47 (i))) (10 + q) = _
        by_cases e : q = i
        · subst e
          rw [pk_us]
          exact congrFun (g1 47 (by decide)) _
        · rw [pk_un (by omega)]; exact g2 q (by omega))
    · exact (fun p hp => by
        show (upd (σ2 56) (10 + i) (σ2 47 (i))) p = _
        rw [pk_un (hp i (by omega))]
        exact g3 p (fun q hq => hp q (by omega)))
theorem image_l3 {G : jr_G} {d : Nat} {σ : jr_Sg} {k : Value → jr_Sg → Prop} (fin : ∀ σ' : jr_Sg, (∀ a, a ≠ 56 → σ' a = σ a) → (∀ q, q < 24 → σ' 56 (18 + q) = σ 52 (q)) → (∀ p, (∀ q, q < 24 → p ≠ 18 + q) → σ' 56 p = σ 56 p) → jr_R G d mi_X10_image (jr_k k) 126 [some (.ref 46), some (.int (nI 24))] [] σ') : ∀ (m i : Nat) (σ2 : jr_Sg), i + m = 24 → (∀ a, a ≠ 56 → σ2 a = σ a) → (∀ q, q < i → σ2 56 (18 + q) = σ 52 (q)) → (∀ p, (∀ q, q < i → p ≠ 18 + q) → σ2 56 p = σ 56 p) → jr_R G d mi_X10_image (jr_k k) 99 [some (.ref 46), some (.int (nI i))] [] σ2 := by
  intro m
  induction m with
  | zero =>
    intro i σ2 hi g1 g2 g3
    have ei : i = 24 := hi
    subst ei
    refine jr_iload_n 1 100 dX10_image_99 rfl rfl rfl ?_
    refine jr_bipush (nI 24) 102 dX10_image_100 rfl rfl ?_
    refine jr_icmp_ge 126 105 dX10_image_102 rfl rfl (fun q102 => ?_) (fun z => absurd (by decide) z)
    exact fin σ2 g1 g2 g3
  | succ m ih =>
    intro i σ2 hi g1 g2 g3
    refine jr_iload_n 1 100 dX10_image_99 rfl rfl rfl ?_
    refine jr_bipush (nI 24) 102 dX10_image_100 rfl rfl ?_
    refine jr_icmp_ge 126 105 dX10_image_102 rfl rfl (fun z => absurd z (nI_ge (b := 24) (by omega) (by decide))) (fun q102 => ?_)
    refine jr_aload_n 0 106 dX10_image_105 rfl rfl rfl ?_
    refine gf_X10_37 109 dX10_image_106 rfl rfl rfl rfl ?_
    refine jr_bipush (nI 18) 111 dX10_image_109 rfl rfl ?_
    refine jr_iload_n 1 112 dX10_image_111 rfl rfl rfl ?_
    refine jr_iadd 113 dX10_image_112 rfl ?_
    refine jr_aload_n 0 114 dX10_image_113 rfl rfl rfl ?_
    refine gf_X10_25 117 dX10_image_114 rfl rfl rfl rfl ?_
    refine jr_iload_n 1 118 dX10_image_117 rfl rfl rfl ?_
    refine jr_iald rfl rfl (by omega) 119 dX10_image_118 rfl ?_
    refine jr_iast rfl (show nI 18 + nI i = nI (18 + i) from nI_add _ _) (by omega) 120 dX10_image_119 rfl ?_
    refine jr_iinc (v := nI (i + 1)) (L' := [_, _]) 123 dX10_image_120 rfl rfl (nI_1 i) (by decide) rfl ?_
    refine jr_goto 99 dX10_image_123 rfl ?_
    refine ih (i + 1) _ (by omega) (fun a h56 => ?_) ?_ ?_
    · simp only [jr_up]
      rw [if_neg h56]
      exact g1 a h56
    · exact (fun q hq => by
        show (upd (σ2 56) (18 + i) (σ2 52 (i))) (18 + q) = _
        by_cases e : q = i
        · subst e
          rw [pk_us]
          exact congrFun (g1 52 (by decide)) _
        · rw [pk_un (by omega)]; exact g2 q (by omega))
    · exact (fun p hp => by
        show (upd (σ2 56) (18 + i) (σ2 52 (i))) p = _
        rw [pk_un (hp i (by omega))]
        exact g3 p (fun q hq => hp q (by omega)))
theorem back_l1 {G : jr_G} {d : Nat} {σ : jr_Sg} {k : Value → jr_Sg → Prop} (fin : ∀ σ' : jr_Sg, (∀ a, a ≠ 50 → a ≠ 51 → σ' a = σ a) → (∀ q, q < 5 → σ' 50 (q) = σ 56 (q)) ∧ (∀ q, q < 5 → σ' 51 (q) = σ 56 (5 + q)) → (∀ p, (∀ q, q < 5 → p ≠ q) → σ' 50 p = σ 50 p) ∧ (∀ p, (∀ q, q < 5 → p ≠ q) → σ' 51 p = σ 51 p) → jr_R G d mi_X10_back (jr_k k) 73 [some (.ref 46), some (.int (nI 5))] [] σ') : ∀ (m i : Nat) (σ2 : jr_Sg), i + m = 5 → (∀ a, a ≠ 50 → a ≠ 51 → σ2 a = σ a) → (∀ q, q < i → σ2 50 (q) = σ 56 (q)) ∧ (∀ q, q < i → σ2 51 (q) = σ 56 (5 + q)) → (∀ p, (∀ q, q < i → p ≠ q) → σ2 50 p = σ 50 p) ∧ (∀ p, (∀ q, q < i → p ≠ q) → σ2 51 p = σ 51 p) → jr_R G d mi_X10_back (jr_k k) 36 [some (.ref 46), some (.int (nI i))] [] σ2 := by
  intro m
  induction m with
  | zero =>
    intro i σ2 hi g1 g2 g3
    have ei : i = 5 := hi
    subst ei
    refine jr_iload_n 1 37 dX10_back_36 rfl rfl rfl ?_
    refine jr_iconst (nI 5) 38 dX10_back_37 rfl rfl ?_
    refine jr_icmp_ge 73 41 dX10_back_38 rfl rfl (fun q38 => ?_) (fun z => absurd (by decide) z)
    exact fin σ2 g1 g2 g3
  | succ m ih =>
    intro i σ2 hi g1 g2 g3
    refine jr_iload_n 1 37 dX10_back_36 rfl rfl rfl ?_
    refine jr_iconst (nI 5) 38 dX10_back_37 rfl rfl ?_
    refine jr_icmp_ge 73 41 dX10_back_38 rfl rfl (fun z => absurd z (nI_ge (b := 5) (by omega) (by decide))) (fun q38 => ?_)
    refine jr_aload_n 0 42 dX10_back_41 rfl rfl rfl ?_
    refine gf_X10_19 45 dX10_back_42 rfl rfl rfl rfl ?_
    refine jr_iload_n 1 46 dX10_back_45 rfl rfl rfl ?_
    refine jr_aload_n 0 47 dX10_back_46 rfl rfl rfl ?_
    refine gf_X10_37 50 dX10_back_47 rfl rfl rfl rfl ?_
    refine jr_iload_n 1 51 dX10_back_50 rfl rfl rfl ?_
    refine jr_iald rfl rfl (by omega) 52 dX10_back_51 rfl ?_
    refine jr_iast rfl rfl (by omega) 53 dX10_back_52 rfl ?_
    refine jr_aload_n 0 54 dX10_back_53 rfl rfl rfl ?_
    refine gf_X10_22 57 dX10_back_54 rfl rfl rfl rfl ?_
    refine jr_iload_n 1 58 dX10_back_57 rfl rfl rfl ?_
    refine jr_aload_n 0 59 dX10_back_58 rfl rfl rfl ?_
    refine gf_X10_37 62 dX10_back_59 rfl rfl rfl rfl ?_
    refine jr_iconst (nI 5) 63 dX10_back_62 rfl rfl ?_
    refine jr_iload_n 1 64 dX10_back_63 rfl rfl rfl ?_
    refine jr_iadd 65 dX10_back_64 rfl ?_
    refine jr_iald rfl (show nI 5 + nI i = nI (5 + i) from nI_add _ _) (by omega) 66 dX10_back_65 rfl ?_
    refine jr_iast rfl rfl (by omega) 67 dX10_back_66 rfl ?_
    refine jr_iinc (v := nI (i + 1)) (L' := [_, _]) 70 dX10_back_67 rfl rfl (nI_1 i) (by decide) rfl ?_
    refine jr_goto 36 dX10_back_70 rfl ?_
    refine ih (i + 1) _ (by omega) (fun a h50 h51 => ?_) ?_ ?_
    · simp only [jr_up]
      rw [if_neg h51, if_neg h50]
      exact g1 a h50 h51
    · exact ⟨(fun q hq => by
        show (upd (σ2 50) (i) (σ2 56 (i))) (q) = _
        by_cases e : q = i
        · subst e
          rw [pk_us]
          exact congrFun (g1 56 (by decide) (by decide)) _
        · rw [pk_un (by omega)]; exact g2.1 q (by omega)), (fun q hq => by
        show (upd (σ2 51) (i) (σ2 56 (5 + i))) (q) = _
        by_cases e : q = i
        · subst e
          rw [pk_us]
          exact congrFun (g1 56 (by decide) (by decide)) _
        · rw [pk_un (by omega)]; exact g2.2 q (by omega))⟩
    · exact ⟨(fun p hp => by
        show (upd (σ2 50) (i) (σ2 56 (i))) p = _
        rw [pk_un (hp i (by omega))]
        exact g3.1 p (fun q hq => hp q (by omega))), (fun p hp => by
        show (upd (σ2 51) (i) (σ2 56 (5 + i))) p = _
        rw [pk_un (hp i (by omega))]
        exact g3.2 p (fun q hq => hp q (by omega)))⟩
theorem back_l2 {G : jr_G} {d : Nat} {σ : jr_Sg} {k : Value → jr_Sg → Prop} (fin : ∀ σ' : jr_Sg, (∀ a, a ≠ 47 → σ' a = σ a) → (∀ q, q < 8 → σ' 47 (q) = σ 56 (10 + q)) → (∀ p, (∀ q, q < 8 → p ≠ q) → σ' 47 p = σ 47 p) → jr_R G d mi_X10_back (jr_k k) 102 [some (.ref 46), some (.int (nI 8))] [] σ') : ∀ (m i : Nat) (σ2 : jr_Sg), i + m = 8 → (∀ a, a ≠ 47 → σ2 a = σ a) → (∀ q, q < i → σ2 47 (q) = σ 56 (10 + q)) → (∀ p, (∀ q, q < i → p ≠ q) → σ2 47 p = σ 47 p) → jr_R G d mi_X10_back (jr_k k) 75 [some (.ref 46), some (.int (nI i))] [] σ2 := by
  intro m
  induction m with
  | zero =>
    intro i σ2 hi g1 g2 g3
    have ei : i = 8 := hi
    subst ei
    refine jr_iload_n 1 76 dX10_back_75 rfl rfl rfl ?_
    refine jr_bipush (nI 8) 78 dX10_back_76 rfl rfl ?_
    refine jr_icmp_ge 102 81 dX10_back_78 rfl rfl (fun q78 => ?_) (fun z => absurd (by decide) z)
    exact fin σ2 g1 g2 g3
  | succ m ih =>
    intro i σ2 hi g1 g2 g3
    refine jr_iload_n 1 76 dX10_back_75 rfl rfl rfl ?_
    refine jr_bipush (nI 8) 78 dX10_back_76 rfl rfl ?_
    refine jr_icmp_ge 102 81 dX10_back_78 rfl rfl (fun z => absurd z (nI_ge (b := 8) (by omega) (by decide))) (fun q78 => ?_)
    refine jr_aload_n 0 82 dX10_back_81 rfl rfl rfl ?_
    refine gf_X10_7 85 dX10_back_82 rfl rfl rfl rfl ?_
    refine jr_iload_n 1 86 dX10_back_85 rfl rfl rfl ?_
    refine jr_aload_n 0 87 dX10_back_86 rfl rfl rfl ?_
    refine gf_X10_37 90 dX10_back_87 rfl rfl rfl rfl ?_
    refine jr_bipush (nI 10) 92 dX10_back_90 rfl rfl ?_
    refine jr_iload_n 1 93 dX10_back_92 rfl rfl rfl ?_
    refine jr_iadd 94 dX10_back_93 rfl ?_
    refine jr_iald rfl (show nI 10 + nI i = nI (10 + i) from nI_add _ _) (by omega) 95 dX10_back_94 rfl ?_
    refine jr_iast rfl rfl (by omega) 96 dX10_back_95 rfl ?_
    refine jr_iinc (v := nI (i + 1)) (L' := [_, _]) 99 dX10_back_96 rfl rfl (nI_1 i) (by decide) rfl ?_
    refine jr_goto 75 dX10_back_99 rfl ?_
    refine ih (i + 1) _ (by omega) (fun a h47 => ?_) ?_ ?_
    · simp only [jr_up]
      rw [if_neg h47]
      exact g1 a h47
    · exact (fun q hq => by
        show (upd (σ2 47) (i) (σ2 56 (10 + i))) (q) = _
        by_cases e : q = i
        · subst e
          rw [pk_us]
          exact congrFun (g1 56 (by decide)) _
        · rw [pk_un (by omega)]; exact g2 q (by omega))
    · exact (fun p hp => by
        show (upd (σ2 47) (i) (σ2 56 (10 + i))) p = _
        rw [pk_un (hp i (by omega))]
        exact g3 p (fun q hq => hp q (by omega)))
theorem back_l3 {G : jr_G} {d : Nat} {σ : jr_Sg} {k : Value → jr_Sg → Prop} (fin : ∀ σ' : jr_Sg, (∀ a, a ≠ 52 → σ' a = σ a) → (∀ q, q < 24 → σ' 52 (q) = σ 56 (18 + q)) → (∀ p, (∀ q, q < 24 → p ≠ q) → σ' 52 p = σ 52 p) → jr_R G d mi_X10_back (jr_k k) 131 [some (.ref 46), some (.int (nI 24))] [] σ') : ∀ (m i : Nat) (σ2 : jr_Sg), i + m = 24 → (∀ a, a ≠ 52 → σ2 a = σ a) → (∀ q, q < i → σ2 52 (q) = σ 56 (18 + q)) → (∀ p, (∀ q, q < i → p ≠ q) → σ2 52 p = σ 52 p) → jr_R G d mi_X10_back (jr_k k) 104 [some (.ref 46), some (.int (nI i))] [] σ2 := by
  intro m
  induction m with
  | zero =>
    intro i σ2 hi g1 g2 g3
    have ei : i = 24 := hi
    subst ei
    refine jr_iload_n 1 105 dX10_back_104 rfl rfl rfl ?_
    refine jr_bipush (nI 24) 107 dX10_back_105 rfl rfl ?_
    refine jr_icmp_ge 131 110 dX10_back_107 rfl rfl (fun q107 => ?_) (fun z => absurd (by decide) z)
    exact fin σ2 g1 g2 g3
  | succ m ih =>
    intro i σ2 hi g1 g2 g3
    refine jr_iload_n 1 105 dX10_back_104 rfl rfl rfl ?_
    refine jr_bipush (nI 24) 107 dX10_back_105 rfl rfl ?_
    refine jr_icmp_ge 131 110 dX10_back_107 rfl rfl (fun z => absurd z (nI_ge (b := 24) (by omega) (by decide))) (fun q107 => ?_)
    refine jr_aload_n 0 111 dX10_back_110 rfl rfl rfl ?_
    refine gf_X10_25 114 dX10_back_111 rfl rfl rfl rfl ?_
    refine jr_iload_n 1 115 dX10_back_114 rfl rfl rfl ?_
    refine jr_aload_n 0 116 dX10_back_115 rfl rfl rfl ?_
    refine gf_X10_37 119 dX10_back_116 rfl rfl rfl rfl ?_
    refine jr_bipush (nI 18) 121 dX10_back_119 rfl rfl ?_
    refine jr_iload_n 1 122 dX10_back_121 rfl rfl rfl ?_
    refine jr_iadd 123 dX10_back_122 rfl ?_
    refine jr_iald rfl (show nI 18 + nI i = nI (18 + i) from nI_add _ _) (by omega) 124 dX10_back_123 rfl ?_
    refine jr_iast rfl rfl (by omega) 125 dX10_back_124 rfl ?_
    refine jr_iinc (v := nI (i + 1)) (L' := [_, _]) 128 dX10_back_125 rfl rfl (nI_1 i) (by decide) rfl ?_
    refine jr_goto 104 dX10_back_128 rfl ?_
    refine ih (i + 1) _ (by omega) (fun a h52 => ?_) ?_ ?_
    · simp only [jr_up]
      rw [if_neg h52]
      exact g1 a h52
    · exact (fun q hq => by
        show (upd (σ2 52) (i) (σ2 56 (18 + i))) (q) = _
        by_cases e : q = i
        · subst e
          rw [pk_us]
          exact congrFun (g1 56 (by decide)) _
        · rw [pk_un (by omega)]; exact g2 q (by omega))
    · exact (fun p hp => by
        show (upd (σ2 52) (i) (σ2 56 (18 + i))) p = _
        rw [pk_un (hp i (by omega))]
        exact g3 p (fun q hq => hp q (by omega)))

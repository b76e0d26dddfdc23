def sel (a b c d e k : Nat) : Nat := match k with
  | 0 => a
  | 1 => b
  | 2 => c
  | 3 => d
  | _ => e
theorem wp_tape {G : jr_G} {d : Nat} {σ : jr_Sg} {k : jr_Sg → Prop} {t : Nat} {b : Int32} (h2 : σ 5 2 = nI t) (ht : t < 160) (h : k (jr_up (jr_up σ 6 t b) 5 2 (nI (t + 1)))) : jr_M G d mi_X2_tape [.ref 5, .int b] σ (jr_kv k) := by
  refine jr_enter (L := [some (.ref 5), some (.int b)]) (by decide) (Nat.le_of_ble_eq_true rfl) rfl ?_
  refine jr_aload_n 0 1 dX2_tape_0 rfl rfl rfl ?_
  refine gf_X2_15 4 dX2_tape_1 rfl rfl rfl rfl ?_
  refine jr_topi (y := nI t) h2 ?_
  refine jr_if_lt 37 7 dX2_tape_4 rfl rfl (fun z => absurd z (nI_pos (by omega))) (fun q4 => ?_)
  refine jr_aload_n 0 8 dX2_tape_7 rfl rfl rfl ?_
  refine gf_X2_15 11 dX2_tape_8 rfl rfl rfl rfl ?_
  refine jr_topi (y := nI t) h2 ?_
  refine jr_sipush (nI 160) 14 dX2_tape_11 rfl rfl ?_
  refine jr_icmp_ge 37 17 dX2_tape_14 rfl rfl (fun z => absurd z (nI_ge (b := 160) ht (by omega))) (fun q14 => ?_)
  refine jr_aload_n 0 18 dX2_tape_17 rfl rfl rfl ?_
  refine gf_X2_9 21 dX2_tape_18 rfl rfl rfl rfl ?_
  refine jr_aload_n 0 22 dX2_tape_21 rfl rfl rfl ?_
  refine gf_X2_15 25 dX2_tape_22 rfl rfl rfl rfl ?_
  refine jr_topi (y := nI t) h2 ?_
  refine jr_iload_n 1 26 dX2_tape_25 rfl rfl rfl ?_
  refine jr_iast rfl rfl (by omega) 27 dX2_tape_26 rfl ?_
  refine jr_aload_n 0 28 dX2_tape_27 rfl rfl rfl ?_
  refine jr_dup 29 dX2_tape_28 rfl rfl ?_
  refine gf_X2_15 32 dX2_tape_29 rfl rfl rfl rfl ?_
  refine jr_topi (y := nI t) h2 ?_
  refine jr_iconst (nI 1) 33 dX2_tape_32 rfl rfl ?_
  refine jr_iadd 34 dX2_tape_33 rfl ?_
  rw [nI_add]
  refine pf_X2_15 37 dX2_tape_34 rfl rfl rfl rfl ?_
  refine jr_return dX2_tape_37 rfl ?_
  exact h
theorem feed_x {G : jr_G} {d : Nat} {σ : jr_Sg} {k : Value → jr_Sg → Prop} {tp N b0 b1 b2 b3 b4 : Nat} (hN : N ≤ 5) (htp : tp + N ≤ 160) (fin : ∀ σ' : jr_Sg, (∀ a, a ≠ 5 → a ≠ 6 → σ' a = σ a) → (∀ k, k ≠ 2 → σ' 5 k = σ 5 k) → σ' 5 2 = nI (tp + N) → (∀ q, q < tp → σ' 6 q = σ 6 q) → (∀ q, q < N → σ' 6 (tp + q) = nI (sel b0 b1 b2 b3 b4 q)) → jr_R G (d + 19) mi_X9_feed (jr_k k) 146 [some (.ref 0), some (.int (nI N)), some (.int (nI b0)), some (.int (nI b1)), some (.int (nI b2)), some (.int (nI b3)), some (.int (nI b4)), some (.int 1), some (.int (nI N))] [] σ') : ∀ (m i : Nat) (σ2 : jr_Sg), i + m = N → (∀ a, a ≠ 5 → a ≠ 6 → σ2 a = σ a) → (∀ k, k ≠ 2 → σ2 5 k = σ 5 k) → σ2 5 2 = nI (tp + i) → (∀ q, q < tp → σ2 6 q = σ 6 q) → (∀ q, q < i → σ2 6 (tp + q) = nI (sel b0 b1 b2 b3 b4 q)) → jr_R G (d + 19) mi_X9_feed (jr_k k) 84 [some (.ref 0), some (.int (nI N)), some (.int (nI b0)), some (.int (nI b1)), some (.int (nI b2)), some (.int (nI b3)), some (.int (nI b4)), some (.int 1), some (.int (nI i))] [] σ2 := by
  intro m
  induction m with
  | zero =>
    intro i σ2 hi g1 g2 g3 g4 g5
    have ei : i = N := hi
    subst ei
    refine jr_iload 86 dX9_feed_84 rfl rfl ?_
    refine jr_iload_n 1 87 dX9_feed_86 rfl rfl rfl ?_
    refine jr_icmp_ge 146 90 dX9_feed_87 rfl rfl (fun q87 => ?_) (fun q => absurd (Int32.le_refl _) q)
    exact fin σ2 g1 g2 g3 g4 g5
  | succ m ih =>
    intro i σ2 hi g1 g2 g3 g4 g5
    rcases (by omega : i = 0 ∨ i = 1 ∨ i = 2 ∨ i = 3 ∨ i = 4) with rfl | rfl | rfl | rfl | rfl
    · refine jr_iload 86 dX9_feed_84 rfl rfl ?_
      refine jr_iload_n 1 87 dX9_feed_86 rfl rfl rfl ?_
      refine jr_icmp_ge 146 90 dX9_feed_87 rfl rfl (fun q => absurd q (nI_ge (by omega) (by omega))) (fun q87 => ?_)
      refine jr_aload_n 0 91 dX9_feed_90 rfl rfl rfl ?_
      refine gf_X9_21 94 dX9_feed_91 rfl rfl rfl rfl ?_
      refine jr_iload 96 dX9_feed_94 rfl rfl ?_
      refine jr_if_ne 103 99 dX9_feed_96 rfl rfl (fun q => absurd (by decide) q) (fun q96 => ?_)
      refine jr_iload_n 2 100 dX9_feed_99 rfl rfl rfl ?_
      refine jr_goto 137 dX9_feed_100 rfl ?_
      refine cs_X9_77 140 dX9_feed_137 rfl rfl rfl (Nat.le_of_ble_eq_true rfl) (wp_tape g3 (by omega) ?_)
      refine jr_iinc (v := nI (0 + 1)) (L' := [_, _, _, _, _, _, _, _, _]) 143 dX9_feed_140 rfl rfl (nI_1 0) (by decide) rfl ?_
      refine jr_goto 84 dX9_feed_143 rfl ?_
      refine ih (0 + 1) _ (by omega) (fun a h5 h6 => ?_) (fun k hk => ?_) rfl (fun q hq => ?_) (fun q hq => ?_)
      · simp only [jr_up]
        rw [if_neg h5, if_neg h6]
        exact g1 a h5 h6
      · show upd (σ2 5) 2 _ k = _
        rw [pk_un hk]; exact g2 k hk
      · show upd (σ2 6) (tp + 0) _ q = _
        rw [pk_un (by omega)]; exact g4 q hq
      · show upd (σ2 6) (tp + 0) _ (tp + q) = _
        by_cases e : q = 0
        · subst e; exact pk_us
        · rw [pk_un (by omega)]; exact g5 q (by omega)
    · refine jr_iload 86 dX9_feed_84 rfl rfl ?_
      refine jr_iload_n 1 87 dX9_feed_86 rfl rfl rfl ?_
      refine jr_icmp_ge 146 90 dX9_feed_87 rfl rfl (fun q => absurd q (nI_ge (by omega) (by omega))) (fun q87 => ?_)
      refine jr_aload_n 0 91 dX9_feed_90 rfl rfl rfl ?_
      refine gf_X9_21 94 dX9_feed_91 rfl rfl rfl rfl ?_
      refine jr_iload 96 dX9_feed_94 rfl rfl ?_
      refine jr_if_ne 103 99 dX9_feed_96 rfl rfl (fun q96 => ?_) (fun q => absurd q (by decide))
      refine jr_iload 105 dX9_feed_103 rfl rfl ?_
      refine jr_iconst (nI 1) 106 dX9_feed_105 rfl rfl ?_
      refine jr_icmp_ne 113 109 dX9_feed_106 rfl rfl (fun q => absurd (by decide) q) (fun q106 => ?_)
      refine jr_iload_n 3 110 dX9_feed_109 rfl rfl rfl ?_
      refine jr_goto 137 dX9_feed_110 rfl ?_
      refine cs_X9_77 140 dX9_feed_137 rfl rfl rfl (Nat.le_of_ble_eq_true rfl) (wp_tape g3 (by omega) ?_)
      refine jr_iinc (v := nI (1 + 1)) (L' := [_, _, _, _, _, _, _, _, _]) 143 dX9_feed_140 rfl rfl (nI_1 1) (by decide) rfl ?_
      refine jr_goto 84 dX9_feed_143 rfl ?_
      refine ih (1 + 1) _ (by omega) (fun a h5 h6 => ?_) (fun k hk => ?_) rfl (fun q hq => ?_) (fun q hq => ?_)
      · simp only [jr_up]
        rw [if_neg h5, if_neg h6]
        exact g1 a h5 h6
      · show upd (σ2 5) 2 _ k = _
        rw [pk_un hk]; exact g2 k hk
      · show upd (σ2 6) (tp + 1) _ q = _
        rw [pk_un (by omega)]; exact g4 q hq
      · show upd (σ2 6) (tp + 1) _ (tp + q) = _
        by_cases e : q = 1
        · subst e; exact pk_us
        · rw [pk_un (by omega)]; exact g5 q (by omega)
    · refine jr_iload 86 dX9_feed_84 rfl rfl ?_
      refine jr_iload_n 1 87 dX9_feed_86 rfl rfl rfl ?_
      refine jr_icmp_ge 146 90 dX9_feed_87 rfl rfl (fun q => absurd q (nI_ge (by omega) (by omega))) (fun q87 => ?_)
      refine jr_aload_n 0 91 dX9_feed_90 rfl rfl rfl ?_
      refine gf_X9_21 94 dX9_feed_91 rfl rfl rfl rfl ?_
      refine jr_iload 96 dX9_feed_94 rfl rfl ?_
      refine jr_if_ne 103 99 dX9_feed_96 rfl rfl (fun q96 => ?_) (fun q => absurd q (by decide))
      refine jr_iload 105 dX9_feed_103 rfl rfl ?_
      refine jr_iconst (nI 1) 106 dX9_feed_105 rfl rfl ?_
      refine jr_icmp_ne 113 109 dX9_feed_106 rfl rfl (fun q106 => ?_) (fun q => absurd q (by decide))
      refine jr_iload 115 dX9_feed_113 rfl rfl ?_
      refine jr_iconst (nI 2) 116 dX9_feed_115 rfl rfl ?_
      refine jr_icmp_ne 124 119 dX9_feed_116 rfl rfl (fun q => absurd (by decide) q) (fun q116 => ?_)
      refine jr_iload 121 dX9_feed_119 rfl rfl ?_
      refine jr_goto 137 dX9_feed_121 rfl ?_
      refine cs_X9_77 140 dX9_feed_137 rfl rfl rfl (Nat.le_of_ble_eq_true rfl) (wp_tape g3 (by omega) ?_)
      refine jr_iinc (v := nI (2 + 1)) (L' := [_, _, _, _, _, _, _, _, _]) 143 dX9_feed_140 rfl rfl (nI_1 2) (by decide) rfl ?_
      refine jr_goto 84 dX9_feed_143 rfl ?_
      refine ih (2 + 1) _ (by omega) (fun a h5 h6 => ?_) (fun k hk => ?_) rfl (fun q hq => ?_) (fun q hq => ?_)
      · simp only [jr_up]
        rw [if_neg h5, if_neg h6]
        exact g1 a h5 h6
      · show upd (σ2 5) 2 _ k = _
        rw [pk_un hk]; exact g2 k hk
      · show upd (σ2 6) (tp + 2) _ q = _
        rw [pk_un (by omega)]; exact g4 q hq
      · show upd (σ2 6) (tp + 2) _ (tp + q) = _
        by_cases e : q = 2
        · subst e; exact pk_us
        · rw [pk_un (by omega)]; exact g5 q (by omega)
    · refine jr_iload 86 dX9_feed_84 rfl rfl ?_
      refine jr_iload_n 1 87 dX9_feed_86 rfl rfl rfl ?_
      refine jr_icmp_ge 146 90 dX9_feed_87 rfl rfl (fun q => absurd q (nI_ge (by omega) (by omega))) (fun q87 => ?_)
      refine jr_aload_n 0 91 dX9_feed_90 rfl rfl rfl ?_
      refine gf_X9_21 94 dX9_feed_91 rfl rfl rfl rfl ?_
      refine jr_iload 96 dX9_feed_94 rfl rfl ?_
      refine jr_if_ne 103 99 dX9_feed_96 rfl rfl (fun q96 => ?_) (fun q => absurd q (by decide))
      refine jr_iload 105 dX9_feed_103 rfl rfl ?_
      refine jr_iconst (nI 1) 106 dX9_feed_105 rfl rfl ?_
      refine jr_icmp_ne 113 109 dX9_feed_106 rfl rfl (fun q106 => ?_) (fun q => absurd q (by decide))
      refine jr_iload 115 dX9_feed_113 rfl rfl ?_
      refine jr_iconst (nI 2) 116 dX9_feed_115 rfl rfl ?_
      refine jr_icmp_ne 124 119 dX9_feed_116 rfl rfl (fun q116 => ?_) (fun q => absurd q (by decide))
      refine jr_iload 126 dX9_feed_124 rfl rfl ?_
      refine jr_iconst (nI 3) 127 dX9_feed_126 rfl rfl ?_
      refine jr_icmp_ne 135 130 dX9_feed_127 rfl rfl (fun q => absurd (by decide) q) (fun q127 => ?_)
      refine jr_iload 132 dX9_feed_130 rfl rfl ?_
      refine jr_goto 137 dX9_feed_132 rfl ?_
      refine cs_X9_77 140 dX9_feed_137 rfl rfl rfl (Nat.le_of_ble_eq_true rfl) (wp_tape g3 (by omega) ?_)
      refine jr_iinc (v := nI (3 + 1)) (L' := [_, _, _, _, _, _, _, _, _]) 143 dX9_feed_140 rfl rfl (nI_1 3) (by decide) rfl ?_
      refine jr_goto 84 dX9_feed_143 rfl ?_
      refine ih (3 + 1) _ (by omega) (fun a h5 h6 => ?_) (fun k hk => ?_) rfl (fun q hq => ?_) (fun q hq => ?_)
      · simp only [jr_up]
        rw [if_neg h5, if_neg h6]
        exact g1 a h5 h6
      · show upd (σ2 5) 2 _ k = _
        rw [pk_un hk]; exact g2 k hk
      · show upd (σ2 6) (tp + 3) _ q = _
        rw [pk_un (by omega)]; exact g4 q hq
      · show upd (σ2 6) (tp + 3) _ (tp + q) = _
        by_cases e : q = 3
        · subst e; exact pk_us
        · rw [pk_un (by omega)]; exact g5 q (by omega)
    · refine jr_iload 86 dX9_feed_84 rfl rfl ?_
      refine jr_iload_n 1 87 dX9_feed_86 rfl rfl rfl ?_
      refine jr_icmp_ge 146 90 dX9_feed_87 rfl rfl (fun q => absurd q (nI_ge (by omega) (by omega))) (fun q87 => ?_)
      refine jr_aload_n 0 91 dX9_feed_90 rfl rfl rfl ?_
      refine gf_X9_21 94 dX9_feed_91 rfl rfl rfl rfl ?_
      refine jr_iload 96 dX9_feed_94 rfl rfl ?_
      refine jr_if_ne 103 99 dX9_feed_96 rfl rfl (fun q96 => ?_) (fun q => absurd q (by decide))
      refine jr_iload 105 dX9_feed_103 rfl rfl ?_
      refine jr_iconst (nI 1) 106 dX9_feed_105 rfl rfl ?_
      refine jr_icmp_ne 113 109 dX9_feed_106 rfl rfl (fun q106 => ?_) (fun q => absurd q (by decide))
      refine jr_iload 115 dX9_feed_113 rfl rfl ?_
      refine jr_iconst (nI 2) 116 dX9_feed_115 rfl rfl ?_
      refine jr_icmp_ne 124 119 dX9_feed_116 rfl rfl (fun q116 => ?_) (fun q => absurd q (by decide))
      refine jr_iload 126 dX9_feed_124 rfl rfl ?_
      refine jr_iconst (nI 3) 127 dX9_feed_126 rfl rfl ?_
      refine jr_icmp_ne 135 130 dX9_feed_127 rfl rfl (fun q127 => ?_) (fun q => absurd q (by decide))
      refine jr_iload 137 dX9_feed_135 rfl rfl ?_
      refine cs_X9_77 140 dX9_feed_137 rfl rfl rfl (Nat.le_of_ble_eq_true rfl) (wp_tape g3 (by omega) ?_)
      refine jr_iinc (v := nI (4 + 1)) (L' := [_, _, _, _, _, _, _, _, _]) 143 dX9_feed_140 rfl rfl (nI_1 4) (by decide) rfl ?_
      refine jr_goto 84 dX9_feed_143 rfl ?_
      refine ih (4 + 1) _ (by omega) (fun a h5 h6 => ?_) (fun k hk => ?_) rfl (fun q hq => ?_) (fun q hq => ?_)
      · simp only [jr_up]
        rw [if_neg h5, if_neg h6]
        exact g1 a h5 h6
      · show upd (σ2 5) 2 _ k = _
        rw [pk_un hk]; exact g2 k hk
      · show upd (σ2 6) (tp + 4) _ q = _
        rw [pk_un (by omega)]; exact g4 q hq
      · show upd (σ2 6) (tp + 4) _ (tp + q) = _
        by_cases e : q = 4
        · subst e; exact pk_us
        · rw [pk_un (by omega)]; exact g5 q (by omega)
theorem feed_r {G : jr_G} {d : Nat} {σ : jr_Sg} {k : Value → jr_Sg → Prop} {tp N b0 b1 b2 b3 b4 : Nat} (hN : N ≤ 5) (htp : tp + N ≤ 160) (fin : ∀ σ' : jr_Sg, (∀ a, a ≠ 46 → a ≠ 53 → σ' a = σ a) → (∀ k, k ≠ 9 → σ' 46 k = σ 46 k) → σ' 46 9 = nI (tp + N) → (∀ q, q < tp → σ' 53 q = σ 53 q) → (∀ q, q < N → σ' 53 (tp + q) = nI (sel b0 b1 b2 b3 b4 q)) → jr_R G (d + 20) mi_X10_feed (jr_k k) 142 [some (.ref 46), some (.int (nI N)), some (.int (nI b0)), some (.int (nI b1)), some (.int (nI b2)), some (.int (nI b3)), some (.int (nI b4)), some (.int (nI N))] [] σ') : ∀ (m i : Nat) (σ2 : jr_Sg), i + m = N → (∀ a, a ≠ 46 → a ≠ 53 → σ2 a = σ a) → (∀ k, k ≠ 9 → σ2 46 k = σ 46 k) → σ2 46 9 = nI (tp + i) → (∀ q, q < tp → σ2 53 q = σ 53 q) → (∀ q, q < i → σ2 53 (tp + q) = nI (sel b0 b1 b2 b3 b4 q)) → jr_R G (d + 20) mi_X10_feed (jr_k k) 68 [some (.ref 46), some (.int (nI N)), some (.int (nI b0)), some (.int (nI b1)), some (.int (nI b2)), some (.int (nI b3)), some (.int (nI b4)), some (.int (nI i))] [] σ2 := by
  intro m
  induction m with
  | zero =>
    intro i σ2 hi g1 g2 g3 g4 g5
    have ei : i = N := hi
    subst ei
    refine jr_iload 70 dX10_feed_68 rfl rfl ?_
    refine jr_iload_n 1 71 dX10_feed_70 rfl rfl rfl ?_
    refine jr_icmp_ge 142 74 dX10_feed_71 rfl rfl (fun q71 => ?_) (fun q => absurd (Int32.le_refl _) q)
    exact fin σ2 g1 g2 g3 g4 g5
  | succ m ih =>
    intro i σ2 hi g1 g2 g3 g4 g5
    rcases (by omega : i = 0 ∨ i = 1 ∨ i = 2 ∨ i = 3 ∨ i = 4) with rfl | rfl | rfl | rfl | rfl
    · refine jr_iload 70 dX10_feed_68 rfl rfl ?_
      refine jr_iload_n 1 71 dX10_feed_70 rfl rfl rfl ?_
      refine jr_icmp_ge 142 74 dX10_feed_71 rfl rfl (fun q => absurd q (nI_ge (by omega) (by omega))) (fun q71 => ?_)
      refine jr_aload_n 0 75 dX10_feed_74 rfl rfl rfl ?_
      refine gf_X10_28 78 dX10_feed_75 rfl rfl rfl rfl ?_
      refine jr_aload_n 0 79 dX10_feed_78 rfl rfl rfl ?_
      refine gf_X10_98 82 dX10_feed_79 rfl rfl rfl rfl ?_
      refine jr_topi (y := nI (tp + 0)) g3 ?_
      refine jr_iload 84 dX10_feed_82 rfl rfl ?_
      refine jr_if_ne 91 87 dX10_feed_84 rfl rfl (fun q => absurd (by decide) q) (fun q84 => ?_)
      refine jr_iload_n 2 88 dX10_feed_87 rfl rfl rfl ?_
      refine jr_goto 125 dX10_feed_88 rfl ?_
      refine jr_iast rfl rfl (by omega) 126 dX10_feed_125 rfl ?_
      refine jr_aload_n 0 127 dX10_feed_126 rfl rfl rfl ?_
      refine jr_dup 128 dX10_feed_127 rfl rfl ?_
      refine gf_X10_98 131 dX10_feed_128 rfl rfl rfl rfl ?_
      refine jr_topi (y := nI (tp + 0)) g3 ?_
      refine jr_iconst (nI 1) 132 dX10_feed_131 rfl rfl ?_
      refine jr_iadd 133 dX10_feed_132 rfl ?_
      rw [nI_add]
      refine pf_X10_98 136 dX10_feed_133 rfl rfl rfl rfl ?_
      refine jr_iinc (v := nI (0 + 1)) (L' := [_, _, _, _, _, _, _, _]) 139 dX10_feed_136 rfl rfl (nI_1 0) (by decide) rfl ?_
      refine jr_goto 68 dX10_feed_139 rfl ?_
      refine ih (0 + 1) _ (by omega) (fun a h5 h6 => ?_) (fun k hk => ?_) rfl (fun q hq => ?_) (fun q hq => ?_)
      · simp only [jr_up]
        rw [if_neg h5, if_neg h6]
        exact g1 a h5 h6
      · show upd (σ2 46) 9 _ k = _
        rw [pk_un hk]; exact g2 k hk
      · show upd (σ2 53) (tp + 0) _ q = _
        rw [pk_un (by omega)]; exact g4 q hq
      · show upd (σ2 53) (tp + 0) _ (tp + q) = _
        by_cases e : q = 0
        · subst e; exact pk_us
        · rw [pk_un (by omega)]; exact g5 q (by omega)
    · refine jr_iload 70 dX10_feed_68 rfl rfl ?_
      refine jr_iload_n 1 71 dX10_feed_70 rfl rfl rfl ?_
      refine jr_icmp_ge 142 74 dX10_feed_71 rfl rfl (fun q => absurd q (nI_ge (by omega) (by omega))) (fun q71 => ?_)
      refine jr_aload_n 0 75 dX10_feed_74 rfl rfl rfl ?_
      refine gf_X10_28 78 dX10_feed_75 rfl rfl rfl rfl ?_
      refine jr_aload_n 0 79 dX10_feed_78 rfl rfl rfl ?_
      refine gf_X10_98 82 dX10_feed_79 rfl rfl rfl rfl ?_
      refine jr_topi (y := nI (tp + 1)) g3 ?_
      refine jr_iload 84 dX10_feed_82 rfl rfl ?_
      refine jr_if_ne 91 87 dX10_feed_84 rfl rfl (fun q84 => ?_) (fun q => absurd q (by decide))
      refine jr_iload 93 dX10_feed_91 rfl rfl ?_
      refine jr_iconst (nI 1) 94 dX10_feed_93 rfl rfl ?_
      refine jr_icmp_ne 101 97 dX10_feed_94 rfl rfl (fun q => absurd (by decide) q) (fun q94 => ?_)
      refine jr_iload_n 3 98 dX10_feed_97 rfl rfl rfl ?_
      refine jr_goto 125 dX10_feed_98 rfl ?_
      refine jr_iast rfl rfl (by omega) 126 dX10_feed_125 rfl ?_
      refine jr_aload_n 0 127 dX10_feed_126 rfl rfl rfl ?_
      refine jr_dup 128 dX10_feed_127 rfl rfl ?_
      refine gf_X10_98 131 dX10_feed_128 rfl rfl rfl rfl ?_
      refine jr_topi (y := nI (tp + 1)) g3 ?_
      refine jr_iconst (nI 1) 132 dX10_feed_131 rfl rfl ?_
      refine jr_iadd 133 dX10_feed_132 rfl ?_
      rw [nI_add]
      refine pf_X10_98 136 dX10_feed_133 rfl rfl rfl rfl ?_
      refine jr_iinc (v := nI (1 + 1)) (L' := [_, _, _, _, _, _, _, _]) 139 dX10_feed_136 rfl rfl (nI_1 1) (by decide) rfl ?_
      refine jr_goto 68 dX10_feed_139 rfl ?_
      refine ih (1 + 1) _ (by omega) (fun a h5 h6 => ?_) (fun k hk => ?_) rfl (fun q hq => ?_) (fun q hq => ?_)
      · simp only [jr_up]
        rw [if_neg h5, if_neg h6]
        exact g1 a h5 h6
      · show upd (σ2 46) 9 _ k = _
        rw [pk_un hk]; exact g2 k hk
      · show upd (σ2 53) (tp + 1) _ q = _
        rw [pk_un (by omega)]; exact g4 q hq
      · show upd (σ2 53) (tp + 1) _ (tp + q) = _
        by_cases e : q = 1
        · subst e; exact pk_us
        · rw [pk_un (by omega)]; exact g5 q (by omega)
    · refine jr_iload 70 dX10_feed_68 rfl rfl ?_
      refine jr_iload_n 1 71 dX10_feed_70 rfl rfl rfl ?_
      refine jr_icmp_ge 142 74 dX10_feed_71 rfl rfl (fun q => absurd q (nI_ge (by omega) (by omega))) (fun q71 => ?_)
      refine jr_aload_n 0 75 dX10_feed_74 rfl rfl rfl ?_
      refine gf_X10_28 78 dX10_feed_75 rfl rfl rfl rfl ?_
      refine jr_aload_n 0 79 dX10_feed_78 rfl rfl rfl ?_
      refine gf_X10_98 82 dX10_feed_79 rfl rfl rfl rfl ?_
      refine jr_topi (y := nI (tp + 2)) g3 ?_
      refine jr_iload 84 dX10_feed_82 rfl rfl ?_
      refine jr_if_ne 91 87 dX10_feed_84 rfl rfl (fun q84 => ?_) (fun q => absurd q (by decide))
      refine jr_iload 93 dX10_feed_91 rfl rfl ?_
      refine jr_iconst (nI 1) 94 dX10_feed_93 rfl rfl ?_
      refine jr_icmp_ne 101 97 dX10_feed_94 rfl rfl (fun q94 => ?_) (fun q => absurd q (by decide))
      refine jr_iload 103 dX10_feed_101 rfl rfl ?_
      refine jr_iconst (nI 2) 104 dX10_feed_103 rfl rfl ?_
      refine jr_icmp_ne 112 107 dX10_feed_104 rfl rfl (fun q => absurd (by decide) q) (fun q104 => ?_)
      refine jr_iload 109 dX10_feed_107 rfl rfl ?_
      refine jr_goto 125 dX10_feed_109 rfl ?_
      refine jr_iast rfl rfl (by omega) 126 dX10_feed_125 rfl ?_
      refine jr_aload_n 0 127 dX10_feed_126 rfl rfl rfl ?_
      refine jr_dup 128 dX10_feed_127 rfl rfl ?_
      refine gf_X10_98 131 dX10_feed_128 rfl rfl rfl rfl ?_
      refine jr_topi (y := nI (tp + 2)) g3 ?_
      refine jr_iconst (nI 1) 132 dX10_feed_131 rfl rfl ?_
      refine jr_iadd 133 dX10_feed_132 rfl ?_
      rw [nI_add]
      refine pf_X10_98 136 dX10_feed_133 rfl rfl rfl rfl ?_
      refine jr_iinc (v := nI (2 + 1)) (L' := [_, _, _, _, _, _, _, _]) 139 dX10_feed_136 rfl rfl (nI_1 2) (by decide) rfl ?_
      refine jr_goto 68 dX10_feed_139 rfl ?_
      refine ih (2 + 1) _ (by omega) (fun a h5 h6 => ?_) (fun k hk => ?_) rfl (fun q hq => ?_) (fun q hq => ?_)
      · simp only [jr_up]
        rw [if_neg h5, if_neg h6]
        exact g1 a h5 h6
      · show upd (σ2 46) 9 _ k = _
        rw [pk_un hk]; exact g2 k hk
      · show upd (σ2 53) (tp + 2) _ q = _
        rw [pk_un (by omega)]; exact g4 q hq
      · show upd (σ2 53) (tp + 2) _ (tp + q) = _
        by_cases e : q = 2
        · subst e; exact pk_us
        · rw [pk_un (by omega)]; exact g5 q (by omega)
    · refine jr_iload 70 dX10_feed_68 rfl rfl ?_
      refine jr_iload_n 1 71 dX10_feed_70 rfl rfl rfl ?_
      refine jr_icmp_ge 142 74 dX10_feed_71 rfl rfl (fun q => absurd q (nI_ge (by omega) (by omega))) (fun q71 => ?_)
      refine jr_aload_n 0 75 dX10_feed_74 rfl rfl rfl ?_
      refine gf_X10_28 78 dX10_feed_75 rfl rfl rfl rfl ?_
      refine jr_aload_n 0 79 dX10_feed_78 rfl rfl rfl ?_
      refine gf_X10_98 82 dX10_feed_79 rfl rfl rfl rfl ?_
      refine jr_topi (y := nI (tp + 3)) g3 ?_
      refine jr_iload 84 dX10_feed_82 rfl rfl ?_
      refine jr_if_ne 91 87 dX10_feed_84 rfl rfl (fun q84 => ?_) (fun q => absurd q (by decide))
      refine jr_iload 93 dX10_feed_91 rfl rfl ?_
      refine jr_iconst (nI 1) 94 dX10_feed_93 rfl rfl ?_
      refine jr_icmp_ne 101 97 dX10_feed_94 rfl rfl (fun q94 => ?_) (fun q => absurd q (by decide))
      refine jr_iload 103 dX10_feed_101 rfl rfl ?_
      refine jr_iconst (nI 2) 104 dX10_feed_103 rfl rfl ?_
      refine jr_icmp_ne 112 107 dX10_feed_104 rfl rfl (fun q104 => ?_) (fun q => absurd q (by decide))
      refine jr_iload 114 dX10_feed_112 rfl rfl ?_
      refine jr_iconst (nI 3) 115 dX10_feed_114 rfl rfl ?_
      refine jr_icmp_ne 123 118 dX10_feed_115 rfl rfl (fun q => absurd (by decide) q) (fun q115 => ?_)
      refine jr_iload 120 dX10_feed_118 rfl rfl ?_
      refine jr_goto 125 dX10_feed_120 rfl ?_
      refine jr_iast rfl rfl (by omega) 126 dX10_feed_125 rfl ?_
      refine jr_aload_n 0 127 dX10_feed_126 rfl rfl rfl ?_
      refine jr_dup 128 dX10_feed_127 rfl rfl ?_
      refine gf_X10_98 131 dX10_feed_128 rfl rfl rfl rfl ?_
      refine jr_topi (y := nI (tp + 3)) g3 ?_
      refine jr_iconst (nI 1) 132 dX10_feed_131 rfl rfl ?_
      refine jr_iadd 133 dX10_feed_132 rfl ?_
      rw [nI_add]
      refine pf_X10_98 136 dX10_feed_133 rfl rfl rfl rfl ?_
      refine jr_iinc (v := nI (3 + 1)) (L' := [_, _, _, _, _, _, _, _]) 139 dX10_feed_136 rfl rfl (nI_1 3) (by decide) rfl ?_
      refine jr_goto 68 dX10_feed_139 rfl ?_
      refine ih (3 + 1) _ (by omega) (fun a h5 h6 => ?_) (fun k hk => ?_) rfl (fun q hq => ?_) (fun q hq => ?_)
      · simp only [jr_up]
        rw [if_neg h5, if_neg h6]
        exact g1 a h5 h6
      · show upd (σ2 46) 9 _ k = _
        rw [pk_un hk]; exact g2 k hk
      · show upd (σ2 53) (tp + 3) _ q = _
        rw [pk_un (by omega)]; exact g4 q hq
      · show upd (σ2 53) (tp + 3) _ (tp + q) = _
        by_cases e : q = 3
        · subst e; exact pk_us
        · rw [pk_un (by omega)]; exact g5 q (by omega)
    · refine jr_iload 70 dX10_feed_68 rfl rfl ?_
      refine jr_iload_n 1 71 dX10_feed_70 rfl rfl rfl ?_
      refine jr_icmp_ge 142 74 dX10_feed_71 rfl rfl (fun q => absurd q (nI_ge (by omega) (by omega))) (fun q71 => ?_)
      refine jr_aload_n 0 75 dX10_feed_74 rfl rfl rfl ?_
      refine gf_X10_28 78 dX10_feed_75 rfl rfl rfl rfl ?_
      refine jr_aload_n 0 79 dX10_feed_78 rfl rfl rfl ?_
      refine gf_X10_98 82 dX10_feed_79 rfl rfl rfl rfl ?_
      refine jr_topi (y := nI (tp + 4)) g3 ?_
      refine jr_iload 84 dX10_feed_82 rfl rfl ?_
      refine jr_if_ne 91 87 dX10_feed_84 rfl rfl (fun q84 => ?_) (fun q => absurd q (by decide))
      refine jr_iload 93 dX10_feed_91 rfl rfl ?_
      refine jr_iconst (nI 1) 94 dX10_feed_93 rfl rfl ?_
      refine jr_icmp_ne 101 97 dX10_feed_94 rfl rfl (fun q94 => ?_) (fun q => absurd q (by decide))
      refine jr_iload 103 dX10_feed_101 rfl rfl ?_
      refine jr_iconst (nI 2) 104 dX10_feed_103 rfl rfl ?_
      refine jr_icmp_ne 112 107 dX10_feed_104 rfl rfl (fun q104 => ?_) (fun q => absurd q (by decide))
      refine jr_iload 114 dX10_feed_112 rfl rfl ?_
      refine jr_iconst (nI 3) 115 dX10_feed_114 rfl rfl ?_
      refine jr_icmp_ne 123 118 dX10_feed_115 rfl rfl (fun q115 => ?_) (fun q => absurd q (by decide))
      refine jr_iload 125 dX10_feed_123 rfl rfl ?_
      refine jr_iast rfl rfl (by omega) 126 dX10_feed_125 rfl ?_
      refine jr_aload_n 0 127 dX10_feed_126 rfl rfl rfl ?_
      refine jr_dup 128 dX10_feed_127 rfl rfl ?_
      refine gf_X10_98 131 dX10_feed_128 rfl rfl rfl rfl ?_
      refine jr_topi (y := nI (tp + 4)) g3 ?_
      refine jr_iconst (nI 1) 132 dX10_feed_131 rfl rfl ?_
      refine jr_iadd 133 dX10_feed_132 rfl ?_
      rw [nI_add]
      refine pf_X10_98 136 dX10_feed_133 rfl rfl rfl rfl ?_
      refine jr_iinc (v := nI (4 + 1)) (L' := [_, _, _, _, _, _, _, _]) 139 dX10_feed_136 rfl rfl (nI_1 4) (by decide) rfl ?_
      refine jr_goto 68 dX10_feed_139 rfl ?_
      refine ih (4 + 1) _ (by omega) (fun a h5 h6 => ?_) (fun k hk => ?_) rfl (fun q hq => ?_) (fun q hq => ?_)
      · simp only [jr_up]
        rw [if_neg h5, if_neg h6]
        exact g1 a h5 h6
      · show upd (σ2 46) 9 _ k = _
        rw [pk_un hk]; exact g2 k hk
      · show upd (σ2 53) (tp + 4) _ q = _
        rw [pk_un (by omega)]; exact g4 q hq
      · show upd (σ2 53) (tp + 4) _ (tp + q) = _
        by_cases e : q = 4
        · subst e; exact pk_us
        · rw [pk_un (by omega)]; exact g5 q (by omega)
theorem pp_feed {G : jr_G} {d : Nat} {σ : jr_Sg} {v a0 a1 a2 a3 a4 : Int32} (h : IV σ) : jr_pair G (d + 20) mi_X9_feed mi_X10_feed [.int v, .int a0, .int a1, .int a2, .int a3, .int a4] σ := by
  obtain ⟨T, n, nf, nc, kd, se, lw, tp, h⟩ := h
  have hh := h
  obtain ⟨hTC, hTR, ⟨hsc, hsr, hl1, hl2, hlw, hfc, hli, hca⟩, htp, himg, hsh, hrest, hwd⟩ := hh
  have hnf := hsc.1
  have h5 := hsc.2.1
  have hnc := hsc.2.2.1
  have h8 := hsc.2.2.2.1
  have rnf := hsr.1
  have rnc := hsr.2.2.1
  have hlm := hrest.2.2.2.1
  unfold jr_pair
  rcases jr_rg a0 (m := 255) (by decide) with qb0 | ⟨b0, hb0, rfl⟩
  · refine jr_enter (L := [some (.ref 0), some (.int v), some (.int a0), some (.int a1), some (.int a2), some (.int a3), some (.int a4), none, none]) (by decide) (Nat.le_of_ble_eq_true rfl) rfl ?_
    refine jr_iload_n 2 1 dX9_feed_0 rfl rfl rfl ?_
    refine cs_X9_100 4 dX9_feed_1 rfl rfl (Nat.le_of_ble_eq_true rfl) (wp_isByte (fun a b => absurd ⟨a, b⟩ qb0) (fun _ => ?_))
    refine jr_if_eq 42 7 dX9_feed_4 rfl rfl (fun q4 => ?_) (fun q => absurd (by decide) q)
    refine jr_iconst (0) 43 dX9_feed_42 rfl rfl ?_
    refine jr_istore (L' := [_, _, _, _, _, _, _, _, _]) 45 dX9_feed_43 rfl (by decide) rfl ?_
    refine jr_iload_n 1 46 dX9_feed_45 rfl rfl rfl ?_
    refine jr_iconst (1) 47 dX9_feed_46 rfl rfl ?_
    refine jr_icmp_lt 60 50 dX9_feed_47 rfl rfl (fun q47 => ?_) (fun q47 => ?_)
    · refine jr_bipush ((-2)) 62 dX9_feed_60 rfl rfl ?_
      refine jr_ireturn dX9_feed_62 rfl rfl ?_
      refine jr_enter (L := [some (.ref 46), some (.int v), some (.int a0), some (.int a1), some (.int a2), some (.int a3), some (.int a4), none]) (by decide) (Nat.le_of_ble_eq_true rfl) rfl ?_
      refine jr_iload_n 1 1 dX10_feed_0 rfl rfl rfl ?_
      refine jr_iconst (1) 2 dX10_feed_1 rfl rfl ?_
      refine jr_iconst (5) 3 dX10_feed_2 rfl rfl ?_
      refine cs_X10_108 6 dX10_feed_3 rfl rfl (Nat.le_of_ble_eq_true rfl) (wp_in (fun _ _ => ?_) (fun _ => ?_))
      · refine jr_if_eq 47 9 dX10_feed_6 rfl rfl (fun q => absurd q (by decide)) (fun q6 => ?_)
        refine jr_iload_n 2 10 dX10_feed_9 rfl rfl rfl ?_
        refine cs_X10_121 13 dX10_feed_10 rfl rfl (Nat.le_of_ble_eq_true rfl) (wp_risByte (fun a b => absurd ⟨a, b⟩ qb0) (fun _ => ?_))
        refine jr_if_eq 47 16 dX10_feed_13 rfl rfl (fun q13 => ?_) (fun q => absurd (by decide) q)
        refine jr_bipush ((-2)) 49 dX10_feed_47 rfl rfl ?_
        refine jr_ireturn dX10_feed_49 rfl rfl ?_
        exact ⟨rfl, IV_mov (iv_same_x (jr_eqx_rf [] _) (by decide)) h⟩
      · refine jr_if_eq 47 9 dX10_feed_6 rfl rfl (fun q6 => ?_) (fun q => absurd (by decide) q)
        refine jr_bipush ((-2)) 49 dX10_feed_47 rfl rfl ?_
        refine jr_ireturn dX10_feed_49 rfl rfl ?_
        exact ⟨rfl, IV_mov (iv_same_x (jr_eqx_rf [] _) (by decide)) h⟩
    · refine jr_iload_n 1 51 dX9_feed_50 rfl rfl rfl ?_
      refine jr_iconst (5) 52 dX9_feed_51 rfl rfl ?_
      refine jr_icmp_gt 60 55 dX9_feed_52 rfl rfl (fun q52 => ?_) (fun q52 => ?_)
      · refine jr_bipush ((-2)) 62 dX9_feed_60 rfl rfl ?_
        refine jr_ireturn dX9_feed_62 rfl rfl ?_
        refine jr_enter (L := [some (.ref 46), some (.int v), some (.int a0), some (.int a1), some (.int a2), some (.int a3), some (.int a4), none]) (by decide) (Nat.le_of_ble_eq_true rfl) rfl ?_
        refine jr_iload_n 1 1 dX10_feed_0 rfl rfl rfl ?_
        refine jr_iconst (1) 2 dX10_feed_1 rfl rfl ?_
        refine jr_iconst (5) 3 dX10_feed_2 rfl rfl ?_
        refine cs_X10_108 6 dX10_feed_3 rfl rfl (Nat.le_of_ble_eq_true rfl) (wp_in (fun _ _ => ?_) (fun _ => ?_))
        · refine jr_if_eq 47 9 dX10_feed_6 rfl rfl (fun q => absurd q (by decide)) (fun q6 => ?_)
          refine jr_iload_n 2 10 dX10_feed_9 rfl rfl rfl ?_
          refine cs_X10_121 13 dX10_feed_10 rfl rfl (Nat.le_of_ble_eq_true rfl) (wp_risByte (fun a b => absurd ⟨a, b⟩ qb0) (fun _ => ?_))
          refine jr_if_eq 47 16 dX10_feed_13 rfl rfl (fun q13 => ?_) (fun q => absurd (by decide) q)
          refine jr_bipush ((-2)) 49 dX10_feed_47 rfl rfl ?_
          refine jr_ireturn dX10_feed_49 rfl rfl ?_
          exact ⟨rfl, IV_mov (iv_same_x (jr_eqx_rf [] _) (by decide)) h⟩
        · refine jr_if_eq 47 9 dX10_feed_6 rfl rfl (fun q6 => ?_) (fun q => absurd (by decide) q)
          refine jr_bipush ((-2)) 49 dX10_feed_47 rfl rfl ?_
          refine jr_ireturn dX10_feed_49 rfl rfl ?_
          exact ⟨rfl, IV_mov (iv_same_x (jr_eqx_rf [] _) (by decide)) h⟩
      · refine jr_iload 57 dX9_feed_55 rfl rfl ?_
        refine jr_if_ne 63 60 dX9_feed_57 rfl rfl (fun q => absurd (by decide) q) (fun q57 => ?_)
        refine jr_bipush ((-2)) 62 dX9_feed_60 rfl rfl ?_
        refine jr_ireturn dX9_feed_62 rfl rfl ?_
        refine jr_enter (L := [some (.ref 46), some (.int v), some (.int a0), some (.int a1), some (.int a2), some (.int a3), some (.int a4), none]) (by decide) (Nat.le_of_ble_eq_true rfl) rfl ?_
        refine jr_iload_n 1 1 dX10_feed_0 rfl rfl rfl ?_
        refine jr_iconst (1) 2 dX10_feed_1 rfl rfl ?_
        refine jr_iconst (5) 3 dX10_feed_2 rfl rfl ?_
        refine cs_X10_108 6 dX10_feed_3 rfl rfl (Nat.le_of_ble_eq_true rfl) (wp_in (fun _ _ => ?_) (fun _ => ?_))
        · refine jr_if_eq 47 9 dX10_feed_6 rfl rfl (fun q => absurd q (by decide)) (fun q6 => ?_)
          refine jr_iload_n 2 10 dX10_feed_9 rfl rfl rfl ?_
          refine cs_X10_121 13 dX10_feed_10 rfl rfl (Nat.le_of_ble_eq_true rfl) (wp_risByte (fun a b => absurd ⟨a, b⟩ qb0) (fun _ => ?_))
          refine jr_if_eq 47 16 dX10_feed_13 rfl rfl (fun q13 => ?_) (fun q => absurd (by decide) q)
          refine jr_bipush ((-2)) 49 dX10_feed_47 rfl rfl ?_
          refine jr_ireturn dX10_feed_49 rfl rfl ?_
          exact ⟨rfl, IV_mov (iv_same_x (jr_eqx_rf [] _) (by decide)) h⟩
        · refine jr_if_eq 47 9 dX10_feed_6 rfl rfl (fun q6 => ?_) (fun q => absurd (by decide) q)
          refine jr_bipush ((-2)) 49 dX10_feed_47 rfl rfl ?_
          refine jr_ireturn dX10_feed_49 rfl rfl ?_
          exact ⟨rfl, IV_mov (iv_same_x (jr_eqx_rf [] _) (by decide)) h⟩
  · rcases jr_rg a1 (m := 255) (by decide) with qb1 | ⟨b1, hb1, rfl⟩
    · refine jr_enter (L := [some (.ref 0), some (.int v), some (.int (nI b0)), some (.int a1), some (.int a2), some (.int a3), some (.int a4), none, none]) (by decide) (Nat.le_of_ble_eq_true rfl) rfl ?_
      refine jr_iload_n 2 1 dX9_feed_0 rfl rfl rfl ?_
      refine cs_X9_100 4 dX9_feed_1 rfl rfl (Nat.le_of_ble_eq_true rfl) (wp_isByte (fun _ _ => ?_) (fun q => absurd ⟨nI_pos' (by omega), nI_le (b := 255) hb0 (by decide)⟩ q))
      refine jr_if_eq 42 7 dX9_feed_4 rfl rfl (fun q => absurd q (by decide)) (fun q4 => ?_)
      refine jr_iload_n 3 8 dX9_feed_7 rfl rfl rfl ?_
      refine cs_X9_100 11 dX9_feed_8 rfl rfl (Nat.le_of_ble_eq_true rfl) (wp_isByte (fun a b => absurd ⟨a, b⟩ qb1) (fun _ => ?_))
      refine jr_if_eq 42 14 dX9_feed_11 rfl rfl (fun q11 => ?_) (fun q => absurd (by decide) q)
      refine jr_iconst (0) 43 dX9_feed_42 rfl rfl ?_
      refine jr_istore (L' := [_, _, _, _, _, _, _, _, _]) 45 dX9_feed_43 rfl (by decide) rfl ?_
      refine jr_iload_n 1 46 dX9_feed_45 rfl rfl rfl ?_
      refine jr_iconst (1) 47 dX9_feed_46 rfl rfl ?_
      refine jr_icmp_lt 60 50 dX9_feed_47 rfl rfl (fun q47 => ?_) (fun q47 => ?_)
      · refine jr_bipush ((-2)) 62 dX9_feed_60 rfl rfl ?_
        refine jr_ireturn dX9_feed_62 rfl rfl ?_
        refine jr_enter (L := [some (.ref 46), some (.int v), some (.int (nI b0)), some (.int a1), some (.int a2), some (.int a3), some (.int a4), none]) (by decide) (Nat.le_of_ble_eq_true rfl) rfl ?_
        refine jr_iload_n 1 1 dX10_feed_0 rfl rfl rfl ?_
        refine jr_iconst (1) 2 dX10_feed_1 rfl rfl ?_
        refine jr_iconst (5) 3 dX10_feed_2 rfl rfl ?_
        refine cs_X10_108 6 dX10_feed_3 rfl rfl (Nat.le_of_ble_eq_true rfl) (wp_in (fun _ _ => ?_) (fun _ => ?_))
        · refine jr_if_eq 47 9 dX10_feed_6 rfl rfl (fun q => absurd q (by decide)) (fun q6 => ?_)
          refine jr_iload_n 2 10 dX10_feed_9 rfl rfl rfl ?_
          refine cs_X10_121 13 dX10_feed_10 rfl rfl (Nat.le_of_ble_eq_true rfl) (wp_risByte (fun _ _ => ?_) (fun q => absurd ⟨nI_pos' (by omega), nI_le (b := 255) hb0 (by decide)⟩ q))
          refine jr_if_eq 47 16 dX10_feed_13 rfl rfl (fun q => absurd q (by decide)) (fun q13 => ?_)
          refine jr_iload_n 3 17 dX10_feed_16 rfl rfl rfl ?_
          refine cs_X10_121 20 dX10_feed_17 rfl rfl (Nat.le_of_ble_eq_true rfl) (wp_risByte (fun a b => absurd ⟨a, b⟩ qb1) (fun _ => ?_))
          refine jr_if_eq 47 23 dX10_feed_20 rfl rfl (fun q20 => ?_) (fun q => absurd (by decide) q)
          refine jr_bipush ((-2)) 49 dX10_feed_47 rfl rfl ?_
          refine jr_ireturn dX10_feed_49 rfl rfl ?_
          exact ⟨rfl, IV_mov (iv_same_x (jr_eqx_rf [] _) (by decide)) h⟩
        · refine jr_if_eq 47 9 dX10_feed_6 rfl rfl (fun q6 => ?_) (fun q => absurd (by decide) q)
          refine jr_bipush ((-2)) 49 dX10_feed_47 rfl rfl ?_
          refine jr_ireturn dX10_feed_49 rfl rfl ?_
          exact ⟨rfl, IV_mov (iv_same_x (jr_eqx_rf [] _) (by decide)) h⟩
      · refine jr_iload_n 1 51 dX9_feed_50 rfl rfl rfl ?_
        refine jr_iconst (5) 52 dX9_feed_51 rfl rfl ?_
        refine jr_icmp_gt 60 55 dX9_feed_52 rfl rfl (fun q52 => ?_) (fun q52 => ?_)
        · refine jr_bipush ((-2)) 62 dX9_feed_60 rfl rfl ?_
          refine jr_ireturn dX9_feed_62 rfl rfl ?_
          refine jr_enter (L := [some (.ref 46), some (.int v), some (.int (nI b0)), some (.int a1), some (.int a2), some (.int a3), some (.int a4), none]) (by decide) (Nat.le_of_ble_eq_true rfl) rfl ?_
          refine jr_iload_n 1 1 dX10_feed_0 rfl rfl rfl ?_
          refine jr_iconst (1) 2 dX10_feed_1 rfl rfl ?_
          refine jr_iconst (5) 3 dX10_feed_2 rfl rfl ?_
          refine cs_X10_108 6 dX10_feed_3 rfl rfl (Nat.le_of_ble_eq_true rfl) (wp_in (fun _ _ => ?_) (fun _ => ?_))
          · refine jr_if_eq 47 9 dX10_feed_6 rfl rfl (fun q => absurd q (by decide)) (fun q6 => ?_)
            refine jr_iload_n 2 10 dX10_feed_9 rfl rfl rfl ?_
            refine cs_X10_121 13 dX10_feed_10 rfl rfl (Nat.le_of_ble_eq_true rfl) (wp_risByte (fun _ _ => ?_) (fun q => absurd ⟨nI_pos' (by omega), nI_le (b := 255) hb0 (by decide)⟩ q))
            refine jr_if_eq 47 16 dX10_feed_13 rfl rfl (fun q => absurd q (by decide)) (fun q13 => ?_)
            refine jr_iload_n 3 17 dX10_feed_16 rfl rfl rfl ?_
            refine cs_X10_121 20 dX10_feed_17 rfl rfl (Nat.le_of_ble_eq_true rfl) (wp_risByte (fun a b => absurd ⟨a, b⟩ qb1) (fun _ => ?_))
            refine jr_if_eq 47 23 dX10_feed_20 rfl rfl (fun q20 => ?_) (fun q => absurd (by decide) q)
            refine jr_bipush ((-2)) 49 dX10_feed_47 rfl rfl ?_
            refine jr_ireturn dX10_feed_49 rfl rfl ?_
            exact ⟨rfl, IV_mov (iv_same_x (jr_eqx_rf [] _) (by decide)) h⟩
          · refine jr_if_eq 47 9 dX10_feed_6 rfl rfl (fun q6 => ?_) (fun q => absurd (by decide) q)
            refine jr_bipush ((-2)) 49 dX10_feed_47 rfl rfl ?_
            refine jr_ireturn dX10_feed_49 rfl rfl ?_
            exact ⟨rfl, IV_mov (iv_same_x (jr_eqx_rf [] _) (by decide)) h⟩
        · refine jr_iload 57 dX9_feed_55 rfl rfl ?_
          refine jr_if_ne 63 60 dX9_feed_57 rfl rfl (fun q => absurd (by decide) q) (fun q57 => ?_)
          refine jr_bipush ((-2)) 62 dX9_feed_60 rfl rfl ?_
          refine jr_ireturn dX9_feed_62 rfl rfl ?_
          refine jr_enter (L := [some (.ref 46), some (.int v), some (.int (nI b0)), some (.int a1), some (.int a2), some (.int a3), some (.int a4), none]) (by decide) (Nat.le_of_ble_eq_true rfl) rfl ?_
          refine jr_iload_n 1 1 dX10_feed_0 rfl rfl rfl ?_
          refine jr_iconst (1) 2 dX10_feed_1 rfl rfl ?_
          refine jr_iconst (5) 3 dX10_feed_2 rfl rfl ?_
          refine cs_X10_108 6 dX10_feed_3 rfl rfl (Nat.le_of_ble_eq_true rfl) (wp_in (fun _ _ => ?_) (fun _ => ?_))
          · refine jr_if_eq 47 9 dX10_feed_6 rfl rfl (fun q => absurd q (by decide)) (fun q6 => ?_)
            refine jr_iload_n 2 10 dX10_feed_9 rfl rfl rfl ?_
            refine cs_X10_121 13 dX10_feed_10 rfl rfl (Nat.le_of_ble_eq_true rfl) (wp_risByte (fun _ _ => ?_) (fun q => absurd ⟨nI_pos' (by omega), nI_le (b := 255) hb0 (by decide)⟩ q))
            refine jr_if_eq 47 16 dX10_feed_13 rfl rfl (fun q => absurd q (by decide)) (fun q13 => ?_)
            refine jr_iload_n 3 17 dX10_feed_16 rfl rfl rfl ?_
            refine cs_X10_121 20 dX10_feed_17 rfl rfl (Nat.le_of_ble_eq_true rfl) (wp_risByte (fun a b => absurd ⟨a, b⟩ qb1) (fun _ => ?_))
            refine jr_if_eq 47 23 dX10_feed_20 rfl rfl (fun q20 => ?_) (fun q => absurd (by decide) q)
            refine jr_bipush ((-2)) 49 dX10_feed_47 rfl rfl ?_
            refine jr_ireturn dX10_feed_49 rfl rfl ?_
            exact ⟨rfl, IV_mov (iv_same_x (jr_eqx_rf [] _) (by decide)) h⟩
          · refine jr_if_eq 47 9 dX10_feed_6 rfl rfl (fun q6 => ?_) (fun q => absurd (by decide) q)
            refine jr_bipush ((-2)) 49 dX10_feed_47 rfl rfl ?_
            refine jr_ireturn dX10_feed_49 rfl rfl ?_
            exact ⟨rfl, IV_mov (iv_same_x (jr_eqx_rf [] _) (by decide)) h⟩
    · rcases jr_rg a2 (m := 255) (by decide) with qb2 | ⟨b2, hb2, rfl⟩
      · refine jr_enter (L := [some (.ref 0), some (.int v), some (.int (nI b0)), some (.int (nI b1)), some (.int a2), some (.int a3), some (.int a4), none, none]) (by decide) (Nat.le_of_ble_eq_true rfl) rfl ?_
        refine jr_iload_n 2 1 dX9_feed_0 rfl rfl rfl ?_
        refine cs_X9_100 4 dX9_feed_1 rfl rfl (Nat.le_of_ble_eq_true rfl) (wp_isByte (fun _ _ => ?_) (fun q => absurd ⟨nI_pos' (by omega), nI_le (b := 255) hb0 (by decide)⟩ q))
        refine jr_if_eq 42 7 dX9_feed_4 rfl rfl (fun q => absurd q (by decide)) (fun q4 => ?_)
        refine jr_iload_n 3 8 dX9_feed_7 rfl rfl rfl ?_
        refine cs_X9_100 11 dX9_feed_8 rfl rfl (Nat.le_of_ble_eq_true rfl) (wp_isByte (fun _ _ => ?_) (fun q => absurd ⟨nI_pos' (by omega), nI_le (b := 255) hb1 (by decide)⟩ q))
        refine jr_if_eq 42 14 dX9_feed_11 rfl rfl (fun q => absurd q (by decide)) (fun q11 => ?_)
        refine jr_iload 16 dX9_feed_14 rfl rfl ?_
        refine cs_X9_100 19 dX9_feed_16 rfl rfl (Nat.le_of_ble_eq_true rfl) (wp_isByte (fun a b => absurd ⟨a, b⟩ qb2) (fun _ => ?_))
        refine jr_if_eq 42 22 dX9_feed_19 rfl rfl (fun q19 => ?_) (fun q => absurd (by decide) q)
        refine jr_iconst (0) 43 dX9_feed_42 rfl rfl ?_
        refine jr_istore (L' := [_, _, _, _, _, _, _, _, _]) 45 dX9_feed_43 rfl (by decide) rfl ?_
        refine jr_iload_n 1 46 dX9_feed_45 rfl rfl rfl ?_
        refine jr_iconst (1) 47 dX9_feed_46 rfl rfl ?_
        refine jr_icmp_lt 60 50 dX9_feed_47 rfl rfl (fun q47 => ?_) (fun q47 => ?_)
        · refine jr_bipush ((-2)) 62 dX9_feed_60 rfl rfl ?_
          refine jr_ireturn dX9_feed_62 rfl rfl ?_
          refine jr_enter (L := [some (.ref 46), some (.int v), some (.int (nI b0)), some (.int (nI b1)), some (.int a2), some (.int a3), some (.int a4), none]) (by decide) (Nat.le_of_ble_eq_true rfl) rfl ?_
          refine jr_iload_n 1 1 dX10_feed_0 rfl rfl rfl ?_
          refine jr_iconst (1) 2 dX10_feed_1 rfl rfl ?_
          refine jr_iconst (5) 3 dX10_feed_2 rfl rfl ?_
          refine cs_X10_108 6 dX10_feed_3 rfl rfl (Nat.le_of_ble_eq_true rfl) (wp_in (fun _ _ => ?_) (fun _ => ?_))
          · refine jr_if_eq 47 9 dX10_feed_6 rfl rfl (fun q => absurd q (by decide)) (fun q6 => ?_)
            refine jr_iload_n 2 10 dX10_feed_9 rfl rfl rfl ?_
            refine cs_X10_121 13 dX10_feed_10 rfl rfl (Nat.le_of_ble_eq_true rfl) (wp_risByte (fun _ _ => ?_) (fun q => absurd ⟨nI_pos' (by omega), nI_le (b := 255) hb0 (by decide)⟩ q))
            refine jr_if_eq 47 16 dX10_feed_13 rfl rfl (fun q => absurd q (by decide)) (fun q13 => ?_)
            refine jr_iload_n 3 17 dX10_feed_16 rfl rfl rfl ?_
            refine cs_X10_121 20 dX10_feed_17 rfl rfl (Nat.le_of_ble_eq_true rfl) (wp_risByte (fun _ _ => ?_) (fun q => absurd ⟨nI_pos' (by omega), nI_le (b := 255) hb1 (by decide)⟩ q))
            refine jr_if_eq 47 23 dX10_feed_20 rfl rfl (fun q => absurd q (by decide)) (fun q20 => ?_)
            refine jr_iload 25 dX10_feed_23 rfl rfl ?_
            refine cs_X10_121 28 dX10_feed_25 rfl rfl (Nat.le_of_ble_eq_true rfl) (wp_risByte (fun a b => absurd ⟨a, b⟩ qb2) (fun _ => ?_))
            refine jr_if_eq 47 31 dX10_feed_28 rfl rfl (fun q28 => ?_) (fun q => absurd (by decide) q)
            refine jr_bipush ((-2)) 49 dX10_feed_47 rfl rfl ?_
            refine jr_ireturn dX10_feed_49 rfl rfl ?_
            exact ⟨rfl, IV_mov (iv_same_x (jr_eqx_rf [] _) (by decide)) h⟩
          · refine jr_if_eq 47 9 dX10_feed_6 rfl rfl (fun q6 => ?_) (fun q => absurd (by decide) q)
            refine jr_bipush ((-2)) 49 dX10_feed_47 rfl rfl ?_
            refine jr_ireturn dX10_feed_49 rfl rfl ?_
            exact ⟨rfl, IV_mov (iv_same_x (jr_eqx_rf [] _) (by decide)) h⟩
        · refine jr_iload_n 1 51 dX9_feed_50 rfl rfl rfl ?_
          refine jr_iconst (5) 52 dX9_feed_51 rfl rfl ?_
          refine jr_icmp_gt 60 55 dX9_feed_52 rfl rfl (fun q52 => ?_) (fun q52 => ?_)
          · refine jr_bipush ((-2)) 62 dX9_feed_60 rfl rfl ?_
            refine jr_ireturn dX9_feed_62 rfl rfl ?_
            refine jr_enter (L := [some (.ref 46), some (.int v), some (.int (nI b0)), some (.int (nI b1)), some (.int a2), some (.int a3), some (.int a4), none]) (by decide) (Nat.le_of_ble_eq_true rfl) rfl ?_
            refine jr_iload_n 1 1 dX10_feed_0 rfl rfl rfl ?_
            refine jr_iconst (1) 2 dX10_feed_1 rfl rfl ?_
            refine jr_iconst (5) 3 dX10_feed_2 rfl rfl ?_
            refine cs_X10_108 6 dX10_feed_3 rfl rfl (Nat.le_of_ble_eq_true rfl) (wp_in (fun _ _ => ?_) (fun _ => ?_))
            · refine jr_if_eq 47 9 dX10_feed_6 rfl rfl (fun q => absurd q (by decide)) (fun q6 => ?_)
              refine jr_iload_n 2 10 dX10_feed_9 rfl rfl rfl ?_
              refine cs_X10_121 13 dX10_feed_10 rfl rfl (Nat.le_of_ble_eq_true rfl) (wp_risByte (fun _ _ => ?_) (fun q => absurd ⟨nI_pos' (by omega), nI_le (b := 255) hb0 (by decide)⟩ q))
              refine jr_if_eq 47 16 dX10_feed_13 rfl rfl (fun q => absurd q (by decide)) (fun q13 => ?_)
              refine jr_iload_n 3 17 dX10_feed_16 rfl rfl rfl ?_
              refine cs_X10_121 20 dX10_feed_17 rfl rfl (Nat.le_of_ble_eq_true rfl) (wp_risByte (fun _ _ => ?_) (fun q => absurd ⟨nI_pos' (by omega), nI_le (b := 255) hb1 (by decide)⟩ q))
              refine jr_if_eq 47 23 dX10_feed_20 rfl rfl (fun q => absurd q (by decide)) (fun q20 => ?_)
              refine jr_iload 25 dX10_feed_23 rfl rfl ?_
              refine cs_X10_121 28 dX10_feed_25 rfl rfl (Nat.le_of_ble_eq_true rfl) (wp_risByte (fun a b => absurd ⟨a, b⟩ qb2) (fun _ => ?_))
              refine jr_if_eq 47 31 dX10_feed_28 rfl rfl (fun q28 => ?_) (fun q => absurd (by decide) q)
              refine jr_bipush ((-2)) 49 dX10_feed_47 rfl rfl ?_
              refine jr_ireturn dX10_feed_49 rfl rfl ?_
              exact ⟨rfl, IV_mov (iv_same_x (jr_eqx_rf [] _) (by decide)) h⟩
            · refine jr_if_eq 47 9 dX10_feed_6 rfl rfl (fun q6 => ?_) (fun q => absurd (by decide) q)
              refine jr_bipush ((-2)) 49 dX10_feed_47 rfl rfl ?_
              refine jr_ireturn dX10_feed_49 rfl rfl ?_
              exact ⟨rfl, IV_mov (iv_same_x (jr_eqx_rf [] _) (by decide)) h⟩
          · refine jr_iload 57 dX9_feed_55 rfl rfl ?_
            refine jr_if_ne 63 60 dX9_feed_57 rfl rfl (fun q => absurd (by decide) q) (fun q57 => ?_)
            refine jr_bipush ((-2)) 62 dX9_feed_60 rfl rfl ?_
            refine jr_ireturn dX9_feed_62 rfl rfl ?_
            refine jr_enter (L := [some (.ref 46), some (.int v), some (.int (nI b0)), some (.int (nI b1)), some (.int a2), some (.int a3), some (.int a4), none]) (by decide) (Nat.le_of_ble_eq_true rfl) rfl ?_
            refine jr_iload_n 1 1 dX10_feed_0 rfl rfl rfl ?_
            refine jr_iconst (1) 2 dX10_feed_1 rfl rfl ?_
            refine jr_iconst (5) 3 dX10_feed_2 rfl rfl ?_
            refine cs_X10_108 6 dX10_feed_3 rfl rfl (Nat.le_of_ble_eq_true rfl) (wp_in (fun _ _ => ?_) (fun _ => ?_))
            · refine jr_if_eq 47 9 dX10_feed_6 rfl rfl (fun q => absurd q (by decide)) (fun q6 => ?_)
              refine jr_iload_n 2 10 dX10_feed_9 rfl rfl rfl ?_
              refine cs_X10_121 13 dX10_feed_10 rfl rfl (Nat.le_of_ble_eq_true rfl) (wp_risByte (fun _ _ => ?_) (fun q => absurd ⟨nI_pos' (by omega), nI_le (b := 255) hb0 (by decide)⟩ q))
              refine jr_if_eq 47 16 dX10_feed_13 rfl rfl (fun q => absurd q (by decide)) (fun q13 => ?_)
              refine jr_iload_n 3 17 dX10_feed_16 rfl rfl rfl ?_
              refine cs_X10_121 20 dX10_feed_17 rfl rfl (Nat.le_of_ble_eq_true rfl) (wp_risByte (fun _ _ => ?_) (fun q => absurd ⟨nI_pos' (by omega), nI_le (b := 255) hb1 (by decide)⟩ q))
              refine jr_if_eq 47 23 dX10_feed_20 rfl rfl (fun q => absurd q (by decide)) (fun q20 => ?_)
              refine jr_iload 25 dX10_feed_23 rfl rfl ?_
              refine cs_X10_121 28 dX10_feed_25 rfl rfl (Nat.le_of_ble_eq_true rfl) (wp_risByte (fun a b => absurd ⟨a, b⟩ qb2) (fun _ => ?_))
              refine jr_if_eq 47 31 dX10_feed_28 rfl rfl (fun q28 => ?_) (fun q => absurd (by decide) q)
              refine jr_bipush ((-2)) 49 dX10_feed_47 rfl rfl ?_
              refine jr_ireturn dX10_feed_49 rfl rfl ?_
              exact ⟨rfl, IV_mov (iv_same_x (jr_eqx_rf [] _) (by decide)) h⟩
            · refine jr_if_eq 47 9 dX10_feed_6 rfl rfl (fun q6 => ?_) (fun q => absurd (by decide) q)
              refine jr_bipush ((-2)) 49 dX10_feed_47 rfl rfl ?_
              refine jr_ireturn dX10_feed_49 rfl rfl ?_
              exact ⟨rfl, IV_mov (iv_same_x (jr_eqx_rf [] _) (by decide)) h⟩
      · rcases jr_rg a3 (m := 255) (by decide) with qb3 | ⟨b3, hb3, rfl⟩
        · refine jr_enter (L := [some (.ref 0), some (.int v), some (.int (nI b0)), some (.int (nI b1)), some (.int (nI b2)), some (.int a3), some (.int a4), none, none]) (by decide) (Nat.le_of_ble_eq_true rfl) rfl ?_
          refine jr_iload_n 2 1 dX9_feed_0 rfl rfl rfl ?_
          refine cs_X9_100 4 dX9_feed_1 rfl rfl (Nat.le_of_ble_eq_true rfl) (wp_isByte (fun _ _ => ?_) (fun q => absurd ⟨nI_pos' (by omega), nI_le (b := 255) hb0 (by decide)⟩ q))
          refine jr_if_eq 42 7 dX9_feed_4 rfl rfl (fun q => absurd q (by decide)) (fun q4 => ?_)
          refine jr_iload_n 3 8 dX9_feed_7 rfl rfl rfl ?_
          refine cs_X9_100 11 dX9_feed_8 rfl rfl (Nat.le_of_ble_eq_true rfl) (wp_isByte (fun _ _ => ?_) (fun q => absurd ⟨nI_pos' (by omega), nI_le (b := 255) hb1 (by decide)⟩ q))
          refine jr_if_eq 42 14 dX9_feed_11 rfl rfl (fun q => absurd q (by decide)) (fun q11 => ?_)
          refine jr_iload 16 dX9_feed_14 rfl rfl ?_
          refine cs_X9_100 19 dX9_feed_16 rfl rfl (Nat.le_of_ble_eq_true rfl) (wp_isByte (fun _ _ => ?_) (fun q => absurd ⟨nI_pos' (by omega), nI_le (b := 255) hb2 (by decide)⟩ q))
          refine jr_if_eq 42 22 dX9_feed_19 rfl rfl (fun q => absurd q (by decide)) (fun q19 => ?_)
          refine jr_iload 24 dX9_feed_22 rfl rfl ?_
          refine cs_X9_100 27 dX9_feed_24 rfl rfl (Nat.le_of_ble_eq_true rfl) (wp_isByte (fun a b => absurd ⟨a, b⟩ qb3) (fun _ => ?_))
          refine jr_if_eq 42 30 dX9_feed_27 rfl rfl (fun q27 => ?_) (fun q => absurd (by decide) q)
          refine jr_iconst (0) 43 dX9_feed_42 rfl rfl ?_
          refine jr_istore (L' := [_, _, _, _, _, _, _, _, _]) 45 dX9_feed_43 rfl (by decide) rfl ?_
          refine jr_iload_n 1 46 dX9_feed_45 rfl rfl rfl ?_
          refine jr_iconst (1) 47 dX9_feed_46 rfl rfl ?_
          refine jr_icmp_lt 60 50 dX9_feed_47 rfl rfl (fun q47 => ?_) (fun q47 => ?_)
          · refine jr_bipush ((-2)) 62 dX9_feed_60 rfl rfl ?_
            refine jr_ireturn dX9_feed_62 rfl rfl ?_
            refine jr_enter (L := [some (.ref 46), some (.int v), some (.int (nI b0)), some (.int (nI b1)), some (.int (nI b2)), some (.int a3), some (.int a4), none]) (by decide) (Nat.le_of_ble_eq_true rfl) rfl ?_
            refine jr_iload_n 1 1 dX10_feed_0 rfl rfl rfl ?_
            refine jr_iconst (1) 2 dX10_feed_1 rfl rfl ?_
            refine jr_iconst (5) 3 dX10_feed_2 rfl rfl ?_
            refine cs_X10_108 6 dX10_feed_3 rfl rfl (Nat.le_of_ble_eq_true rfl) (wp_in (fun _ _ => ?_) (fun _ => ?_))
            · refine jr_if_eq 47 9 dX10_feed_6 rfl rfl (fun q => absurd q (by decide)) (fun q6 => ?_)
              refine jr_iload_n 2 10 dX10_feed_9 rfl rfl rfl ?_
              refine cs_X10_121 13 dX10_feed_10 rfl rfl (Nat.le_of_ble_eq_true rfl) (wp_risByte (fun _ _ => ?_) (fun q => absurd ⟨nI_pos' (by omega), nI_le (b := 255) hb0 (by decide)⟩ q))
              refine jr_if_eq 47 16 dX10_feed_13 rfl rfl (fun q => absurd q (by decide)) (fun q13 => ?_)
              refine jr_iload_n 3 17 dX10_feed_16 rfl rfl rfl ?_
              refine cs_X10_121 20 dX10_feed_17 rfl rfl (Nat.le_of_ble_eq_true rfl) (wp_risByte (fun _ _ => ?_) (fun q => absurd ⟨nI_pos' (by omega), nI_le (b := 255) hb1 (by decide)⟩ q))
              refine jr_if_eq 47 23 dX10_feed_20 rfl rfl (fun q => absurd q (by decide)) (fun q20 => ?_)
              refine jr_iload 25 dX10_feed_23 rfl rfl ?_
              refine cs_X10_121 28 dX10_feed_25 rfl rfl (Nat.le_of_ble_eq_true rfl) (wp_risByte (fun _ _ => ?_) (fun q => absurd ⟨nI_pos' (by omega), nI_le (b := 255) hb2 (by decide)⟩ q))
              refine jr_if_eq 47 31 dX10_feed_28 rfl rfl (fun q => absurd q (by decide)) (fun q28 => ?_)
              refine jr_iload 33 dX10_feed_31 rfl rfl ?_
              refine cs_X10_121 36 dX10_feed_33 rfl rfl (Nat.le_of_ble_eq_true rfl) (wp_risByte (fun a b => absurd ⟨a, b⟩ qb3) (fun _ => ?_))
              refine jr_if_eq 47 39 dX10_feed_36 rfl rfl (fun q36 => ?_) (fun q => absurd (by decide) q)
              refine jr_bipush ((-2)) 49 dX10_feed_47 rfl rfl ?_
              refine jr_ireturn dX10_feed_49 rfl rfl ?_
              exact ⟨rfl, IV_mov (iv_same_x (jr_eqx_rf [] _) (by decide)) h⟩
            · refine jr_if_eq 47 9 dX10_feed_6 rfl rfl (fun q6 => ?_) (fun q => absurd (by decide) q)
              refine jr_bipush ((-2)) 49 dX10_feed_47 rfl rfl ?_
              refine jr_ireturn dX10_feed_49 rfl rfl ?_
              exact ⟨rfl, IV_mov (iv_same_x (jr_eqx_rf [] _) (by decide)) h⟩
          · refine jr_iload_n 1 51 dX9_feed_50 rfl rfl rfl ?_
            refine jr_iconst (5) 52 dX9_feed_51 rfl rfl ?_
            refine jr_icmp_gt 60 55 dX9_feed_52 rfl rfl (fun q52 => ?_) (fun q52 => ?_)
            · refine jr_bipush ((-2)) 62 dX9_feed_60 rfl rfl ?_
              refine jr_ireturn dX9_feed_62 rfl rfl ?_
              refine jr_enter (L := [some (.ref 46), some (.int v), some (.int (nI b0)), some (.int (nI b1)), some (.int (nI b2)), some (.int a3), some (.int a4), none]) (by decide) (Nat.le_of_ble_eq_true rfl) rfl ?_
              refine jr_iload_n 1 1 dX10_feed_0 rfl rfl rfl ?_
              refine jr_iconst (1) 2 dX10_feed_1 rfl rfl ?_
              refine jr_iconst (5) 3 dX10_feed_2 rfl rfl ?_
              refine cs_X10_108 6 dX10_feed_3 rfl rfl (Nat.le_of_ble_eq_true rfl) (wp_in (fun _ _ => ?_) (fun _ => ?_))
              · refine jr_if_eq 47 9 dX10_feed_6 rfl rfl (fun q => absurd q (by decide)) (fun q6 => ?_)
                refine jr_iload_n 2 10 dX10_feed_9 rfl rfl rfl ?_
                refine cs_X10_121 13 dX10_feed_10 rfl rfl (Nat.le_of_ble_eq_true rfl) (wp_risByte (fun _ _ => ?_) (fun q => absurd ⟨nI_pos' (by omega), nI_le (b := 255) hb0 (by decide)⟩ q))
                refine jr_if_eq 47 16 dX10_feed_13 rfl rfl (fun q => absurd q (by decide)) (fun q13 => ?_)
                refine jr_iload_n 3 17 dX10_feed_16 rfl rfl rfl ?_
                refine cs_X10_121 20 dX10_feed_17 rfl rfl (Nat.le_of_ble_eq_true rfl) (wp_risByte (fun _ _ => ?_) (fun q => absurd ⟨nI_pos' (by omega), nI_le (b := 255) hb1 (by decide)⟩ q))
                refine jr_if_eq 47 23 dX10_feed_20 rfl rfl (fun q => absurd q (by decide)) (fun q20 => ?_)
                refine jr_iload 25 dX10_feed_23 rfl rfl ?_
                refine cs_X10_121 28 dX10_feed_25 rfl rfl (Nat.le_of_ble_eq_true rfl) (wp_risByte (fun _ _ => ?_) (fun q => absurd ⟨nI_pos' (by omega), nI_le (b := 255) hb2 (by decide)⟩ q))
                refine jr_if_eq 47 31 dX10_feed_28 rfl rfl (fun q => absurd q (by decide)) (fun q28 => ?_)
                refine jr_iload 33 dX10_feed_31 rfl rfl ?_
                refine cs_X10_121 36 dX10_feed_33 rfl rfl (Nat.le_of_ble_eq_true rfl) (wp_risByte (fun a b => absurd ⟨a, b⟩ qb3) (fun _ => ?_))
                refine jr_if_eq 47 39 dX10_feed_36 rfl rfl (fun q36 => ?_) (fun q => absurd (by decide) q)
                refine jr_bipush ((-2)) 49 dX10_feed_47 rfl rfl ?_
                refine jr_ireturn dX10_feed_49 rfl rfl ?_
                exact ⟨rfl, IV_mov (iv_same_x (jr_eqx_rf [] _) (by decide)) h⟩
              · refine jr_if_eq 47 9 dX10_feed_6 rfl rfl (fun q6 => ?_) (fun q => absurd (by decide) q)
                refine jr_bipush ((-2)) 49 dX10_feed_47 rfl rfl ?_
                refine jr_ireturn dX10_feed_49 rfl rfl ?_
                exact ⟨rfl, IV_mov (iv_same_x (jr_eqx_rf [] _) (by decide)) h⟩
            · refine jr_iload 57 dX9_feed_55 rfl rfl ?_
              refine jr_if_ne 63 60 dX9_feed_57 rfl rfl (fun q => absurd (by decide) q) (fun q57 => ?_)
              refine jr_bipush ((-2)) 62 dX9_feed_60 rfl rfl ?_
              refine jr_ireturn dX9_feed_62 rfl rfl ?_
              refine jr_enter (L := [some (.ref 46), some (.int v), some (.int (nI b0)), some (.int (nI b1)), some (.int (nI b2)), some (.int a3), some (.int a4), none]) (by decide) (Nat.le_of_ble_eq_true rfl) rfl ?_
              refine jr_iload_n 1 1 dX10_feed_0 rfl rfl rfl ?_
              refine jr_iconst (1) 2 dX10_feed_1 rfl rfl ?_
              refine jr_iconst (5) 3 dX10_feed_2 rfl rfl ?_
              refine cs_X10_108 6 dX10_feed_3 rfl rfl (Nat.le_of_ble_eq_true rfl) (wp_in (fun _ _ => ?_) (fun _ => ?_))
              · refine jr_if_eq 47 9 dX10_feed_6 rfl rfl (fun q => absurd q (by decide)) (fun q6 => ?_)
                refine jr_iload_n 2 10 dX10_feed_9 rfl rfl rfl ?_
                refine cs_X10_121 13 dX10_feed_10 rfl rfl (Nat.le_of_ble_eq_true rfl) (wp_risByte (fun _ _ => ?_) (fun q => absurd ⟨nI_pos' (by omega), nI_le (b := 255) hb0 (by decide)⟩ q))
                refine jr_if_eq 47 16 dX10_feed_13 rfl rfl (fun q => absurd q (by decide)) (fun q13 => ?_)
                refine jr_iload_n 3 17 dX10_feed_16 rfl rfl rfl ?_
                refine cs_X10_121 20 dX10_feed_17 rfl rfl (Nat.le_of_ble_eq_true rfl) (wp_risByte (fun _ _ => ?_) (fun q => absurd ⟨nI_pos' (by omega), nI_le (b := 255) hb1 (by decide)⟩ q))
                refine jr_if_eq 47 23 dX10_feed_20 rfl rfl (fun q => absurd q (by decide)) (fun q20 => ?_)
                refine jr_iload 25 dX10_feed_23 rfl rfl ?_
                refine cs_X10_121 28 dX10_feed_25 rfl rfl (Nat.le_of_ble_eq_true rfl) (wp_risByte (fun _ _ => ?_) (fun q => absurd ⟨nI_pos' (by omega), nI_le (b := 255) hb2 (by decide)⟩ q))
                refine jr_if_eq 47 31 dX10_feed_28 rfl rfl (fun q => absurd q (by decide)) (fun q28 => ?_)
                refine jr_iload 33 dX10_feed_31 rfl rfl ?_
                refine cs_X10_121 36 dX10_feed_33 rfl rfl (Nat.le_of_ble_eq_true rfl) (wp_risByte (fun a b => absurd ⟨a, b⟩ qb3) (fun _ => ?_))
                refine jr_if_eq 47 39 dX10_feed_36 rfl rfl (fun q36 => ?_) (fun q => absurd (by decide) q)
                refine jr_bipush ((-2)) 49 dX10_feed_47 rfl rfl ?_
                refine jr_ireturn dX10_feed_49 rfl rfl ?_
                exact ⟨rfl, IV_mov (iv_same_x (jr_eqx_rf [] _) (by decide)) h⟩
              · refine jr_if_eq 47 9 dX10_feed_6 rfl rfl (fun q6 => ?_) (fun q => absurd (by decide) q)
                refine jr_bipush ((-2)) 49 dX10_feed_47 rfl rfl ?_
                refine jr_ireturn dX10_feed_49 rfl rfl ?_
                exact ⟨rfl, IV_mov (iv_same_x (jr_eqx_rf [] _) (by decide)) h⟩
        · rcases jr_rg a4 (m := 255) (by decide) with qb4 | ⟨b4, hb4, rfl⟩
          · refine jr_enter (L := [some (.ref 0), some (.int v), some (.int (nI b0)), some (.int (nI b1)), some (.int (nI b2)), some (.int (nI b3)), some (.int a4), none, none]) (by decide) (Nat.le_of_ble_eq_true rfl) rfl ?_
            refine jr_iload_n 2 1 dX9_feed_0 rfl rfl rfl ?_
            refine cs_X9_100 4 dX9_feed_1 rfl rfl (Nat.le_of_ble_eq_true rfl) (wp_isByte (fun _ _ => ?_) (fun q => absurd ⟨nI_pos' (by omega), nI_le (b := 255) hb0 (by decide)⟩ q))
            refine jr_if_eq 42 7 dX9_feed_4 rfl rfl (fun q => absurd q (by decide)) (fun q4 => ?_)
            refine jr_iload_n 3 8 dX9_feed_7 rfl rfl rfl ?_
            refine cs_X9_100 11 dX9_feed_8 rfl rfl (Nat.le_of_ble_eq_true rfl) (wp_isByte (fun _ _ => ?_) (fun q => absurd ⟨nI_pos' (by omega), nI_le (b := 255) hb1 (by decide)⟩ q))
            refine jr_if_eq 42 14 dX9_feed_11 rfl rfl (fun q => absurd q (by decide)) (fun q11 => ?_)
            refine jr_iload 16 dX9_feed_14 rfl rfl ?_
            refine cs_X9_100 19 dX9_feed_16 rfl rfl (Nat.le_of_ble_eq_true rfl) (wp_isByte (fun _ _ => ?_) (fun q => absurd ⟨nI_pos' (by omega), nI_le (b := 255) hb2 (by decide)⟩ q))
            refine jr_if_eq 42 22 dX9_feed_19 rfl rfl (fun q => absurd q (by decide)) (fun q19 => ?_)
            refine jr_iload 24 dX9_feed_22 rfl rfl ?_
            refine cs_X9_100 27 dX9_feed_24 rfl rfl (Nat.le_of_ble_eq_true rfl) (wp_isByte (fun _ _ => ?_) (fun q => absurd ⟨nI_pos' (by omega), nI_le (b := 255) hb3 (by decide)⟩ q))
            refine jr_if_eq 42 30 dX9_feed_27 rfl rfl (fun q => absurd q (by decide)) (fun q27 => ?_)
            refine jr_iload 32 dX9_feed_30 rfl rfl ?_
            refine cs_X9_100 35 dX9_feed_32 rfl rfl (Nat.le_of_ble_eq_true rfl) (wp_isByte (fun a b => absurd ⟨a, b⟩ qb4) (fun _ => ?_))
            refine jr_if_eq 42 38 dX9_feed_35 rfl rfl (fun q35 => ?_) (fun q => absurd (by decide) q)
            refine jr_iconst (0) 43 dX9_feed_42 rfl rfl ?_
            refine jr_istore (L' := [_, _, _, _, _, _, _, _, _]) 45 dX9_feed_43 rfl (by decide) rfl ?_
            refine jr_iload_n 1 46 dX9_feed_45 rfl rfl rfl ?_
            refine jr_iconst (1) 47 dX9_feed_46 rfl rfl ?_
            refine jr_icmp_lt 60 50 dX9_feed_47 rfl rfl (fun q47 => ?_) (fun q47 => ?_)
            · refine jr_bipush ((-2)) 62 dX9_feed_60 rfl rfl ?_
              refine jr_ireturn dX9_feed_62 rfl rfl ?_
              refine jr_enter (L := [some (.ref 46), some (.int v), some (.int (nI b0)), some (.int (nI b1)), some (.int (nI b2)), some (.int (nI b3)), some (.int a4), none]) (by decide) (Nat.le_of_ble_eq_true rfl) rfl ?_
              refine jr_iload_n 1 1 dX10_feed_0 rfl rfl rfl ?_
              refine jr_iconst (1) 2 dX10_feed_1 rfl rfl ?_
              refine jr_iconst (5) 3 dX10_feed_2 rfl rfl ?_
              refine cs_X10_108 6 dX10_feed_3 rfl rfl (Nat.le_of_ble_eq_true rfl) (wp_in (fun _ _ => ?_) (fun _ => ?_))
              · refine jr_if_eq 47 9 dX10_feed_6 rfl rfl (fun q => absurd q (by decide)) (fun q6 => ?_)
                refine jr_iload_n 2 10 dX10_feed_9 rfl rfl rfl ?_
                refine cs_X10_121 13 dX10_feed_10 rfl rfl (Nat.le_of_ble_eq_true rfl) (wp_risByte (fun _ _ => ?_) (fun q => absurd ⟨nI_pos' (by omega), nI_le (b := 255) hb0 (by decide)⟩ q))
                refine jr_if_eq 47 16 dX10_feed_13 rfl rfl (fun q => absurd q (by decide)) (fun q13 => ?_)
                refine jr_iload_n 3 17 dX10_feed_16 rfl rfl rfl ?_
                refine cs_X10_121 20 dX10_feed_17 rfl rfl (Nat.le_of_ble_eq_true rfl) (wp_risByte (fun _ _ => ?_) (fun q => absurd ⟨nI_pos' (by omega), nI_le (b := 255) hb1 (by decide)⟩ q))
                refine jr_if_eq 47 23 dX10_feed_20 rfl rfl (fun q => absurd q (by decide)) (fun q20 => ?_)
                refine jr_iload 25 dX10_feed_23 rfl rfl ?_
                refine cs_X10_121 28 dX10_feed_25 rfl rfl (Nat.le_of_ble_eq_true rfl) (wp_risByte (fun _ _ => ?_) (fun q => absurd ⟨nI_pos' (by omega), nI_le (b := 255) hb2 (by decide)⟩ q))
                refine jr_if_eq 47 31 dX10_feed_28 rfl rfl (fun q => absurd q (by decide)) (fun q28 => ?_)
                refine jr_iload 33 dX10_feed_31 rfl rfl ?_
                refine cs_X10_121 36 dX10_feed_33 rfl rfl (Nat.le_of_ble_eq_true rfl) (wp_risByte (fun _ _ => ?_) (fun q => absurd ⟨nI_pos' (by omega), nI_le (b := 255) hb3 (by decide)⟩ q))
                refine jr_if_eq 47 39 dX10_feed_36 rfl rfl (fun q => absurd q (by decide)) (fun q36 => ?_)
                refine jr_iload 41 dX10_feed_39 rfl rfl ?_
                refine cs_X10_121 44 dX10_feed_41 rfl rfl (Nat.le_of_ble_eq_true rfl) (wp_risByte (fun a b => absurd ⟨a, b⟩ qb4) (fun _ => ?_))
                refine jr_if_ne 50 47 dX10_feed_44 rfl rfl (fun q => absurd (by decide) q) (fun q44 => ?_)
                refine jr_bipush ((-2)) 49 dX10_feed_47 rfl rfl ?_
                refine jr_ireturn dX10_feed_49 rfl rfl ?_
                exact ⟨rfl, IV_mov (iv_same_x (jr_eqx_rf [] _) (by decide)) h⟩
              · refine jr_if_eq 47 9 dX10_feed_6 rfl rfl (fun q6 => ?_) (fun q => absurd (by decide) q)
                refine jr_bipush ((-2)) 49 dX10_feed_47 rfl rfl ?_
                refine jr_ireturn dX10_feed_49 rfl rfl ?_
                exact ⟨rfl, IV_mov (iv_same_x (jr_eqx_rf [] _) (by decide)) h⟩
            · refine jr_iload_n 1 51 dX9_feed_50 rfl rfl rfl ?_
              refine jr_iconst (5) 52 dX9_feed_51 rfl rfl ?_
              refine jr_icmp_gt 60 55 dX9_feed_52 rfl rfl (fun q52 => ?_) (fun q52 => ?_)
              · refine jr_bipush ((-2)) 62 dX9_feed_60 rfl rfl ?_
                refine jr_ireturn dX9_feed_62 rfl rfl ?_
                refine jr_enter (L := [some (.ref 46), some (.int v), some (.int (nI b0)), some (.int (nI b1)), some (.int (nI b2)), some (.int (nI b3)), some (.int a4), none]) (by decide) (Nat.le_of_ble_eq_true rfl) rfl ?_
                refine jr_iload_n 1 1 dX10_feed_0 rfl rfl rfl ?_
                refine jr_iconst (1) 2 dX10_feed_1 rfl rfl ?_
                refine jr_iconst (5) 3 dX10_feed_2 rfl rfl ?_
                refine cs_X10_108 6 dX10_feed_3 rfl rfl (Nat.le_of_ble_eq_true rfl) (wp_in (fun _ _ => ?_) (fun _ => ?_))
                · refine jr_if_eq 47 9 dX10_feed_6 rfl rfl (fun q => absurd q (by decide)) (fun q6 => ?_)
                  refine jr_iload_n 2 10 dX10_feed_9 rfl rfl rfl ?_
                  refine cs_X10_121 13 dX10_feed_10 rfl rfl (Nat.le_of_ble_eq_true rfl) (wp_risByte (fun _ _ => ?_) (fun q => absurd ⟨nI_pos' (by omega), nI_le (b := 255) hb0 (by decide)⟩ q))
                  refine jr_if_eq 47 16 dX10_feed_13 rfl rfl (fun q => absurd q (by decide)) (fun q13 => ?_)
                  refine jr_iload_n 3 17 dX10_feed_16 rfl rfl rfl ?_
                  refine cs_X10_121 20 dX10_feed_17 rfl rfl (Nat.le_of_ble_eq_true rfl) (wp_risByte (fun _ _ => ?_) (fun q => absurd ⟨nI_pos' (by omega), nI_le (b := 255) hb1 (by decide)⟩ q))
                  refine jr_if_eq 47 23 dX10_feed_20 rfl rfl (fun q => absurd q (by decide)) (fun q20 => ?_)
                  refine jr_iload 25 dX10_feed_23 rfl rfl ?_
                  refine cs_X10_121 28 dX10_feed_25 rfl rfl (Nat.le_of_ble_eq_true rfl) (wp_risByte (fun _ _ => ?_) (fun q => absurd ⟨nI_pos' (by omega), nI_le (b := 255) hb2 (by decide)⟩ q))
                  refine jr_if_eq 47 31 dX10_feed_28 rfl rfl (fun q => absurd q (by decide)) (fun q28 => ?_)
                  refine jr_iload 33 dX10_feed_31 rfl rfl ?_
                  refine cs_X10_121 36 dX10_feed_33 rfl rfl (Nat.le_of_ble_eq_true rfl) (wp_risByte (fun _ _ => ?_) (fun q => absurd ⟨nI_pos' (by omega), nI_le (b := 255) hb3 (by decide)⟩ q))
                  refine jr_if_eq 47 39 dX10_feed_36 rfl rfl (fun q => absurd q (by decide)) (fun q36 => ?_)
                  refine jr_iload 41 dX10_feed_39 rfl rfl ?_
                  refine cs_X10_121 44 dX10_feed_41 rfl rfl (Nat.le_of_ble_eq_true rfl) (wp_risByte (fun a b => absurd ⟨a, b⟩ qb4) (fun _ => ?_))
                  refine jr_if_ne 50 47 dX10_feed_44 rfl rfl (fun q => absurd (by decide) q) (fun q44 => ?_)
                  refine jr_bipush ((-2)) 49 dX10_feed_47 rfl rfl ?_
                  refine jr_ireturn dX10_feed_49 rfl rfl ?_
                  exact ⟨rfl, IV_mov (iv_same_x (jr_eqx_rf [] _) (by decide)) h⟩
                · refine jr_if_eq 47 9 dX10_feed_6 rfl rfl (fun q6 => ?_) (fun q => absurd (by decide) q)
                  refine jr_bipush ((-2)) 49 dX10_feed_47 rfl rfl ?_
                  refine jr_ireturn dX10_feed_49 rfl rfl ?_
                  exact ⟨rfl, IV_mov (iv_same_x (jr_eqx_rf [] _) (by decide)) h⟩
              · refine jr_iload 57 dX9_feed_55 rfl rfl ?_
                refine jr_if_ne 63 60 dX9_feed_57 rfl rfl (fun q => absurd (by decide) q) (fun q57 => ?_)
                refine jr_bipush ((-2)) 62 dX9_feed_60 rfl rfl ?_
                refine jr_ireturn dX9_feed_62 rfl rfl ?_
                refine jr_enter (L := [some (.ref 46), some (.int v), some (.int (nI b0)), some (.int (nI b1)), some (.int (nI b2)), some (.int (nI b3)), some (.int a4), none]) (by decide) (Nat.le_of_ble_eq_true rfl) rfl ?_
                refine jr_iload_n 1 1 dX10_feed_0 rfl rfl rfl ?_
                refine jr_iconst (1) 2 dX10_feed_1 rfl rfl ?_
                refine jr_iconst (5) 3 dX10_feed_2 rfl rfl ?_
                refine cs_X10_108 6 dX10_feed_3 rfl rfl (Nat.le_of_ble_eq_true rfl) (wp_in (fun _ _ => ?_) (fun _ => ?_))
                · refine jr_if_eq 47 9 dX10_feed_6 rfl rfl (fun q => absurd q (by decide)) (fun q6 => ?_)
                  refine jr_iload_n 2 10 dX10_feed_9 rfl rfl rfl ?_
                  refine cs_X10_121 13 dX10_feed_10 rfl rfl (Nat.le_of_ble_eq_true rfl) (wp_risByte (fun _ _ => ?_) (fun q => absurd ⟨nI_pos' (by omega), nI_le (b := 255) hb0 (by decide)⟩ q))
                  refine jr_if_eq 47 16 dX10_feed_13 rfl rfl (fun q => absurd q (by decide)) (fun q13 => ?_)
                  refine jr_iload_n 3 17 dX10_feed_16 rfl rfl rfl ?_
                  refine cs_X10_121 20 dX10_feed_17 rfl rfl (Nat.le_of_ble_eq_true rfl) (wp_risByte (fun _ _ => ?_) (fun q => absurd ⟨nI_pos' (by omega), nI_le (b := 255) hb1 (by decide)⟩ q))
                  refine jr_if_eq 47 23 dX10_feed_20 rfl rfl (fun q => absurd q (by decide)) (fun q20 => ?_)
                  refine jr_iload 25 dX10_feed_23 rfl rfl ?_
                  refine cs_X10_121 28 dX10_feed_25 rfl rfl (Nat.le_of_ble_eq_true rfl) (wp_risByte (fun _ _ => ?_) (fun q => absurd ⟨nI_pos' (by omega), nI_le (b := 255) hb2 (by decide)⟩ q))
                  refine jr_if_eq 47 31 dX10_feed_28 rfl rfl (fun q => absurd q (by decide)) (fun q28 => ?_)
                  refine jr_iload 33 dX10_feed_31 rfl rfl ?_
                  refine cs_X10_121 36 dX10_feed_33 rfl rfl (Nat.le_of_ble_eq_true rfl) (wp_risByte (fun _ _ => ?_) (fun q => absurd ⟨nI_pos' (by omega), nI_le (b := 255) hb3 (by decide)⟩ q))
                  refine jr_if_eq 47 39 dX10_feed_36 rfl rfl (fun q => absurd q (by decide)) (fun q36 => ?_)
                  refine jr_iload 41 dX10_feed_39 rfl rfl ?_
                  refine cs_X10_121 44 dX10_feed_41 rfl rfl (Nat.le_of_ble_eq_true rfl) (wp_risByte (fun a b => absurd ⟨a, b⟩ qb4) (fun _ => ?_))
                  refine jr_if_ne 50 47 dX10_feed_44 rfl rfl (fun q => absurd (by decide) q) (fun q44 => ?_)
                  refine jr_bipush ((-2)) 49 dX10_feed_47 rfl rfl ?_
                  refine jr_ireturn dX10_feed_49 rfl rfl ?_
                  exact ⟨rfl, IV_mov (iv_same_x (jr_eqx_rf [] _) (by decide)) h⟩
                · refine jr_if_eq 47 9 dX10_feed_6 rfl rfl (fun q6 => ?_) (fun q => absurd (by decide) q)
                  refine jr_bipush ((-2)) 49 dX10_feed_47 rfl rfl ?_
                  refine jr_ireturn dX10_feed_49 rfl rfl ?_
                  exact ⟨rfl, IV_mov (iv_same_x (jr_eqx_rf [] _) (by decide)) h⟩
          · by_cases v1 : v < 1
            · refine jr_enter (L := [some (.ref 0), some (.int v), some (.int (nI b0)), some (.int (nI b1)), some (.int (nI b2)), some (.int (nI b3)), some (.int (nI b4)), none, none]) (by decide) (Nat.le_of_ble_eq_true rfl) rfl ?_
              refine jr_iload_n 2 1 dX9_feed_0 rfl rfl rfl ?_
              refine cs_X9_100 4 dX9_feed_1 rfl rfl (Nat.le_of_ble_eq_true rfl) (wp_isByte (fun _ _ => ?_) (fun q => absurd ⟨nI_pos' (by omega), nI_le (b := 255) hb0 (by decide)⟩ q))
              refine jr_if_eq 42 7 dX9_feed_4 rfl rfl (fun q => absurd q (by decide)) (fun q4 => ?_)
              refine jr_iload_n 3 8 dX9_feed_7 rfl rfl rfl ?_
              refine cs_X9_100 11 dX9_feed_8 rfl rfl (Nat.le_of_ble_eq_true rfl) (wp_isByte (fun _ _ => ?_) (fun q => absurd ⟨nI_pos' (by omega), nI_le (b := 255) hb1 (by decide)⟩ q))
              refine jr_if_eq 42 14 dX9_feed_11 rfl rfl (fun q => absurd q (by decide)) (fun q11 => ?_)
              refine jr_iload 16 dX9_feed_14 rfl rfl ?_
              refine cs_X9_100 19 dX9_feed_16 rfl rfl (Nat.le_of_ble_eq_true rfl) (wp_isByte (fun _ _ => ?_) (fun q => absurd ⟨nI_pos' (by omega), nI_le (b := 255) hb2 (by decide)⟩ q))
              refine jr_if_eq 42 22 dX9_feed_19 rfl rfl (fun q => absurd q (by decide)) (fun q19 => ?_)
              refine jr_iload 24 dX9_feed_22 rfl rfl ?_
              refine cs_X9_100 27 dX9_feed_24 rfl rfl (Nat.le_of_ble_eq_true rfl) (wp_isByte (fun _ _ => ?_) (fun q => absurd ⟨nI_pos' (by omega), nI_le (b := 255) hb3 (by decide)⟩ q))
              refine jr_if_eq 42 30 dX9_feed_27 rfl rfl (fun q => absurd q (by decide)) (fun q27 => ?_)
              refine jr_iload 32 dX9_feed_30 rfl rfl ?_
              refine cs_X9_100 35 dX9_feed_32 rfl rfl (Nat.le_of_ble_eq_true rfl) (wp_isByte (fun _ _ => ?_) (fun q => absurd ⟨nI_pos' (by omega), nI_le (b := 255) hb4 (by decide)⟩ q))
              refine jr_if_eq 42 38 dX9_feed_35 rfl rfl (fun q => absurd q (by decide)) (fun q35 => ?_)
              refine jr_iconst (1) 39 dX9_feed_38 rfl rfl ?_
              refine jr_goto 43 dX9_feed_39 rfl ?_
              refine jr_istore (L' := [_, _, _, _, _, _, _, _, _]) 45 dX9_feed_43 rfl (by decide) rfl ?_
              refine jr_iload_n 1 46 dX9_feed_45 rfl rfl rfl ?_
              refine jr_iconst (1) 47 dX9_feed_46 rfl rfl ?_
              refine jr_icmp_lt 60 50 dX9_feed_47 rfl rfl (fun q47 => ?_) (fun q => absurd v1 q)
              refine jr_bipush ((-2)) 62 dX9_feed_60 rfl rfl ?_
              refine jr_ireturn dX9_feed_62 rfl rfl ?_
              refine jr_enter (L := [some (.ref 46), some (.int v), some (.int (nI b0)), some (.int (nI b1)), some (.int (nI b2)), some (.int (nI b3)), some (.int (nI b4)), none]) (by decide) (Nat.le_of_ble_eq_true rfl) rfl ?_
              refine jr_iload_n 1 1 dX10_feed_0 rfl rfl rfl ?_
              refine jr_iconst (1) 2 dX10_feed_1 rfl rfl ?_
              refine jr_iconst (5) 3 dX10_feed_2 rfl rfl ?_
              refine cs_X10_108 6 dX10_feed_3 rfl rfl (Nat.le_of_ble_eq_true rfl) (wp_in (fun q _ => absurd v1 (Int32.not_lt.mpr q)) (fun _ => ?_))
              refine jr_if_eq 47 9 dX10_feed_6 rfl rfl (fun q6 => ?_) (fun q => absurd (by decide) q)
              refine jr_bipush ((-2)) 49 dX10_feed_47 rfl rfl ?_
              refine jr_ireturn dX10_feed_49 rfl rfl ?_
              exact ⟨rfl, IV_mov (iv_same_x (jr_eqx_rf [] _) (by decide)) h⟩
            · by_cases v2 : 5 < v
              · refine jr_enter (L := [some (.ref 0), some (.int v), some (.int (nI b0)), some (.int (nI b1)), some (.int (nI b2)), some (.int (nI b3)), some (.int (nI b4)), none, none]) (by decide) (Nat.le_of_ble_eq_true rfl) rfl ?_
                refine jr_iload_n 2 1 dX9_feed_0 rfl rfl rfl ?_
                refine cs_X9_100 4 dX9_feed_1 rfl rfl (Nat.le_of_ble_eq_true rfl) (wp_isByte (fun _ _ => ?_) (fun q => absurd ⟨nI_pos' (by omega), nI_le (b := 255) hb0 (by decide)⟩ q))
                refine jr_if_eq 42 7 dX9_feed_4 rfl rfl (fun q => absurd q (by decide)) (fun q4 => ?_)
                refine jr_iload_n 3 8 dX9_feed_7 rfl rfl rfl ?_
                refine cs_X9_100 11 dX9_feed_8 rfl rfl (Nat.le_of_ble_eq_true rfl) (wp_isByte (fun _ _ => ?_) (fun q => absurd ⟨nI_pos' (by omega), nI_le (b := 255) hb1 (by decide)⟩ q))
                refine jr_if_eq 42 14 dX9_feed_11 rfl rfl (fun q => absurd q (by decide)) (fun q11 => ?_)
                refine jr_iload 16 dX9_feed_14 rfl rfl ?_
                refine cs_X9_100 19 dX9_feed_16 rfl rfl (Nat.le_of_ble_eq_true rfl) (wp_isByte (fun _ _ => ?_) (fun q => absurd ⟨nI_pos' (by omega), nI_le (b := 255) hb2 (by decide)⟩ q))
                refine jr_if_eq 42 22 dX9_feed_19 rfl rfl (fun q => absurd q (by decide)) (fun q19 => ?_)
                refine jr_iload 24 dX9_feed_22 rfl rfl ?_
                refine cs_X9_100 27 dX9_feed_24 rfl rfl (Nat.le_of_ble_eq_true rfl) (wp_isByte (fun _ _ => ?_) (fun q => absurd ⟨nI_pos' (by omega), nI_le (b := 255) hb3 (by decide)⟩ q))
                refine jr_if_eq 42 30 dX9_feed_27 rfl rfl (fun q => absurd q (by decide)) (fun q27 => ?_)
                refine jr_iload 32 dX9_feed_30 rfl rfl ?_
                refine cs_X9_100 35 dX9_feed_32 rfl rfl (Nat.le_of_ble_eq_true rfl) (wp_isByte (fun _ _ => ?_) (fun q => absurd ⟨nI_pos' (by omega), nI_le (b := 255) hb4 (by decide)⟩ q))
                refine jr_if_eq 42 38 dX9_feed_35 rfl rfl (fun q => absurd q (by decide)) (fun q35 => ?_)
                refine jr_iconst (1) 39 dX9_feed_38 rfl rfl ?_
                refine jr_goto 43 dX9_feed_39 rfl ?_
                refine jr_istore (L' := [_, _, _, _, _, _, _, _, _]) 45 dX9_feed_43 rfl (by decide) rfl ?_
                refine jr_iload_n 1 46 dX9_feed_45 rfl rfl rfl ?_
                refine jr_iconst (1) 47 dX9_feed_46 rfl rfl ?_
                refine jr_icmp_lt 60 50 dX9_feed_47 rfl rfl (fun q => absurd q v1) (fun q47 => ?_)
                refine jr_iload_n 1 51 dX9_feed_50 rfl rfl rfl ?_
                refine jr_iconst (5) 52 dX9_feed_51 rfl rfl ?_
                refine jr_icmp_gt 60 55 dX9_feed_52 rfl rfl (fun q52 => ?_) (fun q => absurd v2 q)
                refine jr_bipush ((-2)) 62 dX9_feed_60 rfl rfl ?_
                refine jr_ireturn dX9_feed_62 rfl rfl ?_
                refine jr_enter (L := [some (.ref 46), some (.int v), some (.int (nI b0)), some (.int (nI b1)), some (.int (nI b2)), some (.int (nI b3)), some (.int (nI b4)), none]) (by decide) (Nat.le_of_ble_eq_true rfl) rfl ?_
                refine jr_iload_n 1 1 dX10_feed_0 rfl rfl rfl ?_
                refine jr_iconst (1) 2 dX10_feed_1 rfl rfl ?_
                refine jr_iconst (5) 3 dX10_feed_2 rfl rfl ?_
                refine cs_X10_108 6 dX10_feed_3 rfl rfl (Nat.le_of_ble_eq_true rfl) (wp_in (fun _ q => absurd v2 (Int32.not_lt.mpr q)) (fun _ => ?_))
                refine jr_if_eq 47 9 dX10_feed_6 rfl rfl (fun q6 => ?_) (fun q => absurd (by decide) q)
                refine jr_bipush ((-2)) 49 dX10_feed_47 rfl rfl ?_
                refine jr_ireturn dX10_feed_49 rfl rfl ?_
                exact ⟨rfl, IV_mov (iv_same_x (jr_eqx_rf [] _) (by decide)) h⟩
              · have hv : ∃ u : Nat, 1 ≤ u ∧ u ≤ 5 ∧ v = nI u := by
                  rcases jr_rg v (m := 5) (by decide) with q | ⟨u, hu, rfl⟩
                  · exact absurd ⟨Int32.le_trans (by decide) (Int32.not_lt.mp v1), Int32.not_lt.mp v2⟩ q
                  · refine ⟨u, ?_, hu, rfl⟩
                    rcases Nat.eq_zero_or_pos u with rfl | z
                    · exact absurd (by decide) v1
                    · exact z
                obtain ⟨N, hN1, hN, rfl⟩ := hv
                have t160 : tp ≤ 160 := htp.2.2.1
                by_cases hf : 160 < tp + N
                · refine jr_enter (L := [some (.ref 0), some (.int (nI N)), some (.int (nI b0)), some (.int (nI b1)), some (.int (nI b2)), some (.int (nI b3)), some (.int (nI b4)), none, none]) (by decide) (Nat.le_of_ble_eq_true rfl) rfl ?_
                  refine jr_iload_n 2 1 dX9_feed_0 rfl rfl rfl ?_
                  refine cs_X9_100 4 dX9_feed_1 rfl rfl (Nat.le_of_ble_eq_true rfl) (wp_isByte (fun _ _ => ?_) (fun q => absurd ⟨nI_pos' (by omega), nI_le (b := 255) hb0 (by decide)⟩ q))
                  refine jr_if_eq 42 7 dX9_feed_4 rfl rfl (fun q => absurd q (by decide)) (fun q4 => ?_)
                  refine jr_iload_n 3 8 dX9_feed_7 rfl rfl rfl ?_
                  refine cs_X9_100 11 dX9_feed_8 rfl rfl (Nat.le_of_ble_eq_true rfl) (wp_isByte (fun _ _ => ?_) (fun q => absurd ⟨nI_pos' (by omega), nI_le (b := 255) hb1 (by decide)⟩ q))
                  refine jr_if_eq 42 14 dX9_feed_11 rfl rfl (fun q => absurd q (by decide)) (fun q11 => ?_)
                  refine jr_iload 16 dX9_feed_14 rfl rfl ?_
                  refine cs_X9_100 19 dX9_feed_16 rfl rfl (Nat.le_of_ble_eq_true rfl) (wp_isByte (fun _ _ => ?_) (fun q => absurd ⟨nI_pos' (by omega), nI_le (b := 255) hb2 (by decide)⟩ q))
                  refine jr_if_eq 42 22 dX9_feed_19 rfl rfl (fun q => absurd q (by decide)) (fun q19 => ?_)
                  refine jr_iload 24 dX9_feed_22 rfl rfl ?_
                  refine cs_X9_100 27 dX9_feed_24 rfl rfl (Nat.le_of_ble_eq_true rfl) (wp_isByte (fun _ _ => ?_) (fun q => absurd ⟨nI_pos' (by omega), nI_le (b := 255) hb3 (by decide)⟩ q))
                  refine jr_if_eq 42 30 dX9_feed_27 rfl rfl (fun q => absurd q (by decide)) (fun q27 => ?_)
                  refine jr_iload 32 dX9_feed_30 rfl rfl ?_
                  refine cs_X9_100 35 dX9_feed_32 rfl rfl (Nat.le_of_ble_eq_true rfl) (wp_isByte (fun _ _ => ?_) (fun q => absurd ⟨nI_pos' (by omega), nI_le (b := 255) hb4 (by decide)⟩ q))
                  refine jr_if_eq 42 38 dX9_feed_35 rfl rfl (fun q => absurd q (by decide)) (fun q35 => ?_)
                  refine jr_iconst (1) 39 dX9_feed_38 rfl rfl ?_
                  refine jr_goto 43 dX9_feed_39 rfl ?_
                  refine jr_istore (L' := [_, _, _, _, _, _, _, _, _]) 45 dX9_feed_43 rfl (by decide) rfl ?_
                  refine jr_iload_n 1 46 dX9_feed_45 rfl rfl rfl ?_
                  refine jr_iconst (1) 47 dX9_feed_46 rfl rfl ?_
                  refine jr_icmp_lt 60 50 dX9_feed_47 rfl rfl (fun q => absurd q v1) (fun q47 => ?_)
                  refine jr_iload_n 1 51 dX9_feed_50 rfl rfl rfl ?_
                  refine jr_iconst (5) 52 dX9_feed_51 rfl rfl ?_
                  refine jr_icmp_gt 60 55 dX9_feed_52 rfl rfl (fun q => absurd q v2) (fun q52 => ?_)
                  refine jr_iload 57 dX9_feed_55 rfl rfl ?_
                  refine jr_if_ne 63 60 dX9_feed_57 rfl rfl (fun q57 => ?_) (fun q => absurd q (by decide))
                  refine jr_aload_n 0 64 dX9_feed_63 rfl rfl rfl ?_
                  refine gf_X9_21 67 dX9_feed_64 rfl rfl rfl rfl ?_
                  refine cs_X9_97 70 dX9_feed_67 rfl rfl rfl (Nat.le_of_ble_eq_true rfl) (wp_taped ?_)
                  refine jr_topi (y := nI tp) htp.1 ?_
                  refine jr_iload_n 1 71 dX9_feed_70 rfl rfl rfl ?_
                  refine jr_iadd 72 dX9_feed_71 rfl ?_
                  rw [nI_add]
                  refine jr_sipush (nI 160) 75 dX9_feed_72 rfl rfl ?_
                  refine jr_icmp_le 81 78 dX9_feed_75 rfl rfl (fun q => absurd q (nI_ge (a := 160) hf (by omega))) (fun q75 => ?_)
                  refine jr_bipush ((-4)) 80 dX9_feed_78 rfl rfl ?_
                  refine jr_ireturn dX9_feed_80 rfl rfl ?_
                  refine jr_enter (L := [some (.ref 46), some (.int (nI N)), some (.int (nI b0)), some (.int (nI b1)), some (.int (nI b2)), some (.int (nI b3)), some (.int (nI b4)), none]) (by decide) (Nat.le_of_ble_eq_true rfl) rfl ?_
                  refine jr_iload_n 1 1 dX10_feed_0 rfl rfl rfl ?_
                  refine jr_iconst (1) 2 dX10_feed_1 rfl rfl ?_
                  refine jr_iconst (5) 3 dX10_feed_2 rfl rfl ?_
                  refine cs_X10_108 6 dX10_feed_3 rfl rfl (Nat.le_of_ble_eq_true rfl) (wp_in (fun _ _ => ?_) (fun q => absurd ⟨Int32.not_lt.mp v1, Int32.not_lt.mp v2⟩ q))
                  refine jr_if_eq 47 9 dX10_feed_6 rfl rfl (fun q => absurd q (by decide)) (fun q6 => ?_)
                  refine jr_iload_n 2 10 dX10_feed_9 rfl rfl rfl ?_
                  refine cs_X10_121 13 dX10_feed_10 rfl rfl (Nat.le_of_ble_eq_true rfl) (wp_risByte (fun _ _ => ?_) (fun q => absurd ⟨nI_pos' (by omega), nI_le (b := 255) hb0 (by decide)⟩ q))
                  refine jr_if_eq 47 16 dX10_feed_13 rfl rfl (fun q => absurd q (by decide)) (fun q13 => ?_)
                  refine jr_iload_n 3 17 dX10_feed_16 rfl rfl rfl ?_
                  refine cs_X10_121 20 dX10_feed_17 rfl rfl (Nat.le_of_ble_eq_true rfl) (wp_risByte (fun _ _ => ?_) (fun q => absurd ⟨nI_pos' (by omega), nI_le (b := 255) hb1 (by decide)⟩ q))
                  refine jr_if_eq 47 23 dX10_feed_20 rfl rfl (fun q => absurd q (by decide)) (fun q20 => ?_)
                  refine jr_iload 25 dX10_feed_23 rfl rfl ?_
                  refine cs_X10_121 28 dX10_feed_25 rfl rfl (Nat.le_of_ble_eq_true rfl) (wp_risByte (fun _ _ => ?_) (fun q => absurd ⟨nI_pos' (by omega), nI_le (b := 255) hb2 (by decide)⟩ q))
                  refine jr_if_eq 47 31 dX10_feed_28 rfl rfl (fun q => absurd q (by decide)) (fun q28 => ?_)
                  refine jr_iload 33 dX10_feed_31 rfl rfl ?_
                  refine cs_X10_121 36 dX10_feed_33 rfl rfl (Nat.le_of_ble_eq_true rfl) (wp_risByte (fun _ _ => ?_) (fun q => absurd ⟨nI_pos' (by omega), nI_le (b := 255) hb3 (by decide)⟩ q))
                  refine jr_if_eq 47 39 dX10_feed_36 rfl rfl (fun q => absurd q (by decide)) (fun q36 => ?_)
                  refine jr_iload 41 dX10_feed_39 rfl rfl ?_
                  refine cs_X10_121 44 dX10_feed_41 rfl rfl (Nat.le_of_ble_eq_true rfl) (wp_risByte (fun _ _ => ?_) (fun q => absurd ⟨nI_pos' (by omega), nI_le (b := 255) hb4 (by decide)⟩ q))
                  refine jr_if_ne 50 47 dX10_feed_44 rfl rfl (fun q44 => ?_) (fun q => absurd q (by decide))
                  refine jr_aload_n 0 51 dX10_feed_50 rfl rfl rfl ?_
                  refine gf_X10_98 54 dX10_feed_51 rfl rfl rfl rfl ?_
                  refine jr_topi (y := nI tp) htp.2.1 ?_
                  refine jr_iload_n 1 55 dX10_feed_54 rfl rfl rfl ?_
                  refine jr_iadd 56 dX10_feed_55 rfl ?_
                  rw [nI_add]
                  refine jr_sipush (nI 160) 59 dX10_feed_56 rfl rfl ?_
                  refine jr_icmp_le 65 62 dX10_feed_59 rfl rfl (fun q => absurd q (nI_ge (a := 160) hf (by omega))) (fun q59 => ?_)
                  refine jr_bipush ((-4)) 64 dX10_feed_62 rfl rfl ?_
                  refine jr_ireturn dX10_feed_64 rfl rfl ?_
                  exact ⟨rfl, IV_mov (iv_same_x (jr_eqx_rf [] _) (by decide)) h⟩
                · refine jr_enter (L := [some (.ref 0), some (.int (nI N)), some (.int (nI b0)), some (.int (nI b1)), some (.int (nI b2)), some (.int (nI b3)), some (.int (nI b4)), none, none]) (by decide) (Nat.le_of_ble_eq_true rfl) rfl ?_
                  refine jr_iload_n 2 1 dX9_feed_0 rfl rfl rfl ?_
                  refine cs_X9_100 4 dX9_feed_1 rfl rfl (Nat.le_of_ble_eq_true rfl) (wp_isByte (fun _ _ => ?_) (fun q => absurd ⟨nI_pos' (by omega), nI_le (b := 255) hb0 (by decide)⟩ q))
                  refine jr_if_eq 42 7 dX9_feed_4 rfl rfl (fun q => absurd q (by decide)) (fun q4 => ?_)
                  refine jr_iload_n 3 8 dX9_feed_7 rfl rfl rfl ?_
                  refine cs_X9_100 11 dX9_feed_8 rfl rfl (Nat.le_of_ble_eq_true rfl) (wp_isByte (fun _ _ => ?_) (fun q => absurd ⟨nI_pos' (by omega), nI_le (b := 255) hb1 (by decide)⟩ q))
                  refine jr_if_eq 42 14 dX9_feed_11 rfl rfl (fun q => absurd q (by decide)) (fun q11 => ?_)
                  refine jr_iload 16 dX9_feed_14 rfl rfl ?_
                  refine cs_X9_100 19 dX9_feed_16 rfl rfl (Nat.le_of_ble_eq_true rfl) (wp_isByte (fun _ _ => ?_) (fun q => absurd ⟨nI_pos' (by omega), nI_le (b := 255) hb2 (by decide)⟩ q))
                  refine jr_if_eq 42 22 dX9_feed_19 rfl rfl (fun q => absurd q (by decide)) (fun q19 => ?_)
                  refine jr_iload 24 dX9_feed_22 rfl rfl ?_
                  refine cs_X9_100 27 dX9_feed_24 rfl rfl (Nat.le_of_ble_eq_true rfl) (wp_isByte (fun _ _ => ?_) (fun q => absurd ⟨nI_pos' (by omega), nI_le (b := 255) hb3 (by decide)⟩ q))
                  refine jr_if_eq 42 30 dX9_feed_27 rfl rfl (fun q => absurd q (by decide)) (fun q27 => ?_)
                  refine jr_iload 32 dX9_feed_30 rfl rfl ?_
                  refine cs_X9_100 35 dX9_feed_32 rfl rfl (Nat.le_of_ble_eq_true rfl) (wp_isByte (fun _ _ => ?_) (fun q => absurd ⟨nI_pos' (by omega), nI_le (b := 255) hb4 (by decide)⟩ q))
                  refine jr_if_eq 42 38 dX9_feed_35 rfl rfl (fun q => absurd q (by decide)) (fun q35 => ?_)
                  refine jr_iconst (1) 39 dX9_feed_38 rfl rfl ?_
                  refine jr_goto 43 dX9_feed_39 rfl ?_
                  refine jr_istore (L' := [_, _, _, _, _, _, _, _, _]) 45 dX9_feed_43 rfl (by decide) rfl ?_
                  refine jr_iload_n 1 46 dX9_feed_45 rfl rfl rfl ?_
                  refine jr_iconst (1) 47 dX9_feed_46 rfl rfl ?_
                  refine jr_icmp_lt 60 50 dX9_feed_47 rfl rfl (fun q => absurd q v1) (fun q47 => ?_)
                  refine jr_iload_n 1 51 dX9_feed_50 rfl rfl rfl ?_
                  refine jr_iconst (5) 52 dX9_feed_51 rfl rfl ?_
                  refine jr_icmp_gt 60 55 dX9_feed_52 rfl rfl (fun q => absurd q v2) (fun q52 => ?_)
                  refine jr_iload 57 dX9_feed_55 rfl rfl ?_
                  refine jr_if_ne 63 60 dX9_feed_57 rfl rfl (fun q57 => ?_) (fun q => absurd q (by decide))
                  refine jr_aload_n 0 64 dX9_feed_63 rfl rfl rfl ?_
                  refine gf_X9_21 67 dX9_feed_64 rfl rfl rfl rfl ?_
                  refine cs_X9_97 70 dX9_feed_67 rfl rfl rfl (Nat.le_of_ble_eq_true rfl) (wp_taped ?_)
                  refine jr_topi (y := nI tp) htp.1 ?_
                  refine jr_iload_n 1 71 dX9_feed_70 rfl rfl rfl ?_
                  refine jr_iadd 72 dX9_feed_71 rfl ?_
                  rw [nI_add]
                  refine jr_sipush (nI 160) 75 dX9_feed_72 rfl rfl ?_
                  refine jr_icmp_le 81 78 dX9_feed_75 rfl rfl (fun q75 => ?_) (fun q => absurd (nI_le (b := 160) (by omega) (by omega)) q)
                  refine jr_iconst (nI 0) 82 dX9_feed_81 rfl rfl ?_
                  refine jr_istore (L' := [_, _, _, _, _, _, _, _, _]) 84 dX9_feed_82 rfl (by decide) rfl ?_
                  refine feed_x (tp := tp) hN (by omega) (fun σ1 x1 x2 x3 x4 x5 => ?_) N 0 σ (Nat.zero_add _) (fun _ _ _ => rfl) (fun _ _ => rfl) htp.1 (fun _ _ => rfl) (fun q hq => absurd hq (Nat.not_lt_zero q))
                  refine jr_aload_n 0 147 dX9_feed_146 rfl rfl rfl ?_
                  refine gf_X9_21 150 dX9_feed_147 rfl rfl rfl rfl ?_
                  refine cs_X9_97 153 dX9_feed_150 rfl rfl rfl (Nat.le_of_ble_eq_true rfl) (wp_taped ?_)
                  refine jr_ireturn dX9_feed_153 rfl rfl ?_
                  refine jr_enter (L := [some (.ref 46), some (.int (nI N)), some (.int (nI b0)), some (.int (nI b1)), some (.int (nI b2)), some (.int (nI b3)), some (.int (nI b4)), none]) (by decide) (Nat.le_of_ble_eq_true rfl) rfl ?_
                  refine jr_iload_n 1 1 dX10_feed_0 rfl rfl rfl ?_
                  refine jr_iconst (1) 2 dX10_feed_1 rfl rfl ?_
                  refine jr_iconst (5) 3 dX10_feed_2 rfl rfl ?_
                  refine cs_X10_108 6 dX10_feed_3 rfl rfl (Nat.le_of_ble_eq_true rfl) (wp_in (fun _ _ => ?_) (fun q => absurd ⟨Int32.not_lt.mp v1, Int32.not_lt.mp v2⟩ q))
                  refine jr_if_eq 47 9 dX10_feed_6 rfl rfl (fun q => absurd q (by decide)) (fun q6 => ?_)
                  refine jr_iload_n 2 10 dX10_feed_9 rfl rfl rfl ?_
                  refine cs_X10_121 13 dX10_feed_10 rfl rfl (Nat.le_of_ble_eq_true rfl) (wp_risByte (fun _ _ => ?_) (fun q => absurd ⟨nI_pos' (by omega), nI_le (b := 255) hb0 (by decide)⟩ q))
                  refine jr_if_eq 47 16 dX10_feed_13 rfl rfl (fun q => absurd q (by decide)) (fun q13 => ?_)
                  refine jr_iload_n 3 17 dX10_feed_16 rfl rfl rfl ?_
                  refine cs_X10_121 20 dX10_feed_17 rfl rfl (Nat.le_of_ble_eq_true rfl) (wp_risByte (fun _ _ => ?_) (fun q => absurd ⟨nI_pos' (by omega), nI_le (b := 255) hb1 (by decide)⟩ q))
                  refine jr_if_eq 47 23 dX10_feed_20 rfl rfl (fun q => absurd q (by decide)) (fun q20 => ?_)
                  refine jr_iload 25 dX10_feed_23 rfl rfl ?_
                  refine cs_X10_121 28 dX10_feed_25 rfl rfl (Nat.le_of_ble_eq_true rfl) (wp_risByte (fun _ _ => ?_) (fun q => absurd ⟨nI_pos' (by omega), nI_le (b := 255) hb2 (by decide)⟩ q))
                  refine jr_if_eq 47 31 dX10_feed_28 rfl rfl (fun q => absurd q (by decide)) (fun q28 => ?_)
                  refine jr_iload 33 dX10_feed_31 rfl rfl ?_
                  refine cs_X10_121 36 dX10_feed_33 rfl rfl (Nat.le_of_ble_eq_true rfl) (wp_risByte (fun _ _ => ?_) (fun q => absurd ⟨nI_pos' (by omega), nI_le (b := 255) hb3 (by decide)⟩ q))
                  refine jr_if_eq 47 39 dX10_feed_36 rfl rfl (fun q => absurd q (by decide)) (fun q36 => ?_)
                  refine jr_iload 41 dX10_feed_39 rfl rfl ?_
                  refine cs_X10_121 44 dX10_feed_41 rfl rfl (Nat.le_of_ble_eq_true rfl) (wp_risByte (fun _ _ => ?_) (fun q => absurd ⟨nI_pos' (by omega), nI_le (b := 255) hb4 (by decide)⟩ q))
                  refine jr_if_ne 50 47 dX10_feed_44 rfl rfl (fun q44 => ?_) (fun q => absurd q (by decide))
                  refine jr_aload_n 0 51 dX10_feed_50 rfl rfl rfl ?_
                  refine gf_X10_98 54 dX10_feed_51 rfl rfl rfl rfl ?_
                  refine jr_topi (y := nI tp) (by rw [x1 46 (by decide) (by decide)]; exact htp.2.1) ?_
                  refine jr_iload_n 1 55 dX10_feed_54 rfl rfl rfl ?_
                  refine jr_iadd 56 dX10_feed_55 rfl ?_
                  rw [nI_add]
                  refine jr_sipush (nI 160) 59 dX10_feed_56 rfl rfl ?_
                  refine jr_icmp_le 65 62 dX10_feed_59 rfl rfl (fun q59 => ?_) (fun q => absurd (nI_le (b := 160) (by omega) (by omega)) q)
                  refine jr_iconst (nI 0) 66 dX10_feed_65 rfl rfl ?_
                  refine jr_istore (L' := [_, _, _, _, _, _, _, _]) 68 dX10_feed_66 rfl (by decide) rfl ?_
                  refine feed_r (tp := tp) hN (by omega) (fun σ2 r1 r2 r3 r4 r5 => ?_) N 0 σ1 (Nat.zero_add _) (fun _ _ _ => rfl) (fun _ _ => rfl) (by rw [x1 46 (by decide) (by decide)]; exact htp.2.1) (fun _ _ => rfl) (fun q hq => absurd hq (Nat.not_lt_zero q))
                  refine jr_aload_n 0 143 dX10_feed_142 rfl rfl rfl ?_
                  refine gf_X10_98 146 dX10_feed_143 rfl rfl rfl rfl ?_
                  refine jr_ireturn dX10_feed_146 rfl rfl ?_
                  refine ⟨congrArg Value.int (r3.trans x3.symm), T, n, nf, nc, kd, se, lw, tp + N, iv_tapes h (fun a ha ha2 => ?_) (fun k hk hk2 => ?_) ⟨by rw [r1 5 (by decide) (by decide)]; exact x3, r3, by omega, fun q hq => ?_⟩⟩
                  · simp only [List.mem_cons, not_or] at ha2
                    have h46 : a ≠ 46 := by rintro rfl; exact absurd ha (by decide)
                    rw [r1 a h46 (by omega), x1 a (by omega) (by omega)]
                  · simp only [List.mem_cons, List.not_mem_nil, or_false] at hk2
                    rw [r2 k hk2, x1 46 (by decide) (by decide)]
                  · rw [r1 6 (by decide) (by decide)]
                    have hsel : ∀ y, sel b0 b1 b2 b3 b4 y ≤ 255 := fun y => by
                      unfold sel
                      split <;> assumption
                    by_cases z : q < tp
                    · rw [x4 q z, r4 q z, x1 53 (by decide) (by decide)]
                      exact htp.2.2.2 q z
                    · have e : q = tp + (q - tp) := by omega
                      rw [e, x5 (q - tp) (by omega), r5 (q - tp) (by omega)]
                      exact ⟨rfl, _, hsel _, rfl⟩
theorem sh_copy {σ σ' : jr_Sg} {s o a b m zs zo : Nat} (hsh : iv_sh σ) (hs : s < 4) (ho : o < 4) (es : σ 58 s = nI zs) (eo : σ 58 o = nI zo) (hzs : zs ≤ 40) (hzo : zo ≤ 40) (ha : a + m ≤ zs) (hb : b + m ≤ zo) (g : ∀ x, x ∈ [43, 44, 57, 58] → σ' x = σ x) (g45 : σ' 45 = va_cpy (σ 45) (σ 45) (40 * s + a) (40 * o + b) m) (g59 : ∀ q, σ' 59 q = va_cpy (σ 59) (σ 59) (40 * s + a) (40 * o + b) m q) : iv_sh σ' := fun t ht => by
  obtain ⟨h1, h2, h3, z2, hz2, h4, h5⟩ := hsh t ht
  refine ⟨by rw [g 43 (by decide), g 57 (by decide)]; exact h1, by rw [g 44 (by decide), g 58 (by decide)]; exact h2, by rw [g 57 (by decide)]; exact h3, z2, hz2, by rw [g 58 (by decide)]; exact h4, fun q hq => ?_⟩
  rw [g45, g59]
  unfold va_cpy
  by_cases e : 40 * o + b ≤ 40 * t + q ∧ 40 * t + q < 40 * o + b + m
  · rw [if_pos e, if_pos e]
    obtain ⟨-, -, -, z3, hz3, k4, k5⟩ := hsh s hs
    have hz : z3 = zs := nI_inj (by omega) (by omega) (k4.symm.trans es)
    have := k5 (a + (40 * t + q - (40 * o + b))) (by omega)
    rw [show 40 * s + a + (40 * t + q - (40 * o + b)) = 40 * s + (a + (40 * t + q - (40 * o + b))) by omega]
    exact this
  · rw [if_neg e, if_neg e]; exact h5 q hq
theorem wp_carry {G : jr_G} {d : Nat} {σ : jr_Sg} {k : jr_Sg → Prop} {s o a b m zs zo : Nat} (hs : s < 4) (ho : o < 4) (es : σ 44 s = nI zs) (eo : σ 44 o = nI zo) (hzs : zs ≤ 40) (hzo : zo ≤ 40) (ha : a + m ≤ zs) (hb : b + m ≤ zo) (h : k (jr_upc σ 45 (va_cpy (σ 45) (σ 45) (40 * s + a) (40 * o + b) m))) : jr_M G (d + 2) mi_X5_carry [.ref 42, .int (nI s), .int (nI a), .int (nI o), .int (nI b), .int (nI m)] σ (jr_kv k) := by
  refine jr_enter (L := [some (.ref 42), some (.int (nI s)), some (.int (nI a)), some (.int (nI o)), some (.int (nI b)), some (.int (nI m))]) (by decide) (Nat.le_of_ble_eq_true rfl) rfl ?_
  refine jr_aload_n 0 1 dX5_carry_0 rfl rfl rfl ?_
  refine jr_iload_n 1 2 dX5_carry_1 rfl rfl rfl ?_
  refine jr_iload_n 2 3 dX5_carry_2 rfl rfl rfl ?_
  refine jr_iload 5 dX5_carry_3 rfl rfl ?_
  refine cs_X5_25 8 dX5_carry_5 rfl rfl rfl (Nat.le_of_ble_eq_true rfl) (wp_holdsT (n := m) hs es hzs (by omega) ?_)
  refine jr_if_eq 49 11 dX5_carry_8 rfl rfl (fun q => absurd q (by decide)) (fun q8 => ?_)
  refine jr_aload_n 0 12 dX5_carry_11 rfl rfl rfl ?_
  refine jr_iload_n 3 13 dX5_carry_12 rfl rfl rfl ?_
  refine jr_iload 15 dX5_carry_13 rfl rfl ?_
  refine jr_iload 17 dX5_carry_15 rfl rfl ?_
  refine cs_X5_25 20 dX5_carry_17 rfl rfl rfl (Nat.le_of_ble_eq_true rfl) (wp_holdsT (n := m) ho eo hzo (by omega) ?_)
  refine jr_if_eq 49 23 dX5_carry_20 rfl rfl (fun q => absurd q (by decide)) (fun q20 => ?_)
  refine jr_aload_n 0 24 dX5_carry_23 rfl rfl rfl ?_
  refine gf_X5_18 27 dX5_carry_24 rfl rfl rfl rfl ?_
  refine jr_iload_n 1 28 dX5_carry_27 rfl rfl rfl ?_
  refine jr_bipush (nI 40) 30 dX5_carry_28 rfl rfl ?_
  refine jr_imul 31 dX5_carry_30 rfl ?_
  refine jr_iload_n 2 32 dX5_carry_31 rfl rfl rfl ?_
  refine jr_iadd 33 dX5_carry_32 rfl ?_
  rw [ix40]
  refine jr_aload_n 0 34 dX5_carry_33 rfl rfl rfl ?_
  refine gf_X5_18 37 dX5_carry_34 rfl rfl rfl rfl ?_
  refine jr_iload_n 3 38 dX5_carry_37 rfl rfl rfl ?_
  refine jr_bipush (nI 40) 40 dX5_carry_38 rfl rfl ?_
  refine jr_imul 41 dX5_carry_40 rfl ?_
  refine jr_iload 43 dX5_carry_41 rfl rfl ?_
  refine jr_iadd 44 dX5_carry_43 rfl ?_
  rw [ix40]
  refine jr_iload 46 dX5_carry_44 rfl rfl ?_
  refine jr_acopy (sp := 40 * s + a) (dp := 40 * o + b) (n := m) ac_X5_29 rfl rfl rfl rfl rfl (by omega) (by omega) (by decide) 49 dX5_carry_46 rfl ?_
  refine jr_return dX5_carry_49 rfl ?_
  exact h
theorem copy_dn {G : jr_G} {d : Nat} {σ : jr_Sg} {k : Value → jr_Sg → Prop} {s a o b u A B : Nat} (hA : A + u ≤ 160) (hB : B + u ≤ 160) (hAB : A < B) (fin : ∀ σ' : jr_Sg, (∀ c, c ≠ 59 → σ' c = σ c) → (∀ q, σ' 59 q = va_cpy (σ 59) (σ 59) A B u q) → k (.int (nI u)) σ') : ∀ (m i : Nat) (σ2 : jr_Sg) (x9 : Option Value), i + m = u → (∀ c, c ≠ 59 → σ2 c = σ c) → (∀ q, σ2 59 q = if B + u - i ≤ q ∧ q < B + u then σ 59 (A + (q - B)) else σ 59 q) → jr_R G (d + 20) mi_X10_copy (jr_k k) 147 [some (.ref 46), some (.int (nI s)), some (.int (nI a)), some (.int (nI o)), some (.int (nI b)), some (.int (nI u)), some (.int (nI A)), some (.int (nI B)), some (.int (nI i)), x9] [] σ2 := by
  intro m
  induction m with
  | zero =>
    intro i σ2 x9 hi g1 g2
    have ei : i = u := hi
    subst ei
    refine jr_iload 149 dX10_copy_147 rfl rfl ?_
    refine jr_iload 151 dX10_copy_149 rfl rfl ?_
    refine jr_icmp_ge 201 154 dX10_copy_151 rfl rfl (fun q151 => ?_) (fun q => absurd (Int32.le_refl _) q)
    refine jr_iload 203 dX10_copy_201 rfl rfl ?_
    refine jr_ireturn dX10_copy_203 rfl rfl ?_
    refine fin σ2 g1 (fun q => ?_)
    rw [g2 q]
    unfold va_cpy
    by_cases e : B ≤ q ∧ q < B + i
    · rw [if_pos (by omega), if_pos e]
    · rw [if_neg (by omega), if_neg e]
  | succ m ih =>
    intro i σ2 x9 hi g1 g2
    have ex : nI u - nI 1 - nI i = nI (u - 1 - i) := by rw [pk_sub (by omega), pk_sub (by omega)]
    have er : σ2 59 (A + (u - 1 - i)) = σ 59 (A + (u - 1 - i)) := by rw [g2, if_neg (by omega)]
    refine jr_iload 149 dX10_copy_147 rfl rfl ?_
    refine jr_iload 151 dX10_copy_149 rfl rfl ?_
    refine jr_icmp_ge 201 154 dX10_copy_151 rfl rfl (fun q => absurd q (nI_ge (by omega) (by omega))) (fun q151 => ?_)
    refine jr_iload 156 dX10_copy_154 rfl rfl ?_
    refine jr_iload 158 dX10_copy_156 rfl rfl ?_
    refine jr_icmp_ge 171 161 dX10_copy_158 rfl rfl (fun q => absurd q (nI_ge hAB (by omega))) (fun q158 => ?_)
    refine jr_iload 163 dX10_copy_161 rfl rfl ?_
    refine jr_iconst (nI 1) 164 dX10_copy_163 rfl rfl ?_
    refine jr_isub 165 dX10_copy_164 rfl ?_
    refine jr_iload 167 dX10_copy_165 rfl rfl ?_
    refine jr_isub 168 dX10_copy_167 rfl ?_
    rw [ex]
    refine jr_goto 173 dX10_copy_168 rfl ?_
    refine jr_istore (L' := [_, _, _, _, _, _, _, _, _, _]) 175 dX10_copy_173 rfl (by decide) rfl ?_
    refine jr_aload_n 0 176 dX10_copy_175 rfl rfl rfl ?_
    refine gf_X10_46 179 dX10_copy_176 rfl rfl rfl rfl ?_
    refine jr_iload 181 dX10_copy_179 rfl rfl ?_
    refine jr_iload 183 dX10_copy_181 rfl rfl ?_
    refine jr_iadd 184 dX10_copy_183 rfl ?_
    refine jr_aload_n 0 185 dX10_copy_184 rfl rfl rfl ?_
    refine gf_X10_46 188 dX10_copy_185 rfl rfl rfl rfl ?_
    refine jr_iload 190 dX10_copy_188 rfl rfl ?_
    refine jr_iload 192 dX10_copy_190 rfl rfl ?_
    refine jr_iadd 193 dX10_copy_192 rfl ?_
    refine jr_iald rfl (nI_add _ _) (by omega) 194 dX10_copy_193 rfl ?_
    rw [er]
    refine jr_iast rfl (nI_add _ _) (by omega) 195 dX10_copy_194 rfl ?_
    refine jr_iinc (v := nI (i + 1)) (L' := [_, _, _, _, _, _, _, _, _, _]) 198 dX10_copy_195 rfl rfl (nI_1 i) (by decide) rfl ?_
    refine jr_goto 147 dX10_copy_198 rfl ?_
    refine ih (i + 1) _ _ (by omega) (fun c hc => ?_) (fun q => ?_)
    · unfold jr_up
      rw [if_neg hc]
      exact g1 c hc
    · show upd (σ2 59) (B + (u - 1 - i)) _ q = _
      by_cases e : q = B + (u - 1 - i)
      · subst e
        rw [pk_us, if_pos (by omega), show B + (u - 1 - i) - B = u - 1 - i by omega]
      · rw [pk_un e, g2 q]
        by_cases e2 : B + u - i ≤ q ∧ q < B + u
        · rw [if_pos e2, if_pos (by omega)]
        · rw [if_neg e2, if_neg (by omega)]
theorem copy_up {G : jr_G} {d : Nat} {σ : jr_Sg} {k : Value → jr_Sg → Prop} {s a o b u A B : Nat} (hA : A + u ≤ 160) (hB : B + u ≤ 160) (hAB : ¬ A < B) (fin : ∀ σ' : jr_Sg, (∀ c, c ≠ 59 → σ' c = σ c) → (∀ q, σ' 59 q = va_cpy (σ 59) (σ 59) A B u q) → k (.int (nI u)) σ') : ∀ (m i : Nat) (σ2 : jr_Sg) (x9 : Option Value), i + m = u → (∀ c, c ≠ 59 → σ2 c = σ c) → (∀ q, σ2 59 q = if B ≤ q ∧ q < B + i then σ 59 (A + (q - B)) else σ 59 q) → jr_R G (d + 20) mi_X10_copy (jr_k k) 147 [some (.ref 46), some (.int (nI s)), some (.int (nI a)), some (.int (nI o)), some (.int (nI b)), some (.int (nI u)), some (.int (nI A)), some (.int (nI B)), some (.int (nI i)), x9] [] σ2 := by
  intro m
  induction m with
  | zero =>
    intro i σ2 x9 hi g1 g2
    have ei : i = u := hi
    subst ei
    refine jr_iload 149 dX10_copy_147 rfl rfl ?_
    refine jr_iload 151 dX10_copy_149 rfl rfl ?_
    refine jr_icmp_ge 201 154 dX10_copy_151 rfl rfl (fun q151 => ?_) (fun q => absurd (Int32.le_refl _) q)
    refine jr_iload 203 dX10_copy_201 rfl rfl ?_
    refine jr_ireturn dX10_copy_203 rfl rfl ?_
    exact fin σ2 g1 g2
  | succ m ih =>
    intro i σ2 x9 hi g1 g2
    have er : σ2 59 (A + (i)) = σ 59 (A + (i)) := by rw [g2, if_neg (by omega)]
    refine jr_iload 149 dX10_copy_147 rfl rfl ?_
    refine jr_iload 151 dX10_copy_149 rfl rfl ?_
    refine jr_icmp_ge 201 154 dX10_copy_151 rfl rfl (fun q => absurd q (nI_ge (by omega) (by omega))) (fun q151 => ?_)
    refine jr_iload 156 dX10_copy_154 rfl rfl ?_
    refine jr_iload 158 dX10_copy_156 rfl rfl ?_
    refine jr_icmp_ge 171 161 dX10_copy_158 rfl rfl (fun q158 => ?_) (fun q => absurd (nI_le (by omega) (by omega)) q)
    refine jr_iload 173 dX10_copy_171 rfl rfl ?_
    refine jr_istore (L' := [_, _, _, _, _, _, _, _, _, _]) 175 dX10_copy_173 rfl (by decide) rfl ?_
    refine jr_aload_n 0 176 dX10_copy_175 rfl rfl rfl ?_
    refine gf_X10_46 179 dX10_copy_176 rfl rfl rfl rfl ?_
    refine jr_iload 181 dX10_copy_179 rfl rfl ?_
    refine jr_iload 183 dX10_copy_181 rfl rfl ?_
    refine jr_iadd 184 dX10_copy_183 rfl ?_
    refine jr_aload_n 0 185 dX10_copy_184 rfl rfl rfl ?_
    refine gf_X10_46 188 dX10_copy_185 rfl rfl rfl rfl ?_
    refine jr_iload 190 dX10_copy_188 rfl rfl ?_
    refine jr_iload 192 dX10_copy_190 rfl rfl ?_
    refine jr_iadd 193 dX10_copy_192 rfl ?_
    refine jr_iald rfl (nI_add _ _) (by omega) 194 dX10_copy_193 rfl ?_
    rw [er]
    refine jr_iast rfl (nI_add _ _) (by omega) 195 dX10_copy_194 rfl ?_
    refine jr_iinc (v := nI (i + 1)) (L' := [_, _, _, _, _, _, _, _, _, _]) 198 dX10_copy_195 rfl rfl (nI_1 i) (by decide) rfl ?_
    refine jr_goto 147 dX10_copy_198 rfl ?_
    refine ih (i + 1) _ _ (by omega) (fun c hc => ?_) (fun q => ?_)
    · unfold jr_up
      rw [if_neg hc]
      exact g1 c hc
    · show upd (σ2 59) (B + (i)) _ q = _
      by_cases e : q = B + (i)
      · subst e
        rw [pk_us, if_pos (by omega), show B + (i) - B = i by omega]
      · rw [pk_un e, g2 q]
        by_cases e2 : B ≤ q ∧ q < B + i
        · rw [if_pos e2, if_pos (by omega)]
        · rw [if_neg e2, if_neg (by omega)]
theorem hold_no {x : Int32} {z i n : Nat} (e : x = nI z) (hz : z < 2 ^ 31) (hi : i < 2 ^ 31) (hn : n < 2 ^ 31) (h : z < i + n) : ¬ (nI i).toInt + (nI n).toInt ≤ x.toInt := by
  rw [e, nI_int hz, nI_int hi, nI_int hn]
  omega
theorem pp_copy {G : jr_G} {d : Nat} {σ : jr_Sg} {a b c e f : Int32} (h : IV σ) : jr_pair G (d + 20) mi_X9_copy mi_X10_copy [.int a, .int b, .int c, .int e, .int f] σ := by
  obtain ⟨T, n, nf, nc, kd, se, lw, tp, h⟩ := h
  have hh := h
  obtain ⟨hTC, hTR, ⟨hsc, hsr, hl1, hl2, hlw, hfc, hli, hca⟩, htp, himg, hsh, hrest, hwd⟩ := hh
  have hnf := hsc.1
  have h5 := hsc.2.1
  have hnc := hsc.2.2.1
  have h8 := hsc.2.2.2.1
  have rnf := hsr.1
  have rnc := hsr.2.2.1
  have hlm := hrest.2.2.2.1
  unfold jr_pair
  by_cases ha : 0 ≤ a ∧ a ≤ 3
  · obtain ⟨s, hs, rfl⟩ := c4 ha
    by_cases hc : 0 ≤ c ∧ c ≤ 3
    · obtain ⟨o, ho, rfl⟩ := c4 hc
      obtain ⟨s1, s2, s3, zs, hzs, s4, s5⟩ := hsh s hs
      obtain ⟨o1, o2, o3, zo, hzo, o4, o5⟩ := hsh o ho
      by_cases ms : σ 57 s = -1
      · refine jr_enter (L := [some (.ref 0), some (.int (nI s)), some (.int b), some (.int (nI o)), some (.int e), some (.int f)]) (by decide) (Nat.le_of_ble_eq_true rfl) rfl ?_
        refine jr_aload_n 0 1 dX9_copy_0 rfl rfl rfl ?_
        refine gf_X9_57 4 dX9_copy_1 rfl rfl rfl rfl ?_
        refine jr_iload_n 1 5 dX9_copy_4 rfl rfl rfl ?_
        refine cs_X9_298 8 dX9_copy_5 rfl rfl rfl (Nat.le_of_ble_eq_true rfl) (wp_shasT hs ?_)
        refine jr_if_eq 22 11 dX9_copy_8 rfl rfl (fun q => absurd q (by decide)) (fun q8 => ?_)
        refine jr_aload_n 0 12 dX9_copy_11 rfl rfl rfl ?_
        refine gf_X9_57 15 dX9_copy_12 rfl rfl rfl rfl ?_
        refine jr_iload_n 3 16 dX9_copy_15 rfl rfl rfl ?_
        refine cs_X9_298 19 dX9_copy_16 rfl rfl rfl (Nat.le_of_ble_eq_true rfl) (wp_shasT ho ?_)
        refine jr_if_ne 25 22 dX9_copy_19 rfl rfl (fun q19 => ?_) (fun q => absurd q (by decide))
        refine jr_aload_n 0 26 dX9_copy_25 rfl rfl rfl ?_
        refine gf_X9_57 29 dX9_copy_26 rfl rfl rfl rfl ?_
        refine jr_iload_n 1 30 dX9_copy_29 rfl rfl rfl ?_
        refine cs_X9_312 33 dX9_copy_30 rfl rfl rfl (Nat.le_of_ble_eq_true rfl) (wp_isMissing hs (fun _ => ?_) (fun q => absurd (s1.trans ms) q))
        refine jr_if_ne 47 36 dX9_copy_33 rfl rfl (fun q33 => ?_) (fun q => absurd q (by decide))
        refine jr_bipush ((-11)) 49 dX9_copy_47 rfl rfl ?_
        refine jr_ireturn dX9_copy_49 rfl rfl ?_
        refine jr_enter (L := [some (.ref 46), some (.int (nI s)), some (.int b), some (.int (nI o)), some (.int e), some (.int f), none, none, none, none]) (by decide) (Nat.le_of_ble_eq_true rfl) rfl ?_
        refine jr_iload_n 1 1 dX10_copy_0 rfl rfl rfl ?_
        refine jr_iconst (0) 2 dX10_copy_1 rfl rfl ?_
        refine jr_iconst (3) 3 dX10_copy_2 rfl rfl ?_
        refine cs_X10_108 6 dX10_copy_3 rfl rfl (Nat.le_of_ble_eq_true rfl) (wp_inT (m := 3) (by omega) (by decide) rfl ?_)
        refine jr_if_eq 18 9 dX10_copy_6 rfl rfl (fun q => absurd q (by decide)) (fun q6 => ?_)
        refine jr_iload_n 3 10 dX10_copy_9 rfl rfl rfl ?_
        refine jr_iconst (0) 11 dX10_copy_10 rfl rfl ?_
        refine jr_iconst (3) 12 dX10_copy_11 rfl rfl ?_
        refine cs_X10_108 15 dX10_copy_12 rfl rfl (Nat.le_of_ble_eq_true rfl) (wp_inT (m := 3) (by omega) (by decide) rfl ?_)
        refine jr_if_ne 21 18 dX10_copy_15 rfl rfl (fun q15 => ?_) (fun q => absurd q (by decide))
        refine jr_aload_n 0 22 dX10_copy_21 rfl rfl rfl ?_
        refine gf_X10_40 25 dX10_copy_22 rfl rfl rfl rfl ?_
        refine jr_iload_n 1 26 dX10_copy_25 rfl rfl rfl ?_
        refine jr_iald rfl rfl (by omega) 27 dX10_copy_26 rfl ?_
        refine jr_iconst ((-1)) 28 dX10_copy_27 rfl rfl ?_
        refine jr_icmp_eq 41 31 dX10_copy_28 rfl rfl (fun q28 => ?_) (fun q => absurd ms q)
        refine jr_bipush ((-11)) 43 dX10_copy_41 rfl rfl ?_
        refine jr_ireturn dX10_copy_43 rfl rfl ?_
        exact ⟨rfl, IV_mov (iv_same_x (jr_eqx_rf [] _) (by decide)) h⟩
      · by_cases mo : σ 57 o = -1
        · refine jr_enter (L := [some (.ref 0), some (.int (nI s)), some (.int b), some (.int (nI o)), some (.int e), some (.int f)]) (by decide) (Nat.le_of_ble_eq_true rfl) rfl ?_
          refine jr_aload_n 0 1 dX9_copy_0 rfl rfl rfl ?_
          refine gf_X9_57 4 dX9_copy_1 rfl rfl rfl rfl ?_
          refine jr_iload_n 1 5 dX9_copy_4 rfl rfl rfl ?_
          refine cs_X9_298 8 dX9_copy_5 rfl rfl rfl (Nat.le_of_ble_eq_true rfl) (wp_shasT hs ?_)
          refine jr_if_eq 22 11 dX9_copy_8 rfl rfl (fun q => absurd q (by decide)) (fun q8 => ?_)
          refine jr_aload_n 0 12 dX9_copy_11 rfl rfl rfl ?_
          refine gf_X9_57 15 dX9_copy_12 rfl rfl rfl rfl ?_
          refine jr_iload_n 3 16 dX9_copy_15 rfl rfl rfl ?_
          refine cs_X9_298 19 dX9_copy_16 rfl rfl rfl (Nat.le_of_ble_eq_true rfl) (wp_shasT ho ?_)
          refine jr_if_ne 25 22 dX9_copy_19 rfl rfl (fun q19 => ?_) (fun q => absurd q (by decide))
          refine jr_aload_n 0 26 dX9_copy_25 rfl rfl rfl ?_
          refine gf_X9_57 29 dX9_copy_26 rfl rfl rfl rfl ?_
          refine jr_iload_n 1 30 dX9_copy_29 rfl rfl rfl ?_
          refine cs_X9_312 33 dX9_copy_30 rfl rfl rfl (Nat.le_of_ble_eq_true rfl) (wp_isMissing hs (fun q => absurd (s1.symm.trans q) ms) (fun _ => ?_))
          refine jr_if_ne 47 36 dX9_copy_33 rfl rfl (fun q => absurd (by decide) q) (fun q33 => ?_)
          refine jr_aload_n 0 37 dX9_copy_36 rfl rfl rfl ?_
          refine gf_X9_57 40 dX9_copy_37 rfl rfl rfl rfl ?_
          refine jr_iload_n 3 41 dX9_copy_40 rfl rfl rfl ?_
          refine cs_X9_312 44 dX9_copy_41 rfl rfl rfl (Nat.le_of_ble_eq_true rfl) (wp_isMissing ho (fun _ => ?_) (fun q => absurd (o1.trans mo) q))
          refine jr_if_eq 50 47 dX9_copy_44 rfl rfl (fun q => absurd q (by decide)) (fun q44 => ?_)
          refine jr_bipush ((-11)) 49 dX9_copy_47 rfl rfl ?_
          refine jr_ireturn dX9_copy_49 rfl rfl ?_
          refine jr_enter (L := [some (.ref 46), some (.int (nI s)), some (.int b), some (.int (nI o)), some (.int e), some (.int f), none, none, none, none]) (by decide) (Nat.le_of_ble_eq_true rfl) rfl ?_
          refine jr_iload_n 1 1 dX10_copy_0 rfl rfl rfl ?_
          refine jr_iconst (0) 2 dX10_copy_1 rfl rfl ?_
          refine jr_iconst (3) 3 dX10_copy_2 rfl rfl ?_
          refine cs_X10_108 6 dX10_copy_3 rfl rfl (Nat.le_of_ble_eq_true rfl) (wp_inT (m := 3) (by omega) (by decide) rfl ?_)
          refine jr_if_eq 18 9 dX10_copy_6 rfl rfl (fun q => absurd q (by decide)) (fun q6 => ?_)
          refine jr_iload_n 3 10 dX10_copy_9 rfl rfl rfl ?_
          refine jr_iconst (0) 11 dX10_copy_10 rfl rfl ?_
          refine jr_iconst (3) 12 dX10_copy_11 rfl rfl ?_
          refine cs_X10_108 15 dX10_copy_12 rfl rfl (Nat.le_of_ble_eq_true rfl) (wp_inT (m := 3) (by omega) (by decide) rfl ?_)
          refine jr_if_ne 21 18 dX10_copy_15 rfl rfl (fun q15 => ?_) (fun q => absurd q (by decide))
          refine jr_aload_n 0 22 dX10_copy_21 rfl rfl rfl ?_
          refine gf_X10_40 25 dX10_copy_22 rfl rfl rfl rfl ?_
          refine jr_iload_n 1 26 dX10_copy_25 rfl rfl rfl ?_
          refine jr_iald rfl rfl (by omega) 27 dX10_copy_26 rfl ?_
          refine jr_iconst ((-1)) 28 dX10_copy_27 rfl rfl ?_
          refine jr_icmp_eq 41 31 dX10_copy_28 rfl rfl (fun q => absurd q ms) (fun q28 => ?_)
          refine jr_aload_n 0 32 dX10_copy_31 rfl rfl rfl ?_
          refine gf_X10_40 35 dX10_copy_32 rfl rfl rfl rfl ?_
          refine jr_iload_n 3 36 dX10_copy_35 rfl rfl rfl ?_
          refine jr_iald rfl rfl (by omega) 37 dX10_copy_36 rfl ?_
          refine jr_iconst ((-1)) 38 dX10_copy_37 rfl rfl ?_
          refine jr_icmp_ne 44 41 dX10_copy_38 rfl rfl (fun q => absurd mo q) (fun q38 => ?_)
          refine jr_bipush ((-11)) 43 dX10_copy_41 rfl rfl ?_
          refine jr_ireturn dX10_copy_43 rfl rfl ?_
          exact ⟨rfl, IV_mov (iv_same_x (jr_eqx_rf [] _) (by decide)) h⟩
        · by_cases el : σ 57 s = σ 57 o
          · by_cases f0 : f < 0
            · refine jr_enter (L := [some (.ref 0), some (.int (nI s)), some (.int b), some (.int (nI o)), some (.int e), some (.int f)]) (by decide) (Nat.le_of_ble_eq_true rfl) rfl ?_
              refine jr_aload_n 0 1 dX9_copy_0 rfl rfl rfl ?_
              refine gf_X9_57 4 dX9_copy_1 rfl rfl rfl rfl ?_
              refine jr_iload_n 1 5 dX9_copy_4 rfl rfl rfl ?_
              refine cs_X9_298 8 dX9_copy_5 rfl rfl rfl (Nat.le_of_ble_eq_true rfl) (wp_shasT hs ?_)
              refine jr_if_eq 22 11 dX9_copy_8 rfl rfl (fun q => absurd q (by decide)) (fun q8 => ?_)
              refine jr_aload_n 0 12 dX9_copy_11 rfl rfl rfl ?_
              refine gf_X9_57 15 dX9_copy_12 rfl rfl rfl rfl ?_
              refine jr_iload_n 3 16 dX9_copy_15 rfl rfl rfl ?_
              refine cs_X9_298 19 dX9_copy_16 rfl rfl rfl (Nat.le_of_ble_eq_true rfl) (wp_shasT ho ?_)
              refine jr_if_ne 25 22 dX9_copy_19 rfl rfl (fun q19 => ?_) (fun q => absurd q (by decide))
              refine jr_aload_n 0 26 dX9_copy_25 rfl rfl rfl ?_
              refine gf_X9_57 29 dX9_copy_26 rfl rfl rfl rfl ?_
              refine jr_iload_n 1 30 dX9_copy_29 rfl rfl rfl ?_
              refine cs_X9_312 33 dX9_copy_30 rfl rfl rfl (Nat.le_of_ble_eq_true rfl) (wp_isMissing hs (fun q => absurd (s1.symm.trans q) ms) (fun _ => ?_))
              refine jr_if_ne 47 36 dX9_copy_33 rfl rfl (fun q => absurd (by decide) q) (fun q33 => ?_)
              refine jr_aload_n 0 37 dX9_copy_36 rfl rfl rfl ?_
              refine gf_X9_57 40 dX9_copy_37 rfl rfl rfl rfl ?_
              refine jr_iload_n 3 41 dX9_copy_40 rfl rfl rfl ?_
              refine cs_X9_312 44 dX9_copy_41 rfl rfl rfl (Nat.le_of_ble_eq_true rfl) (wp_isMissing ho (fun q => absurd (o1.symm.trans q) mo) (fun _ => ?_))
              refine jr_if_eq 50 47 dX9_copy_44 rfl rfl (fun q44 => ?_) (fun q => absurd (by decide) q)
              refine jr_aload_n 0 51 dX9_copy_50 rfl rfl rfl ?_
              refine gf_X9_57 54 dX9_copy_51 rfl rfl rfl rfl ?_
              refine gf_X9_318 57 dX9_copy_54 rfl rfl rfl rfl ?_
              refine jr_iload_n 1 58 dX9_copy_57 rfl rfl rfl ?_
              refine jr_iald rfl rfl (by omega) 59 dX9_copy_58 rfl ?_
              refine jr_aload_n 0 60 dX9_copy_59 rfl rfl rfl ?_
              refine gf_X9_57 63 dX9_copy_60 rfl rfl rfl rfl ?_
              refine gf_X9_318 66 dX9_copy_63 rfl rfl rfl rfl ?_
              refine jr_iload_n 3 67 dX9_copy_66 rfl rfl rfl ?_
              refine jr_iald rfl rfl (by omega) 68 dX9_copy_67 rfl ?_
              refine jr_icmp_eq 74 71 dX9_copy_68 rfl rfl (fun q68 => ?_) (fun q => absurd (s1.trans (el.trans o1.symm)) q)
              refine jr_aload_n 0 75 dX9_copy_74 rfl rfl rfl ?_
              refine gf_X9_57 78 dX9_copy_75 rfl rfl rfl rfl ?_
              refine jr_iload_n 1 79 dX9_copy_78 rfl rfl rfl ?_
              refine jr_iload_n 2 80 dX9_copy_79 rfl rfl rfl ?_
              refine jr_iload 82 dX9_copy_80 rfl rfl ?_
              refine cs_X9_315 85 dX9_copy_82 rfl rfl rfl (Nat.le_of_ble_eq_true rfl) (wp_holds hs (fun i1 i2 _ => absurd f0 (Int32.not_lt.mpr i2)) (fun _ => ?_))
              refine jr_if_eq 103 88 dX9_copy_85 rfl rfl (fun q85 => ?_) (fun q => absurd (by decide) q)
              refine jr_bipush ((-12)) 105 dX9_copy_103 rfl rfl ?_
              refine jr_ireturn dX9_copy_105 rfl rfl ?_
              refine jr_enter (L := [some (.ref 46), some (.int (nI s)), some (.int b), some (.int (nI o)), some (.int e), some (.int f), none, none, none, none]) (by decide) (Nat.le_of_ble_eq_true rfl) rfl ?_
              refine jr_iload_n 1 1 dX10_copy_0 rfl rfl rfl ?_
              refine jr_iconst (0) 2 dX10_copy_1 rfl rfl ?_
              refine jr_iconst (3) 3 dX10_copy_2 rfl rfl ?_
              refine cs_X10_108 6 dX10_copy_3 rfl rfl (Nat.le_of_ble_eq_true rfl) (wp_inT (m := 3) (by omega) (by decide) rfl ?_)
              refine jr_if_eq 18 9 dX10_copy_6 rfl rfl (fun q => absurd q (by decide)) (fun q6 => ?_)
              refine jr_iload_n 3 10 dX10_copy_9 rfl rfl rfl ?_
              refine jr_iconst (0) 11 dX10_copy_10 rfl rfl ?_
              refine jr_iconst (3) 12 dX10_copy_11 rfl rfl ?_
              refine cs_X10_108 15 dX10_copy_12 rfl rfl (Nat.le_of_ble_eq_true rfl) (wp_inT (m := 3) (by omega) (by decide) rfl ?_)
              refine jr_if_ne 21 18 dX10_copy_15 rfl rfl (fun q15 => ?_) (fun q => absurd q (by decide))
              refine jr_aload_n 0 22 dX10_copy_21 rfl rfl rfl ?_
              refine gf_X10_40 25 dX10_copy_22 rfl rfl rfl rfl ?_
              refine jr_iload_n 1 26 dX10_copy_25 rfl rfl rfl ?_
              refine jr_iald rfl rfl (by omega) 27 dX10_copy_26 rfl ?_
              refine jr_iconst ((-1)) 28 dX10_copy_27 rfl rfl ?_
              refine jr_icmp_eq 41 31 dX10_copy_28 rfl rfl (fun q => absurd q ms) (fun q28 => ?_)
              refine jr_aload_n 0 32 dX10_copy_31 rfl rfl rfl ?_
              refine gf_X10_40 35 dX10_copy_32 rfl rfl rfl rfl ?_
              refine jr_iload_n 3 36 dX10_copy_35 rfl rfl rfl ?_
              refine jr_iald rfl rfl (by omega) 37 dX10_copy_36 rfl ?_
              refine jr_iconst ((-1)) 38 dX10_copy_37 rfl rfl ?_
              refine jr_icmp_ne 44 41 dX10_copy_38 rfl rfl (fun q38 => ?_) (fun q => absurd q mo)
              refine jr_aload_n 0 45 dX10_copy_44 rfl rfl rfl ?_
              refine gf_X10_40 48 dX10_copy_45 rfl rfl rfl rfl ?_
              refine jr_iload_n 1 49 dX10_copy_48 rfl rfl rfl ?_
              refine jr_iald rfl rfl (by omega) 50 dX10_copy_49 rfl ?_
              refine jr_aload_n 0 51 dX10_copy_50 rfl rfl rfl ?_
              refine gf_X10_40 54 dX10_copy_51 rfl rfl rfl rfl ?_
              refine jr_iload_n 3 55 dX10_copy_54 rfl rfl rfl ?_
              refine jr_iald rfl rfl (by omega) 56 dX10_copy_55 rfl ?_
              refine jr_icmp_eq 62 59 dX10_copy_56 rfl rfl (fun q56 => ?_) (fun q => absurd el q)
              refine jr_iload 64 dX10_copy_62 rfl rfl ?_
              refine jr_if_lt 124 67 dX10_copy_64 rfl rfl (fun q64 => ?_) (fun q => absurd f0 q)
              refine jr_bipush ((-12)) 126 dX10_copy_124 rfl rfl ?_
              refine jr_ireturn dX10_copy_126 rfl rfl ?_
              exact ⟨rfl, IV_mov (iv_same_x (jr_eqx_rf [] _) (by decide)) h⟩
            · by_cases b0 : b < 0
              · refine jr_enter (L := [some (.ref 0), some (.int (nI s)), some (.int b), some (.int (nI o)), some (.int e), some (.int f)]) (by decide) (Nat.le_of_ble_eq_true rfl) rfl ?_
                refine jr_aload_n 0 1 dX9_copy_0 rfl rfl rfl ?_
                refine gf_X9_57 4 dX9_copy_1 rfl rfl rfl rfl ?_
                refine jr_iload_n 1 5 dX9_copy_4 rfl rfl rfl ?_
                refine cs_X9_298 8 dX9_copy_5 rfl rfl rfl (Nat.le_of_ble_eq_true rfl) (wp_shasT hs ?_)
                refine jr_if_eq 22 11 dX9_copy_8 rfl rfl (fun q => absurd q (by decide)) (fun q8 => ?_)
                refine jr_aload_n 0 12 dX9_copy_11 rfl rfl rfl ?_
                refine gf_X9_57 15 dX9_copy_12 rfl rfl rfl rfl ?_
                refine jr_iload_n 3 16 dX9_copy_15 rfl rfl rfl ?_
                refine cs_X9_298 19 dX9_copy_16 rfl rfl rfl (Nat.le_of_ble_eq_true rfl) (wp_shasT ho ?_)
                refine jr_if_ne 25 22 dX9_copy_19 rfl rfl (fun q19 => ?_) (fun q => absurd q (by decide))
                refine jr_aload_n 0 26 dX9_copy_25 rfl rfl rfl ?_
                refine gf_X9_57 29 dX9_copy_26 rfl rfl rfl rfl ?_
                refine jr_iload_n 1 30 dX9_copy_29 rfl rfl rfl ?_
                refine cs_X9_312 33 dX9_copy_30 rfl rfl rfl (Nat.le_of_ble_eq_true rfl) (wp_isMissing hs (fun q => absurd (s1.symm.trans q) ms) (fun _ => ?_))
                refine jr_if_ne 47 36 dX9_copy_33 rfl rfl (fun q => absurd (by decide) q) (fun q33 => ?_)
                refine jr_aload_n 0 37 dX9_copy_36 rfl rfl rfl ?_
                refine gf_X9_57 40 dX9_copy_37 rfl rfl rfl rfl ?_
                refine jr_iload_n 3 41 dX9_copy_40 rfl rfl rfl ?_
                refine cs_X9_312 44 dX9_copy_41 rfl rfl rfl (Nat.le_of_ble_eq_true rfl) (wp_isMissing ho (fun q => absurd (o1.symm.trans q) mo) (fun _ => ?_))
                refine jr_if_eq 50 47 dX9_copy_44 rfl rfl (fun q44 => ?_) (fun q => absurd (by decide) q)
                refine jr_aload_n 0 51 dX9_copy_50 rfl rfl rfl ?_
                refine gf_X9_57 54 dX9_copy_51 rfl rfl rfl rfl ?_
                refine gf_X9_318 57 dX9_copy_54 rfl rfl rfl rfl ?_
                refine jr_iload_n 1 58 dX9_copy_57 rfl rfl rfl ?_
                refine jr_iald rfl rfl (by omega) 59 dX9_copy_58 rfl ?_
                refine jr_aload_n 0 60 dX9_copy_59 rfl rfl rfl ?_
                refine gf_X9_57 63 dX9_copy_60 rfl rfl rfl rfl ?_
                refine gf_X9_318 66 dX9_copy_63 rfl rfl rfl rfl ?_
                refine jr_iload_n 3 67 dX9_copy_66 rfl rfl rfl ?_
                refine jr_iald rfl rfl (by omega) 68 dX9_copy_67 rfl ?_
                refine jr_icmp_eq 74 71 dX9_copy_68 rfl rfl (fun q68 => ?_) (fun q => absurd (s1.trans (el.trans o1.symm)) q)
                refine jr_aload_n 0 75 dX9_copy_74 rfl rfl rfl ?_
                refine gf_X9_57 78 dX9_copy_75 rfl rfl rfl rfl ?_
                refine jr_iload_n 1 79 dX9_copy_78 rfl rfl rfl ?_
                refine jr_iload_n 2 80 dX9_copy_79 rfl rfl rfl ?_
                refine jr_iload 82 dX9_copy_80 rfl rfl ?_
                refine cs_X9_315 85 dX9_copy_82 rfl rfl rfl (Nat.le_of_ble_eq_true rfl) (wp_holds hs (fun i1 i2 _ => absurd b0 (Int32.not_lt.mpr i1)) (fun _ => ?_))
                refine jr_if_eq 103 88 dX9_copy_85 rfl rfl (fun q85 => ?_) (fun q => absurd (by decide) q)
                refine jr_bipush ((-12)) 105 dX9_copy_103 rfl rfl ?_
                refine jr_ireturn dX9_copy_105 rfl rfl ?_
                refine jr_enter (L := [some (.ref 46), some (.int (nI s)), some (.int b), some (.int (nI o)), some (.int e), some (.int f), none, none, none, none]) (by decide) (Nat.le_of_ble_eq_true rfl) rfl ?_
                refine jr_iload_n 1 1 dX10_copy_0 rfl rfl rfl ?_
                refine jr_iconst (0) 2 dX10_copy_1 rfl rfl ?_
                refine jr_iconst (3) 3 dX10_copy_2 rfl rfl ?_
                refine cs_X10_108 6 dX10_copy_3 rfl rfl (Nat.le_of_ble_eq_true rfl) (wp_inT (m := 3) (by omega) (by decide) rfl ?_)
                refine jr_if_eq 18 9 dX10_copy_6 rfl rfl (fun q => absurd q (by decide)) (fun q6 => ?_)
                refine jr_iload_n 3 10 dX10_copy_9 rfl rfl rfl ?_
                refine jr_iconst (0) 11 dX10_copy_10 rfl rfl ?_
                refine jr_iconst (3) 12 dX10_copy_11 rfl rfl ?_
                refine cs_X10_108 15 dX10_copy_12 rfl rfl (Nat.le_of_ble_eq_true rfl) (wp_inT (m := 3) (by omega) (by decide) rfl ?_)
                refine jr_if_ne 21 18 dX10_copy_15 rfl rfl (fun q15 => ?_) (fun q => absurd q (by decide))
                refine jr_aload_n 0 22 dX10_copy_21 rfl rfl rfl ?_
                refine gf_X10_40 25 dX10_copy_22 rfl rfl rfl rfl ?_
                refine jr_iload_n 1 26 dX10_copy_25 rfl rfl rfl ?_
                refine jr_iald rfl rfl (by omega) 27 dX10_copy_26 rfl ?_
                refine jr_iconst ((-1)) 28 dX10_copy_27 rfl rfl ?_
                refine jr_icmp_eq 41 31 dX10_copy_28 rfl rfl (fun q => absurd q ms) (fun q28 => ?_)
                refine jr_aload_n 0 32 dX10_copy_31 rfl rfl rfl ?_
                refine gf_X10_40 35 dX10_copy_32 rfl rfl rfl rfl ?_
                refine jr_iload_n 3 36 dX10_copy_35 rfl rfl rfl ?_
                refine jr_iald rfl rfl (by omega) 37 dX10_copy_36 rfl ?_
                refine jr_iconst ((-1)) 38 dX10_copy_37 rfl rfl ?_
                refine jr_icmp_ne 44 41 dX10_copy_38 rfl rfl (fun q38 => ?_) (fun q => absurd q mo)
                refine jr_aload_n 0 45 dX10_copy_44 rfl rfl rfl ?_
                refine gf_X10_40 48 dX10_copy_45 rfl rfl rfl rfl ?_
                refine jr_iload_n 1 49 dX10_copy_48 rfl rfl rfl ?_
                refine jr_iald rfl rfl (by omega) 50 dX10_copy_49 rfl ?_
                refine jr_aload_n 0 51 dX10_copy_50 rfl rfl rfl ?_
                refine gf_X10_40 54 dX10_copy_51 rfl rfl rfl rfl ?_
                refine jr_iload_n 3 55 dX10_copy_54 rfl rfl rfl ?_
                refine jr_iald rfl rfl (by omega) 56 dX10_copy_55 rfl ?_
                refine jr_icmp_eq 62 59 dX10_copy_56 rfl rfl (fun q56 => ?_) (fun q => absurd el q)
                refine jr_iload 64 dX10_copy_62 rfl rfl ?_
                refine jr_if_lt 124 67 dX10_copy_64 rfl rfl (fun q => absurd q f0) (fun q64 => ?_)
                refine jr_iload_n 2 68 dX10_copy_67 rfl rfl rfl ?_
                refine jr_if_lt 124 71 dX10_copy_68 rfl rfl (fun q68 => ?_) (fun q => absurd b0 q)
                refine jr_bipush ((-12)) 126 dX10_copy_124 rfl rfl ?_
                refine jr_ireturn dX10_copy_126 rfl rfl ?_
                exact ⟨rfl, IV_mov (iv_same_x (jr_eqx_rf [] _) (by decide)) h⟩
              · by_cases e0 : e < 0
                · refine jr_enter (L := [some (.ref 0), some (.int (nI s)), some (.int b), some (.int (nI o)), some (.int e), some (.int f)]) (by decide) (Nat.le_of_ble_eq_true rfl) rfl ?_
                  refine jr_aload_n 0 1 dX9_copy_0 rfl rfl rfl ?_
                  refine gf_X9_57 4 dX9_copy_1 rfl rfl rfl rfl ?_
                  refine jr_iload_n 1 5 dX9_copy_4 rfl rfl rfl ?_
                  refine cs_X9_298 8 dX9_copy_5 rfl rfl rfl (Nat.le_of_ble_eq_true rfl) (wp_shasT hs ?_)
                  refine jr_if_eq 22 11 dX9_copy_8 rfl rfl (fun q => absurd q (by decide)) (fun q8 => ?_)
                  refine jr_aload_n 0 12 dX9_copy_11 rfl rfl rfl ?_
                  refine gf_X9_57 15 dX9_copy_12 rfl rfl rfl rfl ?_
                  refine jr_iload_n 3 16 dX9_copy_15 rfl rfl rfl ?_
                  refine cs_X9_298 19 dX9_copy_16 rfl rfl rfl (Nat.le_of_ble_eq_true rfl) (wp_shasT ho ?_)
                  refine jr_if_ne 25 22 dX9_copy_19 rfl rfl (fun q19 => ?_) (fun q => absurd q (by decide))
                  refine jr_aload_n 0 26 dX9_copy_25 rfl rfl rfl ?_
                  refine gf_X9_57 29 dX9_copy_26 rfl rfl rfl rfl ?_
                  refine jr_iload_n 1 30 dX9_copy_29 rfl rfl rfl ?_
                  refine cs_X9_312 33 dX9_copy_30 rfl rfl rfl (Nat.le_of_ble_eq_true rfl) (wp_isMissing hs (fun q => absurd (s1.symm.trans q) ms) (fun _ => ?_))
                  refine jr_if_ne 47 36 dX9_copy_33 rfl rfl (fun q => absurd (by decide) q) (fun q33 => ?_)
                  refine jr_aload_n 0 37 dX9_copy_36 rfl rfl rfl ?_
                  refine gf_X9_57 40 dX9_copy_37 rfl rfl rfl rfl ?_
                  refine jr_iload_n 3 41 dX9_copy_40 rfl rfl rfl ?_
                  refine cs_X9_312 44 dX9_copy_41 rfl rfl rfl (Nat.le_of_ble_eq_true rfl) (wp_isMissing ho (fun q => absurd (o1.symm.trans q) mo) (fun _ => ?_))
                  refine jr_if_eq 50 47 dX9_copy_44 rfl rfl (fun q44 => ?_) (fun q => absurd (by decide) q)
                  refine jr_aload_n 0 51 dX9_copy_50 rfl rfl rfl ?_
                  refine gf_X9_57 54 dX9_copy_51 rfl rfl rfl rfl ?_
                  refine gf_X9_318 57 dX9_copy_54 rfl rfl rfl rfl ?_
                  refine jr_iload_n 1 58 dX9_copy_57 rfl rfl rfl ?_
                  refine jr_iald rfl rfl (by omega) 59 dX9_copy_58 rfl ?_
                  refine jr_aload_n 0 60 dX9_copy_59 rfl rfl rfl ?_
                  refine gf_X9_57 63 dX9_copy_60 rfl rfl rfl rfl ?_
                  refine gf_X9_318 66 dX9_copy_63 rfl rfl rfl rfl ?_
                  refine jr_iload_n 3 67 dX9_copy_66 rfl rfl rfl ?_
                  refine jr_iald rfl rfl (by omega) 68 dX9_copy_67 rfl ?_
                  refine jr_icmp_eq 74 71 dX9_copy_68 rfl rfl (fun q68 => ?_) (fun q => absurd (s1.trans (el.trans o1.symm)) q)
                  refine jr_aload_n 0 75 dX9_copy_74 rfl rfl rfl ?_
                  refine gf_X9_57 78 dX9_copy_75 rfl rfl rfl rfl ?_
                  refine jr_iload_n 1 79 dX9_copy_78 rfl rfl rfl ?_
                  refine jr_iload_n 2 80 dX9_copy_79 rfl rfl rfl ?_
                  refine jr_iload 82 dX9_copy_80 rfl rfl ?_
                  refine cs_X9_315 85 dX9_copy_82 rfl rfl rfl (Nat.le_of_ble_eq_true rfl) (wp_holds hs (fun _ _ _ => ?_) (fun _ => ?_))
                  · refine jr_if_eq 103 88 dX9_copy_85 rfl rfl (fun q => absurd q (by decide)) (fun q85 => ?_)
                    refine jr_aload_n 0 89 dX9_copy_88 rfl rfl rfl ?_
                    refine gf_X9_57 92 dX9_copy_89 rfl rfl rfl rfl ?_
                    refine jr_iload_n 3 93 dX9_copy_92 rfl rfl rfl ?_
                    refine jr_iload 95 dX9_copy_93 rfl rfl ?_
                    refine jr_iload 97 dX9_copy_95 rfl rfl ?_
                    refine cs_X9_315 100 dX9_copy_97 rfl rfl rfl (Nat.le_of_ble_eq_true rfl) (wp_holds ho (fun i1 i2 _ => absurd e0 (Int32.not_lt.mpr i1)) (fun _ => ?_))
                    refine jr_if_ne 106 103 dX9_copy_100 rfl rfl (fun q => absurd (by decide) q) (fun q100 => ?_)
                    refine jr_bipush ((-12)) 105 dX9_copy_103 rfl rfl ?_
                    refine jr_ireturn dX9_copy_105 rfl rfl ?_
                    refine jr_enter (L := [some (.ref 46), some (.int (nI s)), some (.int b), some (.int (nI o)), some (.int e), some (.int f), none, none, none, none]) (by decide) (Nat.le_of_ble_eq_true rfl) rfl ?_
                    refine jr_iload_n 1 1 dX10_copy_0 rfl rfl rfl ?_
                    refine jr_iconst (0) 2 dX10_copy_1 rfl rfl ?_
                    refine jr_iconst (3) 3 dX10_copy_2 rfl rfl ?_
                    refine cs_X10_108 6 dX10_copy_3 rfl rfl (Nat.le_of_ble_eq_true rfl) (wp_inT (m := 3) (by omega) (by decide) rfl ?_)
                    refine jr_if_eq 18 9 dX10_copy_6 rfl rfl (fun q => absurd q (by decide)) (fun q6 => ?_)
                    refine jr_iload_n 3 10 dX10_copy_9 rfl rfl rfl ?_
                    refine jr_iconst (0) 11 dX10_copy_10 rfl rfl ?_
                    refine jr_iconst (3) 12 dX10_copy_11 rfl rfl ?_
                    refine cs_X10_108 15 dX10_copy_12 rfl rfl (Nat.le_of_ble_eq_true rfl) (wp_inT (m := 3) (by omega) (by decide) rfl ?_)
                    refine jr_if_ne 21 18 dX10_copy_15 rfl rfl (fun q15 => ?_) (fun q => absurd q (by decide))
                    refine jr_aload_n 0 22 dX10_copy_21 rfl rfl rfl ?_
                    refine gf_X10_40 25 dX10_copy_22 rfl rfl rfl rfl ?_
                    refine jr_iload_n 1 26 dX10_copy_25 rfl rfl rfl ?_
                    refine jr_iald rfl rfl (by omega) 27 dX10_copy_26 rfl ?_
                    refine jr_iconst ((-1)) 28 dX10_copy_27 rfl rfl ?_
                    refine jr_icmp_eq 41 31 dX10_copy_28 rfl rfl (fun q => absurd q ms) (fun q28 => ?_)
                    refine jr_aload_n 0 32 dX10_copy_31 rfl rfl rfl ?_
                    refine gf_X10_40 35 dX10_copy_32 rfl rfl rfl rfl ?_
                    refine jr_iload_n 3 36 dX10_copy_35 rfl rfl rfl ?_
                    refine jr_iald rfl rfl (by omega) 37 dX10_copy_36 rfl ?_
                    refine jr_iconst ((-1)) 38 dX10_copy_37 rfl rfl ?_
                    refine jr_icmp_ne 44 41 dX10_copy_38 rfl rfl (fun q38 => ?_) (fun q => absurd q mo)
                    refine jr_aload_n 0 45 dX10_copy_44 rfl rfl rfl ?_
                    refine gf_X10_40 48 dX10_copy_45 rfl rfl rfl rfl ?_
                    refine jr_iload_n 1 49 dX10_copy_48 rfl rfl rfl ?_
                    refine jr_iald rfl rfl (by omega) 50 dX10_copy_49 rfl ?_
                    refine jr_aload_n 0 51 dX10_copy_50 rfl rfl rfl ?_
                    refine gf_X10_40 54 dX10_copy_51 rfl rfl rfl rfl ?_
                    refine jr_iload_n 3 55 dX10_copy_54 rfl rfl rfl ?_
                    refine jr_iald rfl rfl (by omega) 56 dX10_copy_55 rfl ?_
                    refine jr_icmp_eq 62 59 dX10_copy_56 rfl rfl (fun q56 => ?_) (fun q => absurd el q)
                    refine jr_iload 64 dX10_copy_62 rfl rfl ?_
                    refine jr_if_lt 124 67 dX10_copy_64 rfl rfl (fun q => absurd q f0) (fun q64 => ?_)
                    refine jr_iload_n 2 68 dX10_copy_67 rfl rfl rfl ?_
                    refine jr_if_lt 124 71 dX10_copy_68 rfl rfl (fun q => absurd q b0) (fun q68 => ?_)
                    refine jr_iload 73 dX10_copy_71 rfl rfl ?_
                    refine jr_if_lt 124 76 dX10_copy_73 rfl rfl (fun q73 => ?_) (fun q => absurd e0 q)
                    refine jr_bipush ((-12)) 126 dX10_copy_124 rfl rfl ?_
                    refine jr_ireturn dX10_copy_126 rfl rfl ?_
                    exact ⟨rfl, IV_mov (iv_same_x (jr_eqx_rf [] _) (by decide)) h⟩
                  · refine jr_if_eq 103 88 dX9_copy_85 rfl rfl (fun q85 => ?_) (fun q => absurd (by decide) q)
                    refine jr_bipush ((-12)) 105 dX9_copy_103 rfl rfl ?_
                    refine jr_ireturn dX9_copy_105 rfl rfl ?_
                    refine jr_enter (L := [some (.ref 46), some (.int (nI s)), some (.int b), some (.int (nI o)), some (.int e), some (.int f), none, none, none, none]) (by decide) (Nat.le_of_ble_eq_true rfl) rfl ?_
                    refine jr_iload_n 1 1 dX10_copy_0 rfl rfl rfl ?_
                    refine jr_iconst (0) 2 dX10_copy_1 rfl rfl ?_
                    refine jr_iconst (3) 3 dX10_copy_2 rfl rfl ?_
                    refine cs_X10_108 6 dX10_copy_3 rfl rfl (Nat.le_of_ble_eq_true rfl) (wp_inT (m := 3) (by omega) (by decide) rfl ?_)
                    refine jr_if_eq 18 9 dX10_copy_6 rfl rfl (fun q => absurd q (by decide)) (fun q6 => ?_)
                    refine jr_iload_n 3 10 dX10_copy_9 rfl rfl rfl ?_
                    refine jr_iconst (0) 11 dX10_copy_10 rfl rfl ?_
                    refine jr_iconst (3) 12 dX10_copy_11 rfl rfl ?_
                    refine cs_X10_108 15 dX10_copy_12 rfl rfl (Nat.le_of_ble_eq_true rfl) (wp_inT (m := 3) (by omega) (by decide) rfl ?_)
                    refine jr_if_ne 21 18 dX10_copy_15 rfl rfl (fun q15 => ?_) (fun q => absurd q (by decide))
                    refine jr_aload_n 0 22 dX10_copy_21 rfl rfl rfl ?_
                    refine gf_X10_40 25 dX10_copy_22 rfl rfl rfl rfl ?_
                    refine jr_iload_n 1 26 dX10_copy_25 rfl rfl rfl ?_
                    refine jr_iald rfl rfl (by omega) 27 dX10_copy_26 rfl ?_
                    refine jr_iconst ((-1)) 28 dX10_copy_27 rfl rfl ?_
                    refine jr_icmp_eq 41 31 dX10_copy_28 rfl rfl (fun q => absurd q ms) (fun q28 => ?_)
                    refine jr_aload_n 0 32 dX10_copy_31 rfl rfl rfl ?_
                    refine gf_X10_40 35 dX10_copy_32 rfl rfl rfl rfl ?_
                    refine jr_iload_n 3 36 dX10_copy_35 rfl rfl rfl ?_
                    refine jr_iald rfl rfl (by omega) 37 dX10_copy_36 rfl ?_
                    refine jr_iconst ((-1)) 38 dX10_copy_37 rfl rfl ?_
                    refine jr_icmp_ne 44 41 dX10_copy_38 rfl rfl (fun q38 => ?_) (fun q => absurd q mo)
                    refine jr_aload_n 0 45 dX10_copy_44 rfl rfl rfl ?_
                    refine gf_X10_40 48 dX10_copy_45 rfl rfl rfl rfl ?_
                    refine jr_iload_n 1 49 dX10_copy_48 rfl rfl rfl ?_
                    refine jr_iald rfl rfl (by omega) 50 dX10_copy_49 rfl ?_
                    refine jr_aload_n 0 51 dX10_copy_50 rfl rfl rfl ?_
                    refine gf_X10_40 54 dX10_copy_51 rfl rfl rfl rfl ?_
                    refine jr_iload_n 3 55 dX10_copy_54 rfl rfl rfl ?_
                    refine jr_iald rfl rfl (by omega) 56 dX10_copy_55 rfl ?_
                    refine jr_icmp_eq 62 59 dX10_copy_56 rfl rfl (fun q56 => ?_) (fun q => absurd el q)
                    refine jr_iload 64 dX10_copy_62 rfl rfl ?_
                    refine jr_if_lt 124 67 dX10_copy_64 rfl rfl (fun q => absurd q f0) (fun q64 => ?_)
                    refine jr_iload_n 2 68 dX10_copy_67 rfl rfl rfl ?_
                    refine jr_if_lt 124 71 dX10_copy_68 rfl rfl (fun q => absurd q b0) (fun q68 => ?_)
                    refine jr_iload 73 dX10_copy_71 rfl rfl ?_
                    refine jr_if_lt 124 76 dX10_copy_73 rfl rfl (fun q73 => ?_) (fun q => absurd e0 q)
                    refine jr_bipush ((-12)) 126 dX10_copy_124 rfl rfl ?_
                    refine jr_ireturn dX10_copy_126 rfl rfl ?_
                    exact ⟨rfl, IV_mov (iv_same_x (jr_eqx_rf [] _) (by decide)) h⟩
                · obtain ⟨u, hu, rfl⟩ := nI_of f0
                  obtain ⟨x, hx, rfl⟩ := nI_of b0
                  obtain ⟨y, hy, rfl⟩ := nI_of e0
                  have es : σ 44 s = nI zs := s2.trans s4
                  have eo : σ 44 o = nI zo := o2.trans o4
                  by_cases x1 : zs < x
                  · refine jr_enter (L := [some (.ref 0), some (.int (nI s)), some (.int (nI x)), some (.int (nI o)), some (.int (nI y)), some (.int (nI u))]) (by decide) (Nat.le_of_ble_eq_true rfl) rfl ?_
                    refine jr_aload_n 0 1 dX9_copy_0 rfl rfl rfl ?_
                    refine gf_X9_57 4 dX9_copy_1 rfl rfl rfl rfl ?_
                    refine jr_iload_n 1 5 dX9_copy_4 rfl rfl rfl ?_
                    refine cs_X9_298 8 dX9_copy_5 rfl rfl rfl (Nat.le_of_ble_eq_true rfl) (wp_shasT hs ?_)
                    refine jr_if_eq 22 11 dX9_copy_8 rfl rfl (fun q => absurd q (by decide)) (fun q8 => ?_)
                    refine jr_aload_n 0 12 dX9_copy_11 rfl rfl rfl ?_
                    refine gf_X9_57 15 dX9_copy_12 rfl rfl rfl rfl ?_
                    refine jr_iload_n 3 16 dX9_copy_15 rfl rfl rfl ?_
                    refine cs_X9_298 19 dX9_copy_16 rfl rfl rfl (Nat.le_of_ble_eq_true rfl) (wp_shasT ho ?_)
                    refine jr_if_ne 25 22 dX9_copy_19 rfl rfl (fun q19 => ?_) (fun q => absurd q (by decide))
                    refine jr_aload_n 0 26 dX9_copy_25 rfl rfl rfl ?_
                    refine gf_X9_57 29 dX9_copy_26 rfl rfl rfl rfl ?_
                    refine jr_iload_n 1 30 dX9_copy_29 rfl rfl rfl ?_
                    refine cs_X9_312 33 dX9_copy_30 rfl rfl rfl (Nat.le_of_ble_eq_true rfl) (wp_isMissing hs (fun q => absurd (s1.symm.trans q) ms) (fun _ => ?_))
                    refine jr_if_ne 47 36 dX9_copy_33 rfl rfl (fun q => absurd (by decide) q) (fun q33 => ?_)
                    refine jr_aload_n 0 37 dX9_copy_36 rfl rfl rfl ?_
                    refine gf_X9_57 40 dX9_copy_37 rfl rfl rfl rfl ?_
                    refine jr_iload_n 3 41 dX9_copy_40 rfl rfl rfl ?_
                    refine cs_X9_312 44 dX9_copy_41 rfl rfl rfl (Nat.le_of_ble_eq_true rfl) (wp_isMissing ho (fun q => absurd (o1.symm.trans q) mo) (fun _ => ?_))
                    refine jr_if_eq 50 47 dX9_copy_44 rfl rfl (fun q44 => ?_) (fun q => absurd (by decide) q)
                    refine jr_aload_n 0 51 dX9_copy_50 rfl rfl rfl ?_
                    refine gf_X9_57 54 dX9_copy_51 rfl rfl rfl rfl ?_
                    refine gf_X9_318 57 dX9_copy_54 rfl rfl rfl rfl ?_
                    refine jr_iload_n 1 58 dX9_copy_57 rfl rfl rfl ?_
                    refine jr_iald rfl rfl (by omega) 59 dX9_copy_58 rfl ?_
                    refine jr_aload_n 0 60 dX9_copy_59 rfl rfl rfl ?_
                    refine gf_X9_57 63 dX9_copy_60 rfl rfl rfl rfl ?_
                    refine gf_X9_318 66 dX9_copy_63 rfl rfl rfl rfl ?_
                    refine jr_iload_n 3 67 dX9_copy_66 rfl rfl rfl ?_
                    refine jr_iald rfl rfl (by omega) 68 dX9_copy_67 rfl ?_
                    refine jr_icmp_eq 74 71 dX9_copy_68 rfl rfl (fun q68 => ?_) (fun q => absurd (s1.trans (el.trans o1.symm)) q)
                    refine jr_aload_n 0 75 dX9_copy_74 rfl rfl rfl ?_
                    refine gf_X9_57 78 dX9_copy_75 rfl rfl rfl rfl ?_
                    refine jr_iload_n 1 79 dX9_copy_78 rfl rfl rfl ?_
                    refine jr_iload_n 2 80 dX9_copy_79 rfl rfl rfl ?_
                    refine jr_iload 82 dX9_copy_80 rfl rfl ?_
                    refine cs_X9_315 85 dX9_copy_82 rfl rfl rfl (Nat.le_of_ble_eq_true rfl) (wp_holds hs (fun i1 i2 i3 => absurd i3 (hold_no es (by omega) hx hu (by omega))) (fun _ => ?_))
                    refine jr_if_eq 103 88 dX9_copy_85 rfl rfl (fun q85 => ?_) (fun q => absurd (by decide) q)
                    refine jr_bipush ((-12)) 105 dX9_copy_103 rfl rfl ?_
                    refine jr_ireturn dX9_copy_105 rfl rfl ?_
                    refine jr_enter (L := [some (.ref 46), some (.int (nI s)), some (.int (nI x)), some (.int (nI o)), some (.int (nI y)), some (.int (nI u)), none, none, none, none]) (by decide) (Nat.le_of_ble_eq_true rfl) rfl ?_
                    refine jr_iload_n 1 1 dX10_copy_0 rfl rfl rfl ?_
                    refine jr_iconst (0) 2 dX10_copy_1 rfl rfl ?_
                    refine jr_iconst (3) 3 dX10_copy_2 rfl rfl ?_
                    refine cs_X10_108 6 dX10_copy_3 rfl rfl (Nat.le_of_ble_eq_true rfl) (wp_inT (m := 3) (by omega) (by decide) rfl ?_)
                    refine jr_if_eq 18 9 dX10_copy_6 rfl rfl (fun q => absurd q (by decide)) (fun q6 => ?_)
                    refine jr_iload_n 3 10 dX10_copy_9 rfl rfl rfl ?_
                    refine jr_iconst (0) 11 dX10_copy_10 rfl rfl ?_
                    refine jr_iconst (3) 12 dX10_copy_11 rfl rfl ?_
                    refine cs_X10_108 15 dX10_copy_12 rfl rfl (Nat.le_of_ble_eq_true rfl) (wp_inT (m := 3) (by omega) (by decide) rfl ?_)
                    refine jr_if_ne 21 18 dX10_copy_15 rfl rfl (fun q15 => ?_) (fun q => absurd q (by decide))
                    refine jr_aload_n 0 22 dX10_copy_21 rfl rfl rfl ?_
                    refine gf_X10_40 25 dX10_copy_22 rfl rfl rfl rfl ?_
                    refine jr_iload_n 1 26 dX10_copy_25 rfl rfl rfl ?_
                    refine jr_iald rfl rfl (by omega) 27 dX10_copy_26 rfl ?_
                    refine jr_iconst ((-1)) 28 dX10_copy_27 rfl rfl ?_
                    refine jr_icmp_eq 41 31 dX10_copy_28 rfl rfl (fun q => absurd q ms) (fun q28 => ?_)
                    refine jr_aload_n 0 32 dX10_copy_31 rfl rfl rfl ?_
                    refine gf_X10_40 35 dX10_copy_32 rfl rfl rfl rfl ?_
                    refine jr_iload_n 3 36 dX10_copy_35 rfl rfl rfl ?_
                    refine jr_iald rfl rfl (by omega) 37 dX10_copy_36 rfl ?_
                    refine jr_iconst ((-1)) 38 dX10_copy_37 rfl rfl ?_
                    refine jr_icmp_ne 44 41 dX10_copy_38 rfl rfl (fun q38 => ?_) (fun q => absurd q mo)
                    refine jr_aload_n 0 45 dX10_copy_44 rfl rfl rfl ?_
                    refine gf_X10_40 48 dX10_copy_45 rfl rfl rfl rfl ?_
                    refine jr_iload_n 1 49 dX10_copy_48 rfl rfl rfl ?_
                    refine jr_iald rfl rfl (by omega) 50 dX10_copy_49 rfl ?_
                    refine jr_aload_n 0 51 dX10_copy_50 rfl rfl rfl ?_
                    refine gf_X10_40 54 dX10_copy_51 rfl rfl rfl rfl ?_
                    refine jr_iload_n 3 55 dX10_copy_54 rfl rfl rfl ?_
                    refine jr_iald rfl rfl (by omega) 56 dX10_copy_55 rfl ?_
                    refine jr_icmp_eq 62 59 dX10_copy_56 rfl rfl (fun q56 => ?_) (fun q => absurd el q)
                    refine jr_iload 64 dX10_copy_62 rfl rfl ?_
                    refine jr_if_lt 124 67 dX10_copy_64 rfl rfl (fun q => absurd q f0) (fun q64 => ?_)
                    refine jr_iload_n 2 68 dX10_copy_67 rfl rfl rfl ?_
                    refine jr_if_lt 124 71 dX10_copy_68 rfl rfl (fun q => absurd q b0) (fun q68 => ?_)
                    refine jr_iload 73 dX10_copy_71 rfl rfl ?_
                    refine jr_if_lt 124 76 dX10_copy_73 rfl rfl (fun q => absurd q e0) (fun q73 => ?_)
                    refine jr_iload_n 2 77 dX10_copy_76 rfl rfl rfl ?_
                    refine jr_aload_n 0 78 dX10_copy_77 rfl rfl rfl ?_
                    refine gf_X10_43 81 dX10_copy_78 rfl rfl rfl rfl ?_
                    refine jr_iload_n 1 82 dX10_copy_81 rfl rfl rfl ?_
                    refine jr_iald rfl rfl (by omega) 83 dX10_copy_82 rfl ?_
                    rw [s4]
                    refine jr_icmp_gt 124 86 dX10_copy_83 rfl rfl (fun q83 => ?_) (fun q => absurd (nI_lt x1 (by omega)) q)
                    refine jr_bipush ((-12)) 126 dX10_copy_124 rfl rfl ?_
                    refine jr_ireturn dX10_copy_126 rfl rfl ?_
                    exact ⟨rfl, IV_mov (iv_same_x (jr_eqx_rf [] _) (by decide)) h⟩
                  · by_cases y1 : zo < y
                    · refine jr_enter (L := [some (.ref 0), some (.int (nI s)), some (.int (nI x)), some (.int (nI o)), some (.int (nI y)), some (.int (nI u))]) (by decide) (Nat.le_of_ble_eq_true rfl) rfl ?_
                      refine jr_aload_n 0 1 dX9_copy_0 rfl rfl rfl ?_
                      refine gf_X9_57 4 dX9_copy_1 rfl rfl rfl rfl ?_
                      refine jr_iload_n 1 5 dX9_copy_4 rfl rfl rfl ?_
                      refine cs_X9_298 8 dX9_copy_5 rfl rfl rfl (Nat.le_of_ble_eq_true rfl) (wp_shasT hs ?_)
                      refine jr_if_eq 22 11 dX9_copy_8 rfl rfl (fun q => absurd q (by decide)) (fun q8 => ?_)
                      refine jr_aload_n 0 12 dX9_copy_11 rfl rfl rfl ?_
                      refine gf_X9_57 15 dX9_copy_12 rfl rfl rfl rfl ?_
                      refine jr_iload_n 3 16 dX9_copy_15 rfl rfl rfl ?_
                      refine cs_X9_298 19 dX9_copy_16 rfl rfl rfl (Nat.le_of_ble_eq_true rfl) (wp_shasT ho ?_)
                      refine jr_if_ne 25 22 dX9_copy_19 rfl rfl (fun q19 => ?_) (fun q => absurd q (by decide))
                      refine jr_aload_n 0 26 dX9_copy_25 rfl rfl rfl ?_
                      refine gf_X9_57 29 dX9_copy_26 rfl rfl rfl rfl ?_
                      refine jr_iload_n 1 30 dX9_copy_29 rfl rfl rfl ?_
                      refine cs_X9_312 33 dX9_copy_30 rfl rfl rfl (Nat.le_of_ble_eq_true rfl) (wp_isMissing hs (fun q => absurd (s1.symm.trans q) ms) (fun _ => ?_))
                      refine jr_if_ne 47 36 dX9_copy_33 rfl rfl (fun q => absurd (by decide) q) (fun q33 => ?_)
                      refine jr_aload_n 0 37 dX9_copy_36 rfl rfl rfl ?_
                      refine gf_X9_57 40 dX9_copy_37 rfl rfl rfl rfl ?_
                      refine jr_iload_n 3 41 dX9_copy_40 rfl rfl rfl ?_
                      refine cs_X9_312 44 dX9_copy_41 rfl rfl rfl (Nat.le_of_ble_eq_true rfl) (wp_isMissing ho (fun q => absurd (o1.symm.trans q) mo) (fun _ => ?_))
                      refine jr_if_eq 50 47 dX9_copy_44 rfl rfl (fun q44 => ?_) (fun q => absurd (by decide) q)
                      refine jr_aload_n 0 51 dX9_copy_50 rfl rfl rfl ?_
                      refine gf_X9_57 54 dX9_copy_51 rfl rfl rfl rfl ?_
                      refine gf_X9_318 57 dX9_copy_54 rfl rfl rfl rfl ?_
                      refine jr_iload_n 1 58 dX9_copy_57 rfl rfl rfl ?_
                      refine jr_iald rfl rfl (by omega) 59 dX9_copy_58 rfl ?_
                      refine jr_aload_n 0 60 dX9_copy_59 rfl rfl rfl ?_
                      refine gf_X9_57 63 dX9_copy_60 rfl rfl rfl rfl ?_
                      refine gf_X9_318 66 dX9_copy_63 rfl rfl rfl rfl ?_
                      refine jr_iload_n 3 67 dX9_copy_66 rfl rfl rfl ?_
                      refine jr_iald rfl rfl (by omega) 68 dX9_copy_67 rfl ?_
                      refine jr_icmp_eq 74 71 dX9_copy_68 rfl rfl (fun q68 => ?_) (fun q => absurd (s1.trans (el.trans o1.symm)) q)
                      refine jr_aload_n 0 75 dX9_copy_74 rfl rfl rfl ?_
                      refine gf_X9_57 78 dX9_copy_75 rfl rfl rfl rfl ?_
                      refine jr_iload_n 1 79 dX9_copy_78 rfl rfl rfl ?_
                      refine jr_iload_n 2 80 dX9_copy_79 rfl rfl rfl ?_
                      refine jr_iload 82 dX9_copy_80 rfl rfl ?_
                      refine cs_X9_315 85 dX9_copy_82 rfl rfl rfl (Nat.le_of_ble_eq_true rfl) (wp_holds hs (fun _ _ _ => ?_) (fun _ => ?_))
                      · refine jr_if_eq 103 88 dX9_copy_85 rfl rfl (fun q => absurd q (by decide)) (fun q85 => ?_)
                        refine jr_aload_n 0 89 dX9_copy_88 rfl rfl rfl ?_
                        refine gf_X9_57 92 dX9_copy_89 rfl rfl rfl rfl ?_
                        refine jr_iload_n 3 93 dX9_copy_92 rfl rfl rfl ?_
                        refine jr_iload 95 dX9_copy_93 rfl rfl ?_
                        refine jr_iload 97 dX9_copy_95 rfl rfl ?_
                        refine cs_X9_315 100 dX9_copy_97 rfl rfl rfl (Nat.le_of_ble_eq_true rfl) (wp_holds ho (fun i1 i2 i3 => absurd i3 (hold_no eo (by omega) hy hu (by omega))) (fun _ => ?_))
                        refine jr_if_ne 106 103 dX9_copy_100 rfl rfl (fun q => absurd (by decide) q) (fun q100 => ?_)
                        refine jr_bipush ((-12)) 105 dX9_copy_103 rfl rfl ?_
                        refine jr_ireturn dX9_copy_105 rfl rfl ?_
                        refine jr_enter (L := [some (.ref 46), some (.int (nI s)), some (.int (nI x)), some (.int (nI o)), some (.int (nI y)), some (.int (nI u)), none, none, none, none]) (by decide) (Nat.le_of_ble_eq_true rfl) rfl ?_
                        refine jr_iload_n 1 1 dX10_copy_0 rfl rfl rfl ?_
                        refine jr_iconst (0) 2 dX10_copy_1 rfl rfl ?_
                        refine jr_iconst (3) 3 dX10_copy_2 rfl rfl ?_
                        refine cs_X10_108 6 dX10_copy_3 rfl rfl (Nat.le_of_ble_eq_true rfl) (wp_inT (m := 3) (by omega) (by decide) rfl ?_)
                        refine jr_if_eq 18 9 dX10_copy_6 rfl rfl (fun q => absurd q (by decide)) (fun q6 => ?_)
                        refine jr_iload_n 3 10 dX10_copy_9 rfl rfl rfl ?_
                        refine jr_iconst (0) 11 dX10_copy_10 rfl rfl ?_
                        refine jr_iconst (3) 12 dX10_copy_11 rfl rfl ?_
                        refine cs_X10_108 15 dX10_copy_12 rfl rfl (Nat.le_of_ble_eq_true rfl) (wp_inT (m := 3) (by omega) (by decide) rfl ?_)
                        refine jr_if_ne 21 18 dX10_copy_15 rfl rfl (fun q15 => ?_) (fun q => absurd q (by decide))
                        refine jr_aload_n 0 22 dX10_copy_21 rfl rfl rfl ?_
                        refine gf_X10_40 25 dX10_copy_22 rfl rfl rfl rfl ?_
                        refine jr_iload_n 1 26 dX10_copy_25 rfl rfl rfl ?_
                        refine jr_iald rfl rfl (by omega) 27 dX10_copy_26 rfl ?_
                        refine jr_iconst ((-1)) 28 dX10_copy_27 rfl rfl ?_
                        refine jr_icmp_eq 41 31 dX10_copy_28 rfl rfl (fun q => absurd q ms) (fun q28 => ?_)
                        refine jr_aload_n 0 32 dX10_copy_31 rfl rfl rfl ?_
                        refine gf_X10_40 35 dX10_copy_32 rfl rfl rfl rfl ?_
                        refine jr_iload_n 3 36 dX10_copy_35 rfl rfl rfl ?_
                        refine jr_iald rfl rfl (by omega) 37 dX10_copy_36 rfl ?_
                        refine jr_iconst ((-1)) 38 dX10_copy_37 rfl rfl ?_
                        refine jr_icmp_ne 44 41 dX10_copy_38 rfl rfl (fun q38 => ?_) (fun q => absurd q mo)
                        refine jr_aload_n 0 45 dX10_copy_44 rfl rfl rfl ?_
                        refine gf_X10_40 48 dX10_copy_45 rfl rfl rfl rfl ?_
                        refine jr_iload_n 1 49 dX10_copy_48 rfl rfl rfl ?_
                        refine jr_iald rfl rfl (by omega) 50 dX10_copy_49 rfl ?_
                        refine jr_aload_n 0 51 dX10_copy_50 rfl rfl rfl ?_
                        refine gf_X10_40 54 dX10_copy_51 rfl rfl rfl rfl ?_
                        refine jr_iload_n 3 55 dX10_copy_54 rfl rfl rfl ?_
                        refine jr_iald rfl rfl (by omega) 56 dX10_copy_55 rfl ?_
                        refine jr_icmp_eq 62 59 dX10_copy_56 rfl rfl (fun q56 => ?_) (fun q => absurd el q)
                        refine jr_iload 64 dX10_copy_62 rfl rfl ?_
                        refine jr_if_lt 124 67 dX10_copy_64 rfl rfl (fun q => absurd q f0) (fun q64 => ?_)
                        refine jr_iload_n 2 68 dX10_copy_67 rfl rfl rfl ?_
                        refine jr_if_lt 124 71 dX10_copy_68 rfl rfl (fun q => absurd q b0) (fun q68 => ?_)
                        refine jr_iload 73 dX10_copy_71 rfl rfl ?_
                        refine jr_if_lt 124 76 dX10_copy_73 rfl rfl (fun q => absurd q e0) (fun q73 => ?_)
                        refine jr_iload_n 2 77 dX10_copy_76 rfl rfl rfl ?_
                        refine jr_aload_n 0 78 dX10_copy_77 rfl rfl rfl ?_
                        refine gf_X10_43 81 dX10_copy_78 rfl rfl rfl rfl ?_
                        refine jr_iload_n 1 82 dX10_copy_81 rfl rfl rfl ?_
                        refine jr_iald rfl rfl (by omega) 83 dX10_copy_82 rfl ?_
                        rw [s4]
                        refine jr_icmp_gt 124 86 dX10_copy_83 rfl rfl (fun q => absurd q (nI_nlt (by omega) (by omega))) (fun q83 => ?_)
                        refine jr_iload 88 dX10_copy_86 rfl rfl ?_
                        refine jr_aload_n 0 89 dX10_copy_88 rfl rfl rfl ?_
                        refine gf_X10_43 92 dX10_copy_89 rfl rfl rfl rfl ?_
                        refine jr_iload_n 3 93 dX10_copy_92 rfl rfl rfl ?_
                        refine jr_iald rfl rfl (by omega) 94 dX10_copy_93 rfl ?_
                        rw [o4]
                        refine jr_icmp_gt 124 97 dX10_copy_94 rfl rfl (fun q94 => ?_) (fun q => absurd (nI_lt y1 (by omega)) q)
                        refine jr_bipush ((-12)) 126 dX10_copy_124 rfl rfl ?_
                        refine jr_ireturn dX10_copy_126 rfl rfl ?_
                        exact ⟨rfl, IV_mov (iv_same_x (jr_eqx_rf [] _) (by decide)) h⟩
                      · refine jr_if_eq 103 88 dX9_copy_85 rfl rfl (fun q85 => ?_) (fun q => absurd (by decide) q)
                        refine jr_bipush ((-12)) 105 dX9_copy_103 rfl rfl ?_
                        refine jr_ireturn dX9_copy_105 rfl rfl ?_
                        refine jr_enter (L := [some (.ref 46), some (.int (nI s)), some (.int (nI x)), some (.int (nI o)), some (.int (nI y)), some (.int (nI u)), none, none, none, none]) (by decide) (Nat.le_of_ble_eq_true rfl) rfl ?_
                        refine jr_iload_n 1 1 dX10_copy_0 rfl rfl rfl ?_
                        refine jr_iconst (0) 2 dX10_copy_1 rfl rfl ?_
                        refine jr_iconst (3) 3 dX10_copy_2 rfl rfl ?_
                        refine cs_X10_108 6 dX10_copy_3 rfl rfl (Nat.le_of_ble_eq_true rfl) (wp_inT (m := 3) (by omega) (by decide) rfl ?_)
                        refine jr_if_eq 18 9 dX10_copy_6 rfl rfl (fun q => absurd q (by decide)) (fun q6 => ?_)
                        refine jr_iload_n 3 10 dX10_copy_9 rfl rfl rfl ?_
                        refine jr_iconst (0) 11 dX10_copy_10 rfl rfl ?_
                        refine jr_iconst (3) 12 dX10_copy_11 rfl rfl ?_
                        refine cs_X10_108 15 dX10_copy_12 rfl rfl (Nat.le_of_ble_eq_true rfl) (wp_inT (m := 3) (by omega) (by decide) rfl ?_)
                        refine jr_if_ne 21 18 dX10_copy_15 rfl rfl (fun q15 => ?_) (fun q => absurd q (by decide))
                        refine jr_aload_n 0 22 dX10_copy_21 rfl rfl rfl ?_
                        refine gf_X10_40 25 dX10_copy_22 rfl rfl rfl rfl ?_
                        refine jr_iload_n 1 26 dX10_copy_25 rfl rfl rfl ?_
                        refine jr_iald rfl rfl (by omega) 27 dX10_copy_26 rfl ?_
                        refine jr_iconst ((-1)) 28 dX10_copy_27 rfl rfl ?_
                        refine jr_icmp_eq 41 31 dX10_copy_28 rfl rfl (fun q => absurd q ms) (fun q28 => ?_)
                        refine jr_aload_n 0 32 dX10_copy_31 rfl rfl rfl ?_
                        refine gf_X10_40 35 dX10_copy_32 rfl rfl rfl rfl ?_
                        refine jr_iload_n 3 36 dX10_copy_35 rfl rfl rfl ?_
                        refine jr_iald rfl rfl (by omega) 37 dX10_copy_36 rfl ?_
                        refine jr_iconst ((-1)) 38 dX10_copy_37 rfl rfl ?_
                        refine jr_icmp_ne 44 41 dX10_copy_38 rfl rfl (fun q38 => ?_) (fun q => absurd q mo)
                        refine jr_aload_n 0 45 dX10_copy_44 rfl rfl rfl ?_
                        refine gf_X10_40 48 dX10_copy_45 rfl rfl rfl rfl ?_
                        refine jr_iload_n 1 49 dX10_copy_48 rfl rfl rfl ?_
                        refine jr_iald rfl rfl (by omega) 50 dX10_copy_49 rfl ?_
                        refine jr_aload_n 0 51 dX10_copy_50 rfl rfl rfl ?_
                        refine gf_X10_40 54 dX10_copy_51 rfl rfl rfl rfl ?_
                        refine jr_iload_n 3 55 dX10_copy_54 rfl rfl rfl ?_
                        refine jr_iald rfl rfl (by omega) 56 dX10_copy_55 rfl ?_
                        refine jr_icmp_eq 62 59 dX10_copy_56 rfl rfl (fun q56 => ?_) (fun q => absurd el q)
                        refine jr_iload 64 dX10_copy_62 rfl rfl ?_
                        refine jr_if_lt 124 67 dX10_copy_64 rfl rfl (fun q => absurd q f0) (fun q64 => ?_)
                        refine jr_iload_n 2 68 dX10_copy_67 rfl rfl rfl ?_
                        refine jr_if_lt 124 71 dX10_copy_68 rfl rfl (fun q => absurd q b0) (fun q68 => ?_)
                        refine jr_iload 73 dX10_copy_71 rfl rfl ?_
                        refine jr_if_lt 124 76 dX10_copy_73 rfl rfl (fun q => absurd q e0) (fun q73 => ?_)
                        refine jr_iload_n 2 77 dX10_copy_76 rfl rfl rfl ?_
                        refine jr_aload_n 0 78 dX10_copy_77 rfl rfl rfl ?_
                        refine gf_X10_43 81 dX10_copy_78 rfl rfl rfl rfl ?_
                        refine jr_iload_n 1 82 dX10_copy_81 rfl rfl rfl ?_
                        refine jr_iald rfl rfl (by omega) 83 dX10_copy_82 rfl ?_
                        rw [s4]
                        refine jr_icmp_gt 124 86 dX10_copy_83 rfl rfl (fun q => absurd q (nI_nlt (by omega) (by omega))) (fun q83 => ?_)
                        refine jr_iload 88 dX10_copy_86 rfl rfl ?_
                        refine jr_aload_n 0 89 dX10_copy_88 rfl rfl rfl ?_
                        refine gf_X10_43 92 dX10_copy_89 rfl rfl rfl rfl ?_
                        refine jr_iload_n 3 93 dX10_copy_92 rfl rfl rfl ?_
                        refine jr_iald rfl rfl (by omega) 94 dX10_copy_93 rfl ?_
                        rw [o4]
                        refine jr_icmp_gt 124 97 dX10_copy_94 rfl rfl (fun q94 => ?_) (fun q => absurd (nI_lt y1 (by omega)) q)
                        refine jr_bipush ((-12)) 126 dX10_copy_124 rfl rfl ?_
                        refine jr_ireturn dX10_copy_126 rfl rfl ?_
                        exact ⟨rfl, IV_mov (iv_same_x (jr_eqx_rf [] _) (by decide)) h⟩
                    · have sx : nI zs - nI x = nI (zs - x) := pk_sub (by omega)
                      have sy : nI zo - nI y = nI (zo - y) := pk_sub (by omega)
                      by_cases u1 : zs - x < u
                      · refine jr_enter (L := [some (.ref 0), some (.int (nI s)), some (.int (nI x)), some (.int (nI o)), some (.int (nI y)), some (.int (nI u))]) (by decide) (Nat.le_of_ble_eq_true rfl) rfl ?_
                        refine jr_aload_n 0 1 dX9_copy_0 rfl rfl rfl ?_
                        refine gf_X9_57 4 dX9_copy_1 rfl rfl rfl rfl ?_
                        refine jr_iload_n 1 5 dX9_copy_4 rfl rfl rfl ?_
                        refine cs_X9_298 8 dX9_copy_5 rfl rfl rfl (Nat.le_of_ble_eq_true rfl) (wp_shasT hs ?_)
                        refine jr_if_eq 22 11 dX9_copy_8 rfl rfl (fun q => absurd q (by decide)) (fun q8 => ?_)
                        refine jr_aload_n 0 12 dX9_copy_11 rfl rfl rfl ?_
                        refine gf_X9_57 15 dX9_copy_12 rfl rfl rfl rfl ?_
                        refine jr_iload_n 3 16 dX9_copy_15 rfl rfl rfl ?_
                        refine cs_X9_298 19 dX9_copy_16 rfl rfl rfl (Nat.le_of_ble_eq_true rfl) (wp_shasT ho ?_)
                        refine jr_if_ne 25 22 dX9_copy_19 rfl rfl (fun q19 => ?_) (fun q => absurd q (by decide))
                        refine jr_aload_n 0 26 dX9_copy_25 rfl rfl rfl ?_
                        refine gf_X9_57 29 dX9_copy_26 rfl rfl rfl rfl ?_
                        refine jr_iload_n 1 30 dX9_copy_29 rfl rfl rfl ?_
                        refine cs_X9_312 33 dX9_copy_30 rfl rfl rfl (Nat.le_of_ble_eq_true rfl) (wp_isMissing hs (fun q => absurd (s1.symm.trans q) ms) (fun _ => ?_))
                        refine jr_if_ne 47 36 dX9_copy_33 rfl rfl (fun q => absurd (by decide) q) (fun q33 => ?_)
                        refine jr_aload_n 0 37 dX9_copy_36 rfl rfl rfl ?_
                        refine gf_X9_57 40 dX9_copy_37 rfl rfl rfl rfl ?_
                        refine jr_iload_n 3 41 dX9_copy_40 rfl rfl rfl ?_
                        refine cs_X9_312 44 dX9_copy_41 rfl rfl rfl (Nat.le_of_ble_eq_true rfl) (wp_isMissing ho (fun q => absurd (o1.symm.trans q) mo) (fun _ => ?_))
                        refine jr_if_eq 50 47 dX9_copy_44 rfl rfl (fun q44 => ?_) (fun q => absurd (by decide) q)
                        refine jr_aload_n 0 51 dX9_copy_50 rfl rfl rfl ?_
                        refine gf_X9_57 54 dX9_copy_51 rfl rfl rfl rfl ?_
                        refine gf_X9_318 57 dX9_copy_54 rfl rfl rfl rfl ?_
                        refine jr_iload_n 1 58 dX9_copy_57 rfl rfl rfl ?_
                        refine jr_iald rfl rfl (by omega) 59 dX9_copy_58 rfl ?_
                        refine jr_aload_n 0 60 dX9_copy_59 rfl rfl rfl ?_
                        refine gf_X9_57 63 dX9_copy_60 rfl rfl rfl rfl ?_
                        refine gf_X9_318 66 dX9_copy_63 rfl rfl rfl rfl ?_
                        refine jr_iload_n 3 67 dX9_copy_66 rfl rfl rfl ?_
                        refine jr_iald rfl rfl (by omega) 68 dX9_copy_67 rfl ?_
                        refine jr_icmp_eq 74 71 dX9_copy_68 rfl rfl (fun q68 => ?_) (fun q => absurd (s1.trans (el.trans o1.symm)) q)
                        refine jr_aload_n 0 75 dX9_copy_74 rfl rfl rfl ?_
                        refine gf_X9_57 78 dX9_copy_75 rfl rfl rfl rfl ?_
                        refine jr_iload_n 1 79 dX9_copy_78 rfl rfl rfl ?_
                        refine jr_iload_n 2 80 dX9_copy_79 rfl rfl rfl ?_
                        refine jr_iload 82 dX9_copy_80 rfl rfl ?_
                        refine cs_X9_315 85 dX9_copy_82 rfl rfl rfl (Nat.le_of_ble_eq_true rfl) (wp_holds hs (fun i1 i2 i3 => absurd i3 (hold_no es (by omega) hx hu (by omega))) (fun _ => ?_))
                        refine jr_if_eq 103 88 dX9_copy_85 rfl rfl (fun q85 => ?_) (fun q => absurd (by decide) q)
                        refine jr_bipush ((-12)) 105 dX9_copy_103 rfl rfl ?_
                        refine jr_ireturn dX9_copy_105 rfl rfl ?_
                        refine jr_enter (L := [some (.ref 46), some (.int (nI s)), some (.int (nI x)), some (.int (nI o)), some (.int (nI y)), some (.int (nI u)), none, none, none, none]) (by decide) (Nat.le_of_ble_eq_true rfl) rfl ?_
                        refine jr_iload_n 1 1 dX10_copy_0 rfl rfl rfl ?_
                        refine jr_iconst (0) 2 dX10_copy_1 rfl rfl ?_
                        refine jr_iconst (3) 3 dX10_copy_2 rfl rfl ?_
                        refine cs_X10_108 6 dX10_copy_3 rfl rfl (Nat.le_of_ble_eq_true rfl) (wp_inT (m := 3) (by omega) (by decide) rfl ?_)
                        refine jr_if_eq 18 9 dX10_copy_6 rfl rfl (fun q => absurd q (by decide)) (fun q6 => ?_)
                        refine jr_iload_n 3 10 dX10_copy_9 rfl rfl rfl ?_
                        refine jr_iconst (0) 11 dX10_copy_10 rfl rfl ?_
                        refine jr_iconst (3) 12 dX10_copy_11 rfl rfl ?_
                        refine cs_X10_108 15 dX10_copy_12 rfl rfl (Nat.le_of_ble_eq_true rfl) (wp_inT (m := 3) (by omega) (by decide) rfl ?_)
                        refine jr_if_ne 21 18 dX10_copy_15 rfl rfl (fun q15 => ?_) (fun q => absurd q (by decide))
                        refine jr_aload_n 0 22 dX10_copy_21 rfl rfl rfl ?_
                        refine gf_X10_40 25 dX10_copy_22 rfl rfl rfl rfl ?_
                        refine jr_iload_n 1 26 dX10_copy_25 rfl rfl rfl ?_
                        refine jr_iald rfl rfl (by omega) 27 dX10_copy_26 rfl ?_
                        refine jr_iconst ((-1)) 28 dX10_copy_27 rfl rfl ?_
                        refine jr_icmp_eq 41 31 dX10_copy_28 rfl rfl (fun q => absurd q ms) (fun q28 => ?_)
                        refine jr_aload_n 0 32 dX10_copy_31 rfl rfl rfl ?_
                        refine gf_X10_40 35 dX10_copy_32 rfl rfl rfl rfl ?_
                        refine jr_iload_n 3 36 dX10_copy_35 rfl rfl rfl ?_
                        refine jr_iald rfl rfl (by omega) 37 dX10_copy_36 rfl ?_
                        refine jr_iconst ((-1)) 38 dX10_copy_37 rfl rfl ?_
                        refine jr_icmp_ne 44 41 dX10_copy_38 rfl rfl (fun q38 => ?_) (fun q => absurd q mo)
                        refine jr_aload_n 0 45 dX10_copy_44 rfl rfl rfl ?_
                        refine gf_X10_40 48 dX10_copy_45 rfl rfl rfl rfl ?_
                        refine jr_iload_n 1 49 dX10_copy_48 rfl rfl rfl ?_
                        refine jr_iald rfl rfl (by omega) 50 dX10_copy_49 rfl ?_
                        refine jr_aload_n 0 51 dX10_copy_50 rfl rfl rfl ?_
                        refine gf_X10_40 54 dX10_copy_51 rfl rfl rfl rfl ?_
                        refine jr_iload_n 3 55 dX10_copy_54 rfl rfl rfl ?_
                        refine jr_iald rfl rfl (by omega) 56 dX10_copy_55 rfl ?_
                        refine jr_icmp_eq 62 59 dX10_copy_56 rfl rfl (fun q56 => ?_) (fun q => absurd el q)
                        refine jr_iload 64 dX10_copy_62 rfl rfl ?_
                        refine jr_if_lt 124 67 dX10_copy_64 rfl rfl (fun q => absurd q f0) (fun q64 => ?_)
                        refine jr_iload_n 2 68 dX10_copy_67 rfl rfl rfl ?_
                        refine jr_if_lt 124 71 dX10_copy_68 rfl rfl (fun q => absurd q b0) (fun q68 => ?_)
                        refine jr_iload 73 dX10_copy_71 rfl rfl ?_
                        refine jr_if_lt 124 76 dX10_copy_73 rfl rfl (fun q => absurd q e0) (fun q73 => ?_)
                        refine jr_iload_n 2 77 dX10_copy_76 rfl rfl rfl ?_
                        refine jr_aload_n 0 78 dX10_copy_77 rfl rfl rfl ?_
                        refine gf_X10_43 81 dX10_copy_78 rfl rfl rfl rfl ?_
                        refine jr_iload_n 1 82 dX10_copy_81 rfl rfl rfl ?_
                        refine jr_iald rfl rfl (by omega) 83 dX10_copy_82 rfl ?_
                        rw [s4]
                        refine jr_icmp_gt 124 86 dX10_copy_83 rfl rfl (fun q => absurd q (nI_nlt (by omega) (by omega))) (fun q83 => ?_)
                        refine jr_iload 88 dX10_copy_86 rfl rfl ?_
                        refine jr_aload_n 0 89 dX10_copy_88 rfl rfl rfl ?_
                        refine gf_X10_43 92 dX10_copy_89 rfl rfl rfl rfl ?_
                        refine jr_iload_n 3 93 dX10_copy_92 rfl rfl rfl ?_
                        refine jr_iald rfl rfl (by omega) 94 dX10_copy_93 rfl ?_
                        rw [o4]
                        refine jr_icmp_gt 124 97 dX10_copy_94 rfl rfl (fun q => absurd q (nI_nlt (by omega) (by omega))) (fun q94 => ?_)
                        refine jr_iload 99 dX10_copy_97 rfl rfl ?_
                        refine jr_aload_n 0 100 dX10_copy_99 rfl rfl rfl ?_
                        refine gf_X10_43 103 dX10_copy_100 rfl rfl rfl rfl ?_
                        refine jr_iload_n 1 104 dX10_copy_103 rfl rfl rfl ?_
                        refine jr_iald rfl rfl (by omega) 105 dX10_copy_104 rfl ?_
                        rw [s4]
                        refine jr_iload_n 2 106 dX10_copy_105 rfl rfl rfl ?_
                        refine jr_isub 107 dX10_copy_106 rfl ?_
                        rw [sx]
                        refine jr_icmp_gt 124 110 dX10_copy_107 rfl rfl (fun q107 => ?_) (fun q => absurd (nI_lt u1 (by omega)) q)
                        refine jr_bipush ((-12)) 126 dX10_copy_124 rfl rfl ?_
                        refine jr_ireturn dX10_copy_126 rfl rfl ?_
                        exact ⟨rfl, IV_mov (iv_same_x (jr_eqx_rf [] _) (by decide)) h⟩
                      · by_cases u2 : zo - y < u
                        · refine jr_enter (L := [some (.ref 0), some (.int (nI s)), some (.int (nI x)), some (.int (nI o)), some (.int (nI y)), some (.int (nI u))]) (by decide) (Nat.le_of_ble_eq_true rfl) rfl ?_
                          refine jr_aload_n 0 1 dX9_copy_0 rfl rfl rfl ?_
                          refine gf_X9_57 4 dX9_copy_1 rfl rfl rfl rfl ?_
                          refine jr_iload_n 1 5 dX9_copy_4 rfl rfl rfl ?_
                          refine cs_X9_298 8 dX9_copy_5 rfl rfl rfl (Nat.le_of_ble_eq_true rfl) (wp_shasT hs ?_)
                          refine jr_if_eq 22 11 dX9_copy_8 rfl rfl (fun q => absurd q (by decide)) (fun q8 => ?_)
                          refine jr_aload_n 0 12 dX9_copy_11 rfl rfl rfl ?_
                          refine gf_X9_57 15 dX9_copy_12 rfl rfl rfl rfl ?_
                          refine jr_iload_n 3 16 dX9_copy_15 rfl rfl rfl ?_
                          refine cs_X9_298 19 dX9_copy_16 rfl rfl rfl (Nat.le_of_ble_eq_true rfl) (wp_shasT ho ?_)
                          refine jr_if_ne 25 22 dX9_copy_19 rfl rfl (fun q19 => ?_) (fun q => absurd q (by decide))
                          refine jr_aload_n 0 26 dX9_copy_25 rfl rfl rfl ?_
                          refine gf_X9_57 29 dX9_copy_26 rfl rfl rfl rfl ?_
                          refine jr_iload_n 1 30 dX9_copy_29 rfl rfl rfl ?_
                          refine cs_X9_312 33 dX9_copy_30 rfl rfl rfl (Nat.le_of_ble_eq_true rfl) (wp_isMissing hs (fun q => absurd (s1.symm.trans q) ms) (fun _ => ?_))
                          refine jr_if_ne 47 36 dX9_copy_33 rfl rfl (fun q => absurd (by decide) q) (fun q33 => ?_)
                          refine jr_aload_n 0 37 dX9_copy_36 rfl rfl rfl ?_
                          refine gf_X9_57 40 dX9_copy_37 rfl rfl rfl rfl ?_
                          refine jr_iload_n 3 41 dX9_copy_40 rfl rfl rfl ?_
                          refine cs_X9_312 44 dX9_copy_41 rfl rfl rfl (Nat.le_of_ble_eq_true rfl) (wp_isMissing ho (fun q => absurd (o1.symm.trans q) mo) (fun _ => ?_))
                          refine jr_if_eq 50 47 dX9_copy_44 rfl rfl (fun q44 => ?_) (fun q => absurd (by decide) q)
                          refine jr_aload_n 0 51 dX9_copy_50 rfl rfl rfl ?_
                          refine gf_X9_57 54 dX9_copy_51 rfl rfl rfl rfl ?_
                          refine gf_X9_318 57 dX9_copy_54 rfl rfl rfl rfl ?_
                          refine jr_iload_n 1 58 dX9_copy_57 rfl rfl rfl ?_
                          refine jr_iald rfl rfl (by omega) 59 dX9_copy_58 rfl ?_
                          refine jr_aload_n 0 60 dX9_copy_59 rfl rfl rfl ?_
                          refine gf_X9_57 63 dX9_copy_60 rfl rfl rfl rfl ?_
                          refine gf_X9_318 66 dX9_copy_63 rfl rfl rfl rfl ?_
                          refine jr_iload_n 3 67 dX9_copy_66 rfl rfl rfl ?_
                          refine jr_iald rfl rfl (by omega) 68 dX9_copy_67 rfl ?_
                          refine jr_icmp_eq 74 71 dX9_copy_68 rfl rfl (fun q68 => ?_) (fun q => absurd (s1.trans (el.trans o1.symm)) q)
                          refine jr_aload_n 0 75 dX9_copy_74 rfl rfl rfl ?_
                          refine gf_X9_57 78 dX9_copy_75 rfl rfl rfl rfl ?_
                          refine jr_iload_n 1 79 dX9_copy_78 rfl rfl rfl ?_
                          refine jr_iload_n 2 80 dX9_copy_79 rfl rfl rfl ?_
                          refine jr_iload 82 dX9_copy_80 rfl rfl ?_
                          refine cs_X9_315 85 dX9_copy_82 rfl rfl rfl (Nat.le_of_ble_eq_true rfl) (wp_holdsT (n := u) hs es hzs (by omega) ?_)
                          refine jr_if_eq 103 88 dX9_copy_85 rfl rfl (fun q => absurd q (by decide)) (fun q85 => ?_)
                          refine jr_aload_n 0 89 dX9_copy_88 rfl rfl rfl ?_
                          refine gf_X9_57 92 dX9_copy_89 rfl rfl rfl rfl ?_
                          refine jr_iload_n 3 93 dX9_copy_92 rfl rfl rfl ?_
                          refine jr_iload 95 dX9_copy_93 rfl rfl ?_
                          refine jr_iload 97 dX9_copy_95 rfl rfl ?_
                          refine cs_X9_315 100 dX9_copy_97 rfl rfl rfl (Nat.le_of_ble_eq_true rfl) (wp_holds ho (fun i1 i2 i3 => absurd i3 (hold_no eo (by omega) hy hu (by omega))) (fun _ => ?_))
                          refine jr_if_ne 106 103 dX9_copy_100 rfl rfl (fun q => absurd (by decide) q) (fun q100 => ?_)
                          refine jr_bipush ((-12)) 105 dX9_copy_103 rfl rfl ?_
                          refine jr_ireturn dX9_copy_105 rfl rfl ?_
                          refine jr_enter (L := [some (.ref 46), some (.int (nI s)), some (.int (nI x)), some (.int (nI o)), some (.int (nI y)), some (.int (nI u)), none, none, none, none]) (by decide) (Nat.le_of_ble_eq_true rfl) rfl ?_
                          refine jr_iload_n 1 1 dX10_copy_0 rfl rfl rfl ?_
                          refine jr_iconst (0) 2 dX10_copy_1 rfl rfl ?_
                          refine jr_iconst (3) 3 dX10_copy_2 rfl rfl ?_
                          refine cs_X10_108 6 dX10_copy_3 rfl rfl (Nat.le_of_ble_eq_true rfl) (wp_inT (m := 3) (by omega) (by decide) rfl ?_)
                          refine jr_if_eq 18 9 dX10_copy_6 rfl rfl (fun q => absurd q (by decide)) (fun q6 => ?_)
                          refine jr_iload_n 3 10 dX10_copy_9 rfl rfl rfl ?_
                          refine jr_iconst (0) 11 dX10_copy_10 rfl rfl ?_
                          refine jr_iconst (3) 12 dX10_copy_11 rfl rfl ?_
                          refine cs_X10_108 15 dX10_copy_12 rfl rfl (Nat.le_of_ble_eq_true rfl) (wp_inT (m := 3) (by omega) (by decide) rfl ?_)
                          refine jr_if_ne 21 18 dX10_copy_15 rfl rfl (fun q15 => ?_) (fun q => absurd q (by decide))
                          refine jr_aload_n 0 22 dX10_copy_21 rfl rfl rfl ?_
                          refine gf_X10_40 25 dX10_copy_22 rfl rfl rfl rfl ?_
                          refine jr_iload_n 1 26 dX10_copy_25 rfl rfl rfl ?_
                          refine jr_iald rfl rfl (by omega) 27 dX10_copy_26 rfl ?_
                          refine jr_iconst ((-1)) 28 dX10_copy_27 rfl rfl ?_
                          refine jr_icmp_eq 41 31 dX10_copy_28 rfl rfl (fun q => absurd q ms) (fun q28 => ?_)
                          refine jr_aload_n 0 32 dX10_copy_31 rfl rfl rfl ?_
                          refine gf_X10_40 35 dX10_copy_32 rfl rfl rfl rfl ?_
                          refine jr_iload_n 3 36 dX10_copy_35 rfl rfl rfl ?_
                          refine jr_iald rfl rfl (by omega) 37 dX10_copy_36 rfl ?_
                          refine jr_iconst ((-1)) 38 dX10_copy_37 rfl rfl ?_
                          refine jr_icmp_ne 44 41 dX10_copy_38 rfl rfl (fun q38 => ?_) (fun q => absurd q mo)
                          refine jr_aload_n 0 45 dX10_copy_44 rfl rfl rfl ?_
                          refine gf_X10_40 48 dX10_copy_45 rfl rfl rfl rfl ?_
                          refine jr_iload_n 1 49 dX10_copy_48 rfl rfl rfl ?_
                          refine jr_iald rfl rfl (by omega) 50 dX10_copy_49 rfl ?_
                          refine jr_aload_n 0 51 dX10_copy_50 rfl rfl rfl ?_
                          refine gf_X10_40 54 dX10_copy_51 rfl rfl rfl rfl ?_
                          refine jr_iload_n 3 55 dX10_copy_54 rfl rfl rfl ?_
                          refine jr_iald rfl rfl (by omega) 56 dX10_copy_55 rfl ?_
                          refine jr_icmp_eq 62 59 dX10_copy_56 rfl rfl (fun q56 => ?_) (fun q => absurd el q)
                          refine jr_iload 64 dX10_copy_62 rfl rfl ?_
                          refine jr_if_lt 124 67 dX10_copy_64 rfl rfl (fun q => absurd q f0) (fun q64 => ?_)
                          refine jr_iload_n 2 68 dX10_copy_67 rfl rfl rfl ?_
                          refine jr_if_lt 124 71 dX10_copy_68 rfl rfl (fun q => absurd q b0) (fun q68 => ?_)
                          refine jr_iload 73 dX10_copy_71 rfl rfl ?_
                          refine jr_if_lt 124 76 dX10_copy_73 rfl rfl (fun q => absurd q e0) (fun q73 => ?_)
                          refine jr_iload_n 2 77 dX10_copy_76 rfl rfl rfl ?_
                          refine jr_aload_n 0 78 dX10_copy_77 rfl rfl rfl ?_
                          refine gf_X10_43 81 dX10_copy_78 rfl rfl rfl rfl ?_
                          refine jr_iload_n 1 82 dX10_copy_81 rfl rfl rfl ?_
                          refine jr_iald rfl rfl (by omega) 83 dX10_copy_82 rfl ?_
                          rw [s4]
                          refine jr_icmp_gt 124 86 dX10_copy_83 rfl rfl (fun q => absurd q (nI_nlt (by omega) (by omega))) (fun q83 => ?_)
                          refine jr_iload 88 dX10_copy_86 rfl rfl ?_
                          refine jr_aload_n 0 89 dX10_copy_88 rfl rfl rfl ?_
                          refine gf_X10_43 92 dX10_copy_89 rfl rfl rfl rfl ?_
                          refine jr_iload_n 3 93 dX10_copy_92 rfl rfl rfl ?_
                          refine jr_iald rfl rfl (by omega) 94 dX10_copy_93 rfl ?_
                          rw [o4]
                          refine jr_icmp_gt 124 97 dX10_copy_94 rfl rfl (fun q => absurd q (nI_nlt (by omega) (by omega))) (fun q94 => ?_)
                          refine jr_iload 99 dX10_copy_97 rfl rfl ?_
                          refine jr_aload_n 0 100 dX10_copy_99 rfl rfl rfl ?_
                          refine gf_X10_43 103 dX10_copy_100 rfl rfl rfl rfl ?_
                          refine jr_iload_n 1 104 dX10_copy_103 rfl rfl rfl ?_
                          refine jr_iald rfl rfl (by omega) 105 dX10_copy_104 rfl ?_
                          rw [s4]
                          refine jr_iload_n 2 106 dX10_copy_105 rfl rfl rfl ?_
                          refine jr_isub 107 dX10_copy_106 rfl ?_
                          rw [sx]
                          refine jr_icmp_gt 124 110 dX10_copy_107 rfl rfl (fun q => absurd q (nI_nlt (by omega) (by omega))) (fun q107 => ?_)
                          refine jr_iload 112 dX10_copy_110 rfl rfl ?_
                          refine jr_aload_n 0 113 dX10_copy_112 rfl rfl rfl ?_
                          refine gf_X10_43 116 dX10_copy_113 rfl rfl rfl rfl ?_
                          refine jr_iload_n 3 117 dX10_copy_116 rfl rfl rfl ?_
                          refine jr_iald rfl rfl (by omega) 118 dX10_copy_117 rfl ?_
                          rw [o4]
                          refine jr_iload 120 dX10_copy_118 rfl rfl ?_
                          refine jr_isub 121 dX10_copy_120 rfl ?_
                          rw [sy]
                          refine jr_icmp_le 127 124 dX10_copy_121 rfl rfl (fun q => absurd q (nI_ge u2 (by omega))) (fun q121 => ?_)
                          refine jr_bipush ((-12)) 126 dX10_copy_124 rfl rfl ?_
                          refine jr_ireturn dX10_copy_126 rfl rfl ?_
                          exact ⟨rfl, IV_mov (iv_same_x (jr_eqx_rf [] _) (by decide)) h⟩
                        · refine jr_enter (L := [some (.ref 0), some (.int (nI s)), some (.int (nI x)), some (.int (nI o)), some (.int (nI y)), some (.int (nI u))]) (by decide) (Nat.le_of_ble_eq_true rfl) rfl ?_
                          refine jr_aload_n 0 1 dX9_copy_0 rfl rfl rfl ?_
                          refine gf_X9_57 4 dX9_copy_1 rfl rfl rfl rfl ?_
                          refine jr_iload_n 1 5 dX9_copy_4 rfl rfl rfl ?_
                          refine cs_X9_298 8 dX9_copy_5 rfl rfl rfl (Nat.le_of_ble_eq_true rfl) (wp_shasT hs ?_)
                          refine jr_if_eq 22 11 dX9_copy_8 rfl rfl (fun q => absurd q (by decide)) (fun q8 => ?_)
                          refine jr_aload_n 0 12 dX9_copy_11 rfl rfl rfl ?_
                          refine gf_X9_57 15 dX9_copy_12 rfl rfl rfl rfl ?_
                          refine jr_iload_n 3 16 dX9_copy_15 rfl rfl rfl ?_
                          refine cs_X9_298 19 dX9_copy_16 rfl rfl rfl (Nat.le_of_ble_eq_true rfl) (wp_shasT ho ?_)
                          refine jr_if_ne 25 22 dX9_copy_19 rfl rfl (fun q19 => ?_) (fun q => absurd q (by decide))
                          refine jr_aload_n 0 26 dX9_copy_25 rfl rfl rfl ?_
                          refine gf_X9_57 29 dX9_copy_26 rfl rfl rfl rfl ?_
                          refine jr_iload_n 1 30 dX9_copy_29 rfl rfl rfl ?_
                          refine cs_X9_312 33 dX9_copy_30 rfl rfl rfl (Nat.le_of_ble_eq_true rfl) (wp_isMissing hs (fun q => absurd (s1.symm.trans q) ms) (fun _ => ?_))
                          refine jr_if_ne 47 36 dX9_copy_33 rfl rfl (fun q => absurd (by decide) q) (fun q33 => ?_)
                          refine jr_aload_n 0 37 dX9_copy_36 rfl rfl rfl ?_
                          refine gf_X9_57 40 dX9_copy_37 rfl rfl rfl rfl ?_
                          refine jr_iload_n 3 41 dX9_copy_40 rfl rfl rfl ?_
                          refine cs_X9_312 44 dX9_copy_41 rfl rfl rfl (Nat.le_of_ble_eq_true rfl) (wp_isMissing ho (fun q => absurd (o1.symm.trans q) mo) (fun _ => ?_))
                          refine jr_if_eq 50 47 dX9_copy_44 rfl rfl (fun q44 => ?_) (fun q => absurd (by decide) q)
                          refine jr_aload_n 0 51 dX9_copy_50 rfl rfl rfl ?_
                          refine gf_X9_57 54 dX9_copy_51 rfl rfl rfl rfl ?_
                          refine gf_X9_318 57 dX9_copy_54 rfl rfl rfl rfl ?_
                          refine jr_iload_n 1 58 dX9_copy_57 rfl rfl rfl ?_
                          refine jr_iald rfl rfl (by omega) 59 dX9_copy_58 rfl ?_
                          refine jr_aload_n 0 60 dX9_copy_59 rfl rfl rfl ?_
                          refine gf_X9_57 63 dX9_copy_60 rfl rfl rfl rfl ?_
                          refine gf_X9_318 66 dX9_copy_63 rfl rfl rfl rfl ?_
                          refine jr_iload_n 3 67 dX9_copy_66 rfl rfl rfl ?_
                          refine jr_iald rfl rfl (by omega) 68 dX9_copy_67 rfl ?_
                          refine jr_icmp_eq 74 71 dX9_copy_68 rfl rfl (fun q68 => ?_) (fun q => absurd (s1.trans (el.trans o1.symm)) q)
                          refine jr_aload_n 0 75 dX9_copy_74 rfl rfl rfl ?_
                          refine gf_X9_57 78 dX9_copy_75 rfl rfl rfl rfl ?_
                          refine jr_iload_n 1 79 dX9_copy_78 rfl rfl rfl ?_
                          refine jr_iload_n 2 80 dX9_copy_79 rfl rfl rfl ?_
                          refine jr_iload 82 dX9_copy_80 rfl rfl ?_
                          refine cs_X9_315 85 dX9_copy_82 rfl rfl rfl (Nat.le_of_ble_eq_true rfl) (wp_holdsT (n := u) hs es hzs (by omega) ?_)
                          refine jr_if_eq 103 88 dX9_copy_85 rfl rfl (fun q => absurd q (by decide)) (fun q85 => ?_)
                          refine jr_aload_n 0 89 dX9_copy_88 rfl rfl rfl ?_
                          refine gf_X9_57 92 dX9_copy_89 rfl rfl rfl rfl ?_
                          refine jr_iload_n 3 93 dX9_copy_92 rfl rfl rfl ?_
                          refine jr_iload 95 dX9_copy_93 rfl rfl ?_
                          refine jr_iload 97 dX9_copy_95 rfl rfl ?_
                          refine cs_X9_315 100 dX9_copy_97 rfl rfl rfl (Nat.le_of_ble_eq_true rfl) (wp_holdsT (n := u) ho eo hzo (by omega) ?_)
                          refine jr_if_ne 106 103 dX9_copy_100 rfl rfl (fun q100 => ?_) (fun q => absurd q (by decide))
                          refine jr_aload_n 0 107 dX9_copy_106 rfl rfl rfl ?_
                          refine gf_X9_57 110 dX9_copy_107 rfl rfl rfl rfl ?_
                          refine jr_iload_n 1 111 dX9_copy_110 rfl rfl rfl ?_
                          refine jr_iload_n 2 112 dX9_copy_111 rfl rfl rfl ?_
                          refine jr_iload_n 3 113 dX9_copy_112 rfl rfl rfl ?_
                          refine jr_iload 115 dX9_copy_113 rfl rfl ?_
                          refine jr_iload 117 dX9_copy_115 rfl rfl ?_
                          refine cs_X9_321 120 dX9_copy_117 rfl rfl rfl (Nat.le_of_ble_eq_true rfl) (wp_carry (zs := zs) (zo := zo) hs ho es eo hzs hzo (by omega) (by omega) ?_)
                          refine jr_iload 122 dX9_copy_120 rfl rfl ?_
                          refine jr_ireturn dX9_copy_122 rfl rfl ?_
                          refine jr_enter (L := [some (.ref 46), some (.int (nI s)), some (.int (nI x)), some (.int (nI o)), some (.int (nI y)), some (.int (nI u)), none, none, none, none]) (by decide) (Nat.le_of_ble_eq_true rfl) rfl ?_
                          refine jr_iload_n 1 1 dX10_copy_0 rfl rfl rfl ?_
                          refine jr_iconst (nI 0) 2 dX10_copy_1 rfl rfl ?_
                          refine jr_iconst (nI 3) 3 dX10_copy_2 rfl rfl ?_
                          refine cs_X10_108 6 dX10_copy_3 rfl rfl (Nat.le_of_ble_eq_true rfl) (wp_inT (m := 3) (by omega) (by decide) rfl ?_)
                          refine jr_if_eq 18 9 dX10_copy_6 rfl rfl (fun q => absurd q (by decide)) (fun q6 => ?_)
                          refine jr_iload_n 3 10 dX10_copy_9 rfl rfl rfl ?_
                          refine jr_iconst (nI 0) 11 dX10_copy_10 rfl rfl ?_
                          refine jr_iconst (nI 3) 12 dX10_copy_11 rfl rfl ?_
                          refine cs_X10_108 15 dX10_copy_12 rfl rfl (Nat.le_of_ble_eq_true rfl) (wp_inT (m := 3) (by omega) (by decide) rfl ?_)
                          refine jr_if_ne 21 18 dX10_copy_15 rfl rfl (fun q15 => ?_) (fun q => absurd q (by decide))
                          refine jr_aload_n 0 22 dX10_copy_21 rfl rfl rfl ?_
                          refine gf_X10_40 25 dX10_copy_22 rfl rfl rfl rfl ?_
                          refine jr_iload_n 1 26 dX10_copy_25 rfl rfl rfl ?_
                          refine jr_iald rfl rfl (by omega) 27 dX10_copy_26 rfl ?_
                          refine jr_iconst ((-1)) 28 dX10_copy_27 rfl rfl ?_
                          refine jr_icmp_eq 41 31 dX10_copy_28 rfl rfl (fun q => absurd q ms) (fun q28 => ?_)
                          refine jr_aload_n 0 32 dX10_copy_31 rfl rfl rfl ?_
                          refine gf_X10_40 35 dX10_copy_32 rfl rfl rfl rfl ?_
                          refine jr_iload_n 3 36 dX10_copy_35 rfl rfl rfl ?_
                          refine jr_iald rfl rfl (by omega) 37 dX10_copy_36 rfl ?_
                          refine jr_iconst ((-1)) 38 dX10_copy_37 rfl rfl ?_
                          refine jr_icmp_ne 44 41 dX10_copy_38 rfl rfl (fun q38 => ?_) (fun q => absurd q mo)
                          refine jr_aload_n 0 45 dX10_copy_44 rfl rfl rfl ?_
                          refine gf_X10_40 48 dX10_copy_45 rfl rfl rfl rfl ?_
                          refine jr_iload_n 1 49 dX10_copy_48 rfl rfl rfl ?_
                          refine jr_iald rfl rfl (by omega) 50 dX10_copy_49 rfl ?_
                          refine jr_aload_n 0 51 dX10_copy_50 rfl rfl rfl ?_
                          refine gf_X10_40 54 dX10_copy_51 rfl rfl rfl rfl ?_
                          refine jr_iload_n 3 55 dX10_copy_54 rfl rfl rfl ?_
                          refine jr_iald rfl rfl (by omega) 56 dX10_copy_55 rfl ?_
                          refine jr_icmp_eq 62 59 dX10_copy_56 rfl rfl (fun q56 => ?_) (fun q => absurd el q)
                          refine jr_iload 64 dX10_copy_62 rfl rfl ?_
                          refine jr_if_lt 124 67 dX10_copy_64 rfl rfl (fun q => absurd q f0) (fun q64 => ?_)
                          refine jr_iload_n 2 68 dX10_copy_67 rfl rfl rfl ?_
                          refine jr_if_lt 124 71 dX10_copy_68 rfl rfl (fun q => absurd q b0) (fun q68 => ?_)
                          refine jr_iload 73 dX10_copy_71 rfl rfl ?_
                          refine jr_if_lt 124 76 dX10_copy_73 rfl rfl (fun q => absurd q e0) (fun q73 => ?_)
                          refine jr_iload_n 2 77 dX10_copy_76 rfl rfl rfl ?_
                          refine jr_aload_n 0 78 dX10_copy_77 rfl rfl rfl ?_
                          refine gf_X10_43 81 dX10_copy_78 rfl rfl rfl rfl ?_
                          refine jr_iload_n 1 82 dX10_copy_81 rfl rfl rfl ?_
                          refine jr_iald rfl rfl (by omega) 83 dX10_copy_82 rfl ?_
                          refine jr_topi (y := nI zs) s4 ?_
                          refine jr_icmp_gt 124 86 dX10_copy_83 rfl rfl (fun q => absurd q (nI_nlt (by omega) (by omega))) (fun q83 => ?_)
                          refine jr_iload 88 dX10_copy_86 rfl rfl ?_
                          refine jr_aload_n 0 89 dX10_copy_88 rfl rfl rfl ?_
                          refine gf_X10_43 92 dX10_copy_89 rfl rfl rfl rfl ?_
                          refine jr_iload_n 3 93 dX10_copy_92 rfl rfl rfl ?_
                          refine jr_iald rfl rfl (by omega) 94 dX10_copy_93 rfl ?_
                          refine jr_topi (y := nI zo) o4 ?_
                          refine jr_icmp_gt 124 97 dX10_copy_94 rfl rfl (fun q => absurd q (nI_nlt (by omega) (by omega))) (fun q94 => ?_)
                          refine jr_iload 99 dX10_copy_97 rfl rfl ?_
                          refine jr_aload_n 0 100 dX10_copy_99 rfl rfl rfl ?_
                          refine gf_X10_43 103 dX10_copy_100 rfl rfl rfl rfl ?_
                          refine jr_iload_n 1 104 dX10_copy_103 rfl rfl rfl ?_
                          refine jr_iald rfl rfl (by omega) 105 dX10_copy_104 rfl ?_
                          refine jr_topi (y := nI zs) s4 ?_
                          refine jr_iload_n 2 106 dX10_copy_105 rfl rfl rfl ?_
                          refine jr_isub 107 dX10_copy_106 rfl ?_
                          rw [sx]
                          refine jr_icmp_gt 124 110 dX10_copy_107 rfl rfl (fun q => absurd q (nI_nlt (by omega) (by omega))) (fun q107 => ?_)
                          refine jr_iload 112 dX10_copy_110 rfl rfl ?_
                          refine jr_aload_n 0 113 dX10_copy_112 rfl rfl rfl ?_
                          refine gf_X10_43 116 dX10_copy_113 rfl rfl rfl rfl ?_
                          refine jr_iload_n 3 117 dX10_copy_116 rfl rfl rfl ?_
                          refine jr_iald rfl rfl (by omega) 118 dX10_copy_117 rfl ?_
                          refine jr_topi (y := nI zo) o4 ?_
                          refine jr_iload 120 dX10_copy_118 rfl rfl ?_
                          refine jr_isub 121 dX10_copy_120 rfl ?_
                          rw [sy]
                          refine jr_icmp_le 127 124 dX10_copy_121 rfl rfl (fun q121 => ?_) (fun q => absurd (nI_le (by omega) (by omega)) q)
                          refine jr_bipush (nI 40) 129 dX10_copy_127 rfl rfl ?_
                          refine jr_iload_n 1 130 dX10_copy_129 rfl rfl rfl ?_
                          refine jr_imul 131 dX10_copy_130 rfl ?_
                          refine jr_iload_n 2 132 dX10_copy_131 rfl rfl rfl ?_
                          refine jr_iadd 133 dX10_copy_132 rfl ?_
                          rw [ix40' s x]
                          refine jr_istore (L' := [_, _, _, _, _, _, _, _, _, _]) 135 dX10_copy_133 rfl (by decide) rfl ?_
                          refine jr_bipush (nI 40) 137 dX10_copy_135 rfl rfl ?_
                          refine jr_iload_n 3 138 dX10_copy_137 rfl rfl rfl ?_
                          refine jr_imul 139 dX10_copy_138 rfl ?_
                          refine jr_iload 141 dX10_copy_139 rfl rfl ?_
                          refine jr_iadd 142 dX10_copy_141 rfl ?_
                          rw [ix40' o y]
                          refine jr_istore (L' := [_, _, _, _, _, _, _, _, _, _]) 144 dX10_copy_142 rfl (by decide) rfl ?_
                          refine jr_iconst (nI 0) 145 dX10_copy_144 rfl rfl ?_
                          refine jr_istore (L' := [_, _, _, _, _, _, _, _, _, _]) 147 dX10_copy_145 rfl (by decide) rfl ?_
                          by_cases dir : 40 * s + x < 40 * o + y
                          · refine copy_dn (A := 40 * s + x) (B := 40 * o + y) (by omega) (by omega) dir (fun σ2 r1 r2 => ?_) u 0 _ _ (Nat.zero_add _) (fun _ _ => rfl) (fun q => (if_neg (by omega)).symm)
                            refine ⟨rfl, T, n, nf, nc, kd, se, lw, tp, iv_shs h (fun a ha ha2 => ?_) (fun k hk => ?_) (sh_copy hsh hs ho s4 o4 hzs hzo (a := x) (b := y) (m := u) (by omega) (by omega) (fun a ha => ?_) ?_ (fun q => ?_))⟩
                            · simp only [List.mem_cons, not_or] at ha2
                              rw [r1 a (by omega)]
                              unfold jr_upc
                              rw [if_neg (by omega)]
                            · rw [r1 46 (by decide)]
                              rfl
                            · rw [r1 a (by rintro rfl; exact absurd ha (by decide))]
                              unfold jr_upc
                              rw [if_neg (by rintro rfl; exact absurd ha (by decide))]
                            · rw [r1 45 (by decide)]
                              rfl
                            · rw [r2 q]
                              rfl
                          · refine copy_up (A := 40 * s + x) (B := 40 * o + y) (by omega) (by omega) dir (fun σ2 r1 r2 => ?_) u 0 _ _ (Nat.zero_add _) (fun _ _ => rfl) (fun q => (if_neg (by omega)).symm)
                            refine ⟨rfl, T, n, nf, nc, kd, se, lw, tp, iv_shs h (fun a ha ha2 => ?_) (fun k hk => ?_) (sh_copy hsh hs ho s4 o4 hzs hzo (a := x) (b := y) (m := u) (by omega) (by omega) (fun a ha => ?_) ?_ (fun q => ?_))⟩
                            · simp only [List.mem_cons, not_or] at ha2
                              rw [r1 a (by omega)]
                              unfold jr_upc
                              rw [if_neg (by omega)]
                            · rw [r1 46 (by decide)]
                              rfl
                            · rw [r1 a (by rintro rfl; exact absurd ha (by decide))]
                              unfold jr_upc
                              rw [if_neg (by rintro rfl; exact absurd ha (by decide))]
                            · rw [r1 45 (by decide)]
                              rfl
                            · rw [r2 q]
                              rfl
          · refine jr_enter (L := [some (.ref 0), some (.int (nI s)), some (.int b), some (.int (nI o)), some (.int e), some (.int f)]) (by decide) (Nat.le_of_ble_eq_true rfl) rfl ?_
            refine jr_aload_n 0 1 dX9_copy_0 rfl rfl rfl ?_
            refine gf_X9_57 4 dX9_copy_1 rfl rfl rfl rfl ?_
            refine jr_iload_n 1 5 dX9_copy_4 rfl rfl rfl ?_
            refine cs_X9_298 8 dX9_copy_5 rfl rfl rfl (Nat.le_of_ble_eq_true rfl) (wp_shasT hs ?_)
            refine jr_if_eq 22 11 dX9_copy_8 rfl rfl (fun q => absurd q (by decide)) (fun q8 => ?_)
            refine jr_aload_n 0 12 dX9_copy_11 rfl rfl rfl ?_
            refine gf_X9_57 15 dX9_copy_12 rfl rfl rfl rfl ?_
            refine jr_iload_n 3 16 dX9_copy_15 rfl rfl rfl ?_
            refine cs_X9_298 19 dX9_copy_16 rfl rfl rfl (Nat.le_of_ble_eq_true rfl) (wp_shasT ho ?_)
            refine jr_if_ne 25 22 dX9_copy_19 rfl rfl (fun q19 => ?_) (fun q => absurd q (by decide))
            refine jr_aload_n 0 26 dX9_copy_25 rfl rfl rfl ?_
            refine gf_X9_57 29 dX9_copy_26 rfl rfl rfl rfl ?_
            refine jr_iload_n 1 30 dX9_copy_29 rfl rfl rfl ?_
            refine cs_X9_312 33 dX9_copy_30 rfl rfl rfl (Nat.le_of_ble_eq_true rfl) (wp_isMissing hs (fun q => absurd (s1.symm.trans q) ms) (fun _ => ?_))
            refine jr_if_ne 47 36 dX9_copy_33 rfl rfl (fun q => absurd (by decide) q) (fun q33 => ?_)
            refine jr_aload_n 0 37 dX9_copy_36 rfl rfl rfl ?_
            refine gf_X9_57 40 dX9_copy_37 rfl rfl rfl rfl ?_
            refine jr_iload_n 3 41 dX9_copy_40 rfl rfl rfl ?_
            refine cs_X9_312 44 dX9_copy_41 rfl rfl rfl (Nat.le_of_ble_eq_true rfl) (wp_isMissing ho (fun q => absurd (o1.symm.trans q) mo) (fun _ => ?_))
            refine jr_if_eq 50 47 dX9_copy_44 rfl rfl (fun q44 => ?_) (fun q => absurd (by decide) q)
            refine jr_aload_n 0 51 dX9_copy_50 rfl rfl rfl ?_
            refine gf_X9_57 54 dX9_copy_51 rfl rfl rfl rfl ?_
            refine gf_X9_318 57 dX9_copy_54 rfl rfl rfl rfl ?_
            refine jr_iload_n 1 58 dX9_copy_57 rfl rfl rfl ?_
            refine jr_iald rfl rfl (by omega) 59 dX9_copy_58 rfl ?_
            refine jr_aload_n 0 60 dX9_copy_59 rfl rfl rfl ?_
            refine gf_X9_57 63 dX9_copy_60 rfl rfl rfl rfl ?_
            refine gf_X9_318 66 dX9_copy_63 rfl rfl rfl rfl ?_
            refine jr_iload_n 3 67 dX9_copy_66 rfl rfl rfl ?_
            refine jr_iald rfl rfl (by omega) 68 dX9_copy_67 rfl ?_
            refine jr_icmp_eq 74 71 dX9_copy_68 rfl rfl (fun q => absurd (s1.symm.trans (q.trans o1)) el) (fun q68 => ?_)
            refine jr_bipush ((-13)) 73 dX9_copy_71 rfl rfl ?_
            refine jr_ireturn dX9_copy_73 rfl rfl ?_
            refine jr_enter (L := [some (.ref 46), some (.int (nI s)), some (.int b), some (.int (nI o)), some (.int e), some (.int f), none, none, none, none]) (by decide) (Nat.le_of_ble_eq_true rfl) rfl ?_
            refine jr_iload_n 1 1 dX10_copy_0 rfl rfl rfl ?_
            refine jr_iconst (0) 2 dX10_copy_1 rfl rfl ?_
            refine jr_iconst (3) 3 dX10_copy_2 rfl rfl ?_
            refine cs_X10_108 6 dX10_copy_3 rfl rfl (Nat.le_of_ble_eq_true rfl) (wp_inT (m := 3) (by omega) (by decide) rfl ?_)
            refine jr_if_eq 18 9 dX10_copy_6 rfl rfl (fun q => absurd q (by decide)) (fun q6 => ?_)
            refine jr_iload_n 3 10 dX10_copy_9 rfl rfl rfl ?_
            refine jr_iconst (0) 11 dX10_copy_10 rfl rfl ?_
            refine jr_iconst (3) 12 dX10_copy_11 rfl rfl ?_
            refine cs_X10_108 15 dX10_copy_12 rfl rfl (Nat.le_of_ble_eq_true rfl) (wp_inT (m := 3) (by omega) (by decide) rfl ?_)
            refine jr_if_ne 21 18 dX10_copy_15 rfl rfl (fun q15 => ?_) (fun q => absurd q (by decide))
            refine jr_aload_n 0 22 dX10_copy_21 rfl rfl rfl ?_
            refine gf_X10_40 25 dX10_copy_22 rfl rfl rfl rfl ?_
            refine jr_iload_n 1 26 dX10_copy_25 rfl rfl rfl ?_
            refine jr_iald rfl rfl (by omega) 27 dX10_copy_26 rfl ?_
            refine jr_iconst ((-1)) 28 dX10_copy_27 rfl rfl ?_
            refine jr_icmp_eq 41 31 dX10_copy_28 rfl rfl (fun q => absurd q ms) (fun q28 => ?_)
            refine jr_aload_n 0 32 dX10_copy_31 rfl rfl rfl ?_
            refine gf_X10_40 35 dX10_copy_32 rfl rfl rfl rfl ?_
            refine jr_iload_n 3 36 dX10_copy_35 rfl rfl rfl ?_
            refine jr_iald rfl rfl (by omega) 37 dX10_copy_36 rfl ?_
            refine jr_iconst ((-1)) 38 dX10_copy_37 rfl rfl ?_
            refine jr_icmp_ne 44 41 dX10_copy_38 rfl rfl (fun q38 => ?_) (fun q => absurd q mo)
            refine jr_aload_n 0 45 dX10_copy_44 rfl rfl rfl ?_
            refine gf_X10_40 48 dX10_copy_45 rfl rfl rfl rfl ?_
            refine jr_iload_n 1 49 dX10_copy_48 rfl rfl rfl ?_
            refine jr_iald rfl rfl (by omega) 50 dX10_copy_49 rfl ?_
            refine jr_aload_n 0 51 dX10_copy_50 rfl rfl rfl ?_
            refine gf_X10_40 54 dX10_copy_51 rfl rfl rfl rfl ?_
            refine jr_iload_n 3 55 dX10_copy_54 rfl rfl rfl ?_
            refine jr_iald rfl rfl (by omega) 56 dX10_copy_55 rfl ?_
            refine jr_icmp_eq 62 59 dX10_copy_56 rfl rfl (fun q => absurd q el) (fun q56 => ?_)
            refine jr_bipush ((-13)) 61 dX10_copy_59 rfl rfl ?_
            refine jr_ireturn dX10_copy_61 rfl rfl ?_
            exact ⟨rfl, IV_mov (iv_same_x (jr_eqx_rf [] _) (by decide)) h⟩
    · refine jr_enter (L := [some (.ref 0), some (.int (nI s)), some (.int b), some (.int c), some (.int e), some (.int f)]) (by decide) (Nat.le_of_ble_eq_true rfl) rfl ?_
      refine jr_aload_n 0 1 dX9_copy_0 rfl rfl rfl ?_
      refine gf_X9_57 4 dX9_copy_1 rfl rfl rfl rfl ?_
      refine jr_iload_n 1 5 dX9_copy_4 rfl rfl rfl ?_
      refine cs_X9_298 8 dX9_copy_5 rfl rfl rfl (Nat.le_of_ble_eq_true rfl) (wp_shasT hs ?_)
      refine jr_if_eq 22 11 dX9_copy_8 rfl rfl (fun q => absurd q (by decide)) (fun q8 => ?_)
      refine jr_aload_n 0 12 dX9_copy_11 rfl rfl rfl ?_
      refine gf_X9_57 15 dX9_copy_12 rfl rfl rfl rfl ?_
      refine jr_iload_n 3 16 dX9_copy_15 rfl rfl rfl ?_
      refine cs_X9_298 19 dX9_copy_16 rfl rfl rfl (Nat.le_of_ble_eq_true rfl) (wp_shasF hc ?_)
      refine jr_if_ne 25 22 dX9_copy_19 rfl rfl (fun q => absurd (by decide) q) (fun q19 => ?_)
      refine jr_bipush ((-2)) 24 dX9_copy_22 rfl rfl ?_
      refine jr_ireturn dX9_copy_24 rfl rfl ?_
      refine jr_enter (L := [some (.ref 46), some (.int (nI s)), some (.int b), some (.int c), some (.int e), some (.int f), none, none, none, none]) (by decide) (Nat.le_of_ble_eq_true rfl) rfl ?_
      refine jr_iload_n 1 1 dX10_copy_0 rfl rfl rfl ?_
      refine jr_iconst (0) 2 dX10_copy_1 rfl rfl ?_
      refine jr_iconst (3) 3 dX10_copy_2 rfl rfl ?_
      refine cs_X10_108 6 dX10_copy_3 rfl rfl (Nat.le_of_ble_eq_true rfl) (wp_inT (m := 3) (by omega) (by decide) rfl ?_)
      refine jr_if_eq 18 9 dX10_copy_6 rfl rfl (fun q => absurd q (by decide)) (fun q6 => ?_)
      refine jr_iload_n 3 10 dX10_copy_9 rfl rfl rfl ?_
      refine jr_iconst (0) 11 dX10_copy_10 rfl rfl ?_
      refine jr_iconst (3) 12 dX10_copy_11 rfl rfl ?_
      refine cs_X10_108 15 dX10_copy_12 rfl rfl (Nat.le_of_ble_eq_true rfl) (wp_inF hc ?_)
      refine jr_if_ne 21 18 dX10_copy_15 rfl rfl (fun q => absurd (by decide) q) (fun q15 => ?_)
      refine jr_bipush ((-2)) 20 dX10_copy_18 rfl rfl ?_
      refine jr_ireturn dX10_copy_20 rfl rfl ?_
      exact ⟨rfl, IV_mov (iv_same_x (jr_eqx_rf [] _) (by decide)) h⟩
  · refine jr_enter (L := [some (.ref 0), some (.int a), some (.int b), some (.int c), some (.int e), some (.int f)]) (by decide) (Nat.le_of_ble_eq_true rfl) rfl ?_
    refine jr_aload_n 0 1 dX9_copy_0 rfl rfl rfl ?_
    refine gf_X9_57 4 dX9_copy_1 rfl rfl rfl rfl ?_
    refine jr_iload_n 1 5 dX9_copy_4 rfl rfl rfl ?_
    refine cs_X9_298 8 dX9_copy_5 rfl rfl rfl (Nat.le_of_ble_eq_true rfl) (wp_shasF ha ?_)
    refine jr_if_eq 22 11 dX9_copy_8 rfl rfl (fun q8 => ?_) (fun q => absurd (by decide) q)
    refine jr_bipush ((-2)) 24 dX9_copy_22 rfl rfl ?_
    refine jr_ireturn dX9_copy_24 rfl rfl ?_
    refine jr_enter (L := [some (.ref 46), some (.int a), some (.int b), some (.int c), some (.int e), some (.int f), none, none, none, none]) (by decide) (Nat.le_of_ble_eq_true rfl) rfl ?_
    refine jr_iload_n 1 1 dX10_copy_0 rfl rfl rfl ?_
    refine jr_iconst (0) 2 dX10_copy_1 rfl rfl ?_
    refine jr_iconst (3) 3 dX10_copy_2 rfl rfl ?_
    refine cs_X10_108 6 dX10_copy_3 rfl rfl (Nat.le_of_ble_eq_true rfl) (wp_inF ha ?_)
    refine jr_if_eq 18 9 dX10_copy_6 rfl rfl (fun q6 => ?_) (fun q => absurd (by decide) q)
    refine jr_bipush ((-2)) 20 dX10_copy_18 rfl rfl ?_
    refine jr_ireturn dX10_copy_20 rfl rfl ?_
    exact ⟨rfl, IV_mov (iv_same_x (jr_eqx_rf [] _) (by decide)) h⟩

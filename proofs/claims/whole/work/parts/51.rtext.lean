theorem au_f_go {b : Nat → Nat} {tp N p m : Nat} {H O : List Nat} {S' : au_S} {R : au_R} (h : au_st b tp p m H O = .inl S') (g : au_f b tp (N + 1) (p, (m, (H, O))) = some R) : au_f b tp N S' = some R := by
  have g2 : (match au_st b tp p m H O with
    | .inl S' => au_f b tp N S'
    | .inr R => some R) = some R := g
  rw [h] at g2
  exact g2
theorem au_f_end {b : Nat → Nat} {tp N p m : Nat} {H O : List Nat} {R R' : au_R} (h : au_st b tp p m H O = .inr R') (g : au_f b tp (N + 1) (p, (m, (H, O))) = some R) : R = R' := by
  have g2 : (match au_st b tp p m H O with
    | .inl S' => au_f b tp N S'
    | .inr R => some R) = some R := g
  rw [h] at g2
  exact (Option.some.inj g2).symm
theorem au_uw_op (r : Nat) : ∀ (H O : List Nat), au_op (au_uw r H O).1 ≤ au_op H
  | [], _ => Nat.le_refl _
  | s :: H, O => by
    by_cases z : r ≤ au_rk s
    · rw [au_uw_c z]
      have := au_uw_op r H (O ++ [s])
      rw [au_op]
      omega
    · rw [au_uw, if_neg z]
      exact Nat.le_refl _
theorem rS_fr {b : Nat → Nat} {tp n : Nat} {σ0 σ σ' : jr_Sg} {H O : List Nat} (h : rS b tp n σ0 σ H O) (hq : fr46 [23, 24, 25, 26] σ σ') : rS b tp n σ0 σ' H O :=
  ⟨rQ_fr h.1 hq (by decide), (hq.2 29 (by decide)).trans h.2.1, (hq.2 30 (by decide)).trans h.2.2.1, by rw [hq.1 62 (by decide)]; exact h.2.2.2⟩
theorem rS_put {b : Nat → Nat} {tp n o : Nat} {σ0 σ : jr_Sg} {H O : List Nat} (h : rS b tp n σ0 σ H O) : rS b tp n σ0 (jr_up (jr_up σ 54 (200 * n + O.length) (nI o)) 46 31 (nI (O.length + 1))) H (O ++ [o]) :=
  ⟨rQ_put h.1, (up46 (by decide)).trans h.2.1, (up46 (by decide)).trans h.2.2.1, h.2.2.2⟩
theorem rtk_tab : ∀ x : Fin 25, (1 ≤ x.val → x.val ≤ 6 → rtk x.val = 2) ∧ (x.val ≠ 19 → rtk x.val ≠ 1) ∧ (6 < x.val → x.val ≠ 18 → rtk x.val ≠ 2) ∧ (x.val ≠ 9 → rtk x.val ≠ 6) ∧ (x.val ≠ 16 → rtk x.val ≠ 45) ∧ (x.val ≠ 20 → rtk x.val ≠ 40) ∧ (x.val ≠ 22 → rtk x.val ≠ 59) ∧ (x.val ≠ 21 → rtk x.val ≠ 41) ∧ (¬ (10 ≤ x.val ∧ x.val ≤ 12) → rtk x.val ≠ 3) ∧ (10 ≤ x.val → x.val ≤ 12 → rtk x.val = 3) ∧ (x.val ≠ 23 → 1 ≤ x.val → rtk x.val ≠ 0) := by decide +kernel
def erM (m : Nat) (wv mv : Int32) : Prop := (m = 2 ∧ wv = 0) ∨ (m = 1 ∧ wv = 1 ∧ mv = 1) ∨ (m = 0 ∧ wv = 1 ∧ mv = 0)
theorem er_loop {G : jr_G} {d : Nat} {k : Value → jr_Sg → Prop} {b : Nat → Nat} {tp n : Nat} {σ0 : jr_Sg} {R : au_R}
  (finF : ∀ σ' q O', R = .inl q → rQ b tp n σ0 σ' O' → O'.length ≤ 160 → σ' 46 24 = nI q → k (.int 0) σ')
  (finO : ∀ σ' p' O', R = .inr (p', O') → rQ b tp n σ0 σ' O' → σ' 46 23 = nI p' → k (.int 1) σ') :
  ∀ (N p m : Nat) (H O : List Nat) (σ : jr_Sg) (wv mv : Int32) (x3 : Option Value), au_f b tp N (p, (m, (H, O))) = some R → erM m wv mv → rS b tp n σ0 σ H O → σ 46 23 = nI p → p ≤ tp → O.length + H.length ≤ p → au_op H ≤ 5 → jr_R G (d + 4) mi_X10_eRead (jr_k k) 14 [some (.ref 46), some (.int wv), some (.int mv), x3] [] σ := by
  intro N
  induction N with
  | zero =>
    intro p m H O σ wv mv x3 h
    cases h
  | succ N ih =>
    intro p m H O σ wv mv x3 h hm hS h23 hp hl hop
    have h160 := hS.1.2.2.2.1.2.1
    have hT := lx_t_le b tp p
    have hn := lx_n_le (b := b) hp
    have hgt : lx_t b tp p ≠ 23 → p + 1 ≤ lx_n b tp p := lx_n_gt
    obtain ⟨r2, r1, r2', r6, r45, r40, r59, r41, -⟩ := rtk_tab ⟨lx_t b tp p, by omega⟩
    simp only at r2 r1 r2' r6 r45 r40 r59 r41
    refine jr_aload_n 0 15 dX10_eRead_14 rfl rfl rfl ?_
    refine cs_X10_164 18 dX10_eRead_15 rfl rfl rfl (Nat.le_of_ble_eq_true rfl) (wp_next hS.1.2.2.2.1 hp h23 (fun σ1 f1 l1 => ?_))
    have hS1 := rS_fr hS f1
    obtain ⟨lt, l19, l6, -, lb, ln⟩ := l1
    have wants : m ≠ 2 → wv = 1 → ((m = 1 ∧ mv = 1) ∨ (m = 0 ∧ mv = 0)) → jr_R G (d + 4) mi_X10_eRead (jr_k k) 18 [some (.ref 46), some (.int wv), some (.int mv), x3] [] σ1 := by
      intro m2 ew hmv
      subst ew
      by_cases t19 : lx_t b tp p = 19
      · refine jr_iload_n 1 19 dX10_eRead_18 rfl rfl rfl ?_
        refine jr_if_eq 150 22 dX10_eRead_19 rfl rfl (fun q => absurd q (by decide)) (fun q19 => ?_)
        refine jr_aload_n 0 23 dX10_eRead_22 rfl rfl rfl ?_
        refine gf_X10_131 26 dX10_eRead_23 rfl rfl rfl rfl ?_
        refine jr_topi (y := (1 : Int32)) (lt.trans (by rw [t19]; rfl)) ?_
        refine jr_iconst (nI 1) 27 dX10_eRead_26 rfl rfl ?_
        refine jr_icmp_eq 38 30 dX10_eRead_27 rfl rfl (fun q27 => ?_) (fun q => absurd (by decide) q)
        refine jr_aload_n 0 39 dX10_eRead_38 rfl rfl rfl ?_
        refine jr_aload_n 0 40 dX10_eRead_39 rfl rfl rfl ?_
        refine gf_X10_131 43 dX10_eRead_40 rfl rfl rfl rfl ?_
        refine jr_topi (y := (1 : Int32)) (lt.trans (by rw [t19]; rfl)) ?_
        refine jr_iconst (nI 1) 44 dX10_eRead_43 rfl rfl ?_
        refine jr_icmp_ne 57 47 dX10_eRead_44 rfl rfl (fun q => absurd (by decide) q) (fun q44 => ?_)
        refine jr_ldc kc_X10_167 49 dX10_eRead_47 rfl ?_
        refine jr_aload_n 0 50 dX10_eRead_49 rfl rfl rfl ?_
        refine gf_X10_134 53 dX10_eRead_50 rfl rfl rfl rfl ?_
        refine jr_topi (y := nI (lx_v b tp p)) (l19 t19) ?_
        refine jr_iadd 54 dX10_eRead_53 rfl ?_
        refine jr_topi (y := nI (100000 + lx_v b tp p)) ((congrArg (fun z => z + nI (lx_v b tp p)) (show (100000 : Int32) = nI 100000 from rfl)).trans (nI_add _ _)) ?_
        refine jr_goto 61 dX10_eRead_54 rfl ?_
        refine cs_X10_154 64 dX10_eRead_61 rfl rfl rfl (Nat.le_of_ble_eq_true rfl) (wp_puts hS1.1 (by omega) ?_)
        refine jr_aload_n 0 65 dX10_eRead_64 rfl rfl rfl ?_
        refine jr_bipush (nI 7) 67 dX10_eRead_65 rfl rfl ?_
        refine cs_X10_161 70 dX10_eRead_67 rfl rfl rfl (Nat.le_of_ble_eq_true rfl) (wp_unwinds (by decide) (by decide) (rS_put hS1) (by have := hgt (by omega); rw [List.length_append]; show O.length + 1 + H.length ≤ 160; omega) (fun σ2 hS2 k2 => ?_))
        refine jr_iconst (0) 71 dX10_eRead_70 rfl rfl ?_
        refine jr_istore_n 1 (L' := [_, _, _, _]) 72 dX10_eRead_71 rfl rfl (by decide) rfl ?_
        refine jr_goto 14 dX10_eRead_72 rfl ?_
        exact ih (lx_n b tp p) 2 _ _ σ2 0 _ _ (au_f_go (st_num m2 t19) h) (Or.inl ⟨rfl, rfl⟩) hS2 (k2.1.trans ln) hn (by rw [au_uw_len, List.length_append]; have := hgt (by omega); show O.length + 1 + H.length ≤ _; omega) (Nat.le_trans (au_uw_op _ _ _) hop)
      by_cases t6 : lx_t b tp p ≤ 6
      · refine jr_iload_n 1 19 dX10_eRead_18 rfl rfl rfl ?_
        refine jr_if_eq 150 22 dX10_eRead_19 rfl rfl (fun q => absurd q (by decide)) (fun q19 => ?_)
        refine jr_aload_n 0 23 dX10_eRead_22 rfl rfl rfl ?_
        refine gf_X10_131 26 dX10_eRead_23 rfl rfl rfl rfl ?_
        refine jr_topi (y := (2 : Int32)) (lt.trans (r2 hT.1 t6)) ?_
        refine jr_iconst (nI 1) 27 dX10_eRead_26 rfl rfl ?_
        refine jr_icmp_eq 38 30 dX10_eRead_27 rfl rfl (fun q => absurd q (by decide)) (fun q27 => ?_)
        refine jr_aload_n 0 31 dX10_eRead_30 rfl rfl rfl ?_
        refine gf_X10_131 34 dX10_eRead_31 rfl rfl rfl rfl ?_
        refine jr_topi (y := (2 : Int32)) (lt.trans (r2 hT.1 t6)) ?_
        refine jr_iconst (nI 2) 35 dX10_eRead_34 rfl rfl ?_
        refine jr_icmp_ne 75 38 dX10_eRead_35 rfl rfl (fun q => absurd (by decide) q) (fun q35 => ?_)
        refine jr_aload_n 0 39 dX10_eRead_38 rfl rfl rfl ?_
        refine jr_aload_n 0 40 dX10_eRead_39 rfl rfl rfl ?_
        refine gf_X10_131 43 dX10_eRead_40 rfl rfl rfl rfl ?_
        refine jr_topi (y := (2 : Int32)) (lt.trans (r2 hT.1 t6)) ?_
        refine jr_iconst (nI 1) 44 dX10_eRead_43 rfl rfl ?_
        refine jr_icmp_ne 57 47 dX10_eRead_44 rfl rfl (fun q44 => ?_) (fun q => absurd q (by decide))
        refine jr_aload_n 0 58 dX10_eRead_57 rfl rfl rfl ?_
        refine gf_X10_134 61 dX10_eRead_58 rfl rfl rfl rfl ?_
        refine jr_topi (y := nI (lx_t b tp p - 1)) (l6 t6) ?_
        refine cs_X10_154 64 dX10_eRead_61 rfl rfl rfl (Nat.le_of_ble_eq_true rfl) (wp_puts hS1.1 (by omega) ?_)
        refine jr_aload_n 0 65 dX10_eRead_64 rfl rfl rfl ?_
        refine jr_bipush (nI 7) 67 dX10_eRead_65 rfl rfl ?_
        refine cs_X10_161 70 dX10_eRead_67 rfl rfl rfl (Nat.le_of_ble_eq_true rfl) (wp_unwinds (by decide) (by decide) (rS_put hS1) (by have := hgt (by omega); rw [List.length_append]; show O.length + 1 + H.length ≤ 160; omega) (fun σ2 hS2 k2 => ?_))
        refine jr_iconst (0) 71 dX10_eRead_70 rfl rfl ?_
        refine jr_istore_n 1 (L' := [_, _, _, _]) 72 dX10_eRead_71 rfl rfl (by decide) rfl ?_
        refine jr_goto 14 dX10_eRead_72 rfl ?_
        exact ih (lx_n b tp p) 2 _ _ σ2 0 _ _ (au_f_go (st_nam m2 t6) h) (Or.inl ⟨rfl, rfl⟩) hS2 (k2.1.trans ln) hn (by rw [au_uw_len, List.length_append]; have := hgt (by omega); show O.length + 1 + H.length ≤ _; omega) (Nat.le_trans (au_uw_op _ _ _) hop)
      by_cases t9 : lx_t b tp p = 9
      · rcases hmv with ⟨m1, rfl⟩ | ⟨m0, rfl⟩
        · by_cases o5 : au_op H = 5
          · refine jr_iload_n 1 19 dX10_eRead_18 rfl rfl rfl ?_
            refine jr_if_eq 150 22 dX10_eRead_19 rfl rfl (fun q => absurd q (by decide)) (fun q19 => ?_)
            refine jr_aload_n 0 23 dX10_eRead_22 rfl rfl rfl ?_
            refine gf_X10_131 26 dX10_eRead_23 rfl rfl rfl rfl ?_
            refine jr_topi (y := (6 : Int32)) (lt.trans (by rw [t9]; rfl)) ?_
            refine jr_iconst (nI 1) 27 dX10_eRead_26 rfl rfl ?_
            refine jr_icmp_eq 38 30 dX10_eRead_27 rfl rfl (fun q => absurd q (by decide)) (fun q27 => ?_)
            refine jr_aload_n 0 31 dX10_eRead_30 rfl rfl rfl ?_
            refine gf_X10_131 34 dX10_eRead_31 rfl rfl rfl rfl ?_
            refine jr_topi (y := (6 : Int32)) (lt.trans (by rw [t9]; rfl)) ?_
            refine jr_iconst (nI 2) 35 dX10_eRead_34 rfl rfl ?_
            refine jr_icmp_ne 75 38 dX10_eRead_35 rfl rfl (fun q35 => ?_) (fun q => absurd q (by decide))
            refine jr_aload_n 0 76 dX10_eRead_75 rfl rfl rfl ?_
            refine gf_X10_131 79 dX10_eRead_76 rfl rfl rfl rfl ?_
            refine jr_topi (y := (6 : Int32)) (lt.trans (by rw [t9]; rfl)) ?_
            refine jr_bipush (nI 6) 81 dX10_eRead_79 rfl rfl ?_
            refine jr_icmp_ne 99 84 dX10_eRead_81 rfl rfl (fun q => absurd (by decide) q) (fun q81 => ?_)
            refine jr_iload_n 2 85 dX10_eRead_84 rfl rfl rfl ?_
            refine jr_if_eq 99 88 dX10_eRead_85 rfl rfl (fun q => absurd q (by decide)) (fun q85 => ?_)
            refine jr_aload_n 0 89 dX10_eRead_88 rfl rfl rfl ?_
            refine jr_bipush (nI 13) 91 dX10_eRead_89 rfl rfl ?_
            refine cs_X10_168 94 dX10_eRead_91 rfl rfl rfl (Nat.le_of_ble_eq_true rfl) (wp_opens5 hS1 o5 ?_)
            refine jr_if_ne 14 97 dX10_eRead_94 rfl rfl (fun q => absurd (by decide) q) (fun q94 => ?_)
            refine jr_iconst (0) 98 dX10_eRead_97 rfl rfl ?_
            refine jr_ireturn dX10_eRead_98 rfl rfl ?_
            exact finF σ1 _ O (au_f_end (st_not5 m1 t9 o5) h) hS1.1 (by omega) lb
          · refine jr_iload_n 1 19 dX10_eRead_18 rfl rfl rfl ?_
            refine jr_if_eq 150 22 dX10_eRead_19 rfl rfl (fun q => absurd q (by decide)) (fun q19 => ?_)
            refine jr_aload_n 0 23 dX10_eRead_22 rfl rfl rfl ?_
            refine gf_X10_131 26 dX10_eRead_23 rfl rfl rfl rfl ?_
            refine jr_topi (y := (6 : Int32)) (lt.trans (by rw [t9]; rfl)) ?_
            refine jr_iconst (nI 1) 27 dX10_eRead_26 rfl rfl ?_
            refine jr_icmp_eq 38 30 dX10_eRead_27 rfl rfl (fun q => absurd q (by decide)) (fun q27 => ?_)
            refine jr_aload_n 0 31 dX10_eRead_30 rfl rfl rfl ?_
            refine gf_X10_131 34 dX10_eRead_31 rfl rfl rfl rfl ?_
            refine jr_topi (y := (6 : Int32)) (lt.trans (by rw [t9]; rfl)) ?_
            refine jr_iconst (nI 2) 35 dX10_eRead_34 rfl rfl ?_
            refine jr_icmp_ne 75 38 dX10_eRead_35 rfl rfl (fun q35 => ?_) (fun q => absurd q (by decide))
            refine jr_aload_n 0 76 dX10_eRead_75 rfl rfl rfl ?_
            refine gf_X10_131 79 dX10_eRead_76 rfl rfl rfl rfl ?_
            refine jr_topi (y := (6 : Int32)) (lt.trans (by rw [t9]; rfl)) ?_
            refine jr_bipush (nI 6) 81 dX10_eRead_79 rfl rfl ?_
            refine jr_icmp_ne 99 84 dX10_eRead_81 rfl rfl (fun q => absurd (by decide) q) (fun q81 => ?_)
            refine jr_iload_n 2 85 dX10_eRead_84 rfl rfl rfl ?_
            refine jr_if_eq 99 88 dX10_eRead_85 rfl rfl (fun q => absurd q (by decide)) (fun q85 => ?_)
            refine jr_aload_n 0 89 dX10_eRead_88 rfl rfl rfl ?_
            refine jr_bipush (nI 13) 91 dX10_eRead_89 rfl rfl ?_
            refine cs_X10_168 94 dX10_eRead_91 rfl rfl rfl (Nat.le_of_ble_eq_true rfl) (wp_opens hS1 o5 hop (by omega) (by omega) (fun σ2 hS2 k2 => ?_))
            refine jr_if_ne 14 97 dX10_eRead_94 rfl rfl (fun q94 => ?_) (fun q => absurd q (by decide))
            exact ih (lx_n b tp p) 1 (13 :: H) O σ2 1 1 _ (au_f_go (st_not m1 t9 o5) h) (Or.inr (Or.inl ⟨rfl, rfl, rfl⟩)) hS2 (k2.1.trans ln) hn (by have := hgt (by omega); show O.length + (H.length + 1) ≤ _; omega) (by rw [au_op_c13]; omega)
        · refine jr_iload_n 1 19 dX10_eRead_18 rfl rfl rfl ?_
          refine jr_if_eq 150 22 dX10_eRead_19 rfl rfl (fun q => absurd q (by decide)) (fun q19 => ?_)
          refine jr_aload_n 0 23 dX10_eRead_22 rfl rfl rfl ?_
          refine gf_X10_131 26 dX10_eRead_23 rfl rfl rfl rfl ?_
          refine jr_topi (y := (6 : Int32)) (lt.trans (by rw [t9]; rfl)) ?_
          refine jr_iconst (nI 1) 27 dX10_eRead_26 rfl rfl ?_
          refine jr_icmp_eq 38 30 dX10_eRead_27 rfl rfl (fun q => absurd q (by decide)) (fun q27 => ?_)
          refine jr_aload_n 0 31 dX10_eRead_30 rfl rfl rfl ?_
          refine gf_X10_131 34 dX10_eRead_31 rfl rfl rfl rfl ?_
          refine jr_topi (y := (6 : Int32)) (lt.trans (by rw [t9]; rfl)) ?_
          refine jr_iconst (nI 2) 35 dX10_eRead_34 rfl rfl ?_
          refine jr_icmp_ne 75 38 dX10_eRead_35 rfl rfl (fun q35 => ?_) (fun q => absurd q (by decide))
          refine jr_aload_n 0 76 dX10_eRead_75 rfl rfl rfl ?_
          refine gf_X10_131 79 dX10_eRead_76 rfl rfl rfl rfl ?_
          refine jr_topi (y := (6 : Int32)) (lt.trans (by rw [t9]; rfl)) ?_
          refine jr_bipush (nI 6) 81 dX10_eRead_79 rfl rfl ?_
          refine jr_icmp_ne 99 84 dX10_eRead_81 rfl rfl (fun q => absurd (by decide) q) (fun q81 => ?_)
          refine jr_iload_n 2 85 dX10_eRead_84 rfl rfl rfl ?_
          refine jr_if_eq 99 88 dX10_eRead_85 rfl rfl (fun q85 => ?_) (fun q => absurd (by decide) q)
          refine jr_aload_n 0 100 dX10_eRead_99 rfl rfl rfl ?_
          refine gf_X10_131 103 dX10_eRead_100 rfl rfl rfl rfl ?_
          refine jr_topi (y := (6 : Int32)) (lt.trans (by rw [t9]; rfl)) ?_
          refine jr_bipush (nI 45) 105 dX10_eRead_103 rfl rfl ?_
          refine jr_icmp_ne 124 108 dX10_eRead_105 rfl rfl (fun q105 => ?_) (fun q => absurd q (by decide))
          refine jr_aload_n 0 125 dX10_eRead_124 rfl rfl rfl ?_
          refine gf_X10_131 128 dX10_eRead_125 rfl rfl rfl rfl ?_
          refine jr_topi (y := (6 : Int32)) (lt.trans (by rw [t9]; rfl)) ?_
          refine jr_bipush (nI 40) 130 dX10_eRead_128 rfl rfl ?_
          refine jr_icmp_ne 148 133 dX10_eRead_130 rfl rfl (fun q130 => ?_) (fun q => absurd q (by decide))
          refine jr_iconst (0) 149 dX10_eRead_148 rfl rfl ?_
          refine jr_ireturn dX10_eRead_149 rfl rfl ?_
          exact finF σ1 _ O (au_f_end (st_F m2 t19 t6 (fun z => by omega) (by omega) (by omega)) h) hS1.1 (by omega) lb
      by_cases t16 : lx_t b tp p = 16
      · by_cases o5 : au_op H = 5
        · refine jr_iload_n 1 19 dX10_eRead_18 rfl rfl rfl ?_
          refine jr_if_eq 150 22 dX10_eRead_19 rfl rfl (fun q => absurd q (by decide)) (fun q19 => ?_)
          refine jr_aload_n 0 23 dX10_eRead_22 rfl rfl rfl ?_
          refine gf_X10_131 26 dX10_eRead_23 rfl rfl rfl rfl ?_
          refine jr_topi (y := (45 : Int32)) (lt.trans (by rw [t16]; rfl)) ?_
          refine jr_iconst (nI 1) 27 dX10_eRead_26 rfl rfl ?_
          refine jr_icmp_eq 38 30 dX10_eRead_27 rfl rfl (fun q => absurd q (by decide)) (fun q27 => ?_)
          refine jr_aload_n 0 31 dX10_eRead_30 rfl rfl rfl ?_
          refine gf_X10_131 34 dX10_eRead_31 rfl rfl rfl rfl ?_
          refine jr_topi (y := (45 : Int32)) (lt.trans (by rw [t16]; rfl)) ?_
          refine jr_iconst (nI 2) 35 dX10_eRead_34 rfl rfl ?_
          refine jr_icmp_ne 75 38 dX10_eRead_35 rfl rfl (fun q35 => ?_) (fun q => absurd q (by decide))
          refine jr_aload_n 0 76 dX10_eRead_75 rfl rfl rfl ?_
          refine gf_X10_131 79 dX10_eRead_76 rfl rfl rfl rfl ?_
          refine jr_topi (y := (45 : Int32)) (lt.trans (by rw [t16]; rfl)) ?_
          refine jr_bipush (nI 6) 81 dX10_eRead_79 rfl rfl ?_
          refine jr_icmp_ne 99 84 dX10_eRead_81 rfl rfl (fun q81 => ?_) (fun q => absurd q (by decide))
          refine jr_aload_n 0 100 dX10_eRead_99 rfl rfl rfl ?_
          refine gf_X10_131 103 dX10_eRead_100 rfl rfl rfl rfl ?_
          refine jr_topi (y := (45 : Int32)) (lt.trans (by rw [t16]; rfl)) ?_
          refine jr_bipush (nI 45) 105 dX10_eRead_103 rfl rfl ?_
          refine jr_icmp_ne 124 108 dX10_eRead_105 rfl rfl (fun q => absurd (by decide) q) (fun q105 => ?_)
          refine jr_aload_n 0 109 dX10_eRead_108 rfl rfl rfl ?_
          refine jr_bipush (nI 19) 111 dX10_eRead_109 rfl rfl ?_
          refine cs_X10_168 114 dX10_eRead_111 rfl rfl rfl (Nat.le_of_ble_eq_true rfl) (wp_opens5 hS1 o5 ?_)
          refine jr_if_ne 119 117 dX10_eRead_114 rfl rfl (fun q => absurd (by decide) q) (fun q114 => ?_)
          refine jr_iconst (0) 118 dX10_eRead_117 rfl rfl ?_
          refine jr_ireturn dX10_eRead_118 rfl rfl ?_
          exact finF σ1 _ O (au_f_end (st_neg5 m2 t16 o5) h) hS1.1 (by omega) lb
        · refine jr_iload_n 1 19 dX10_eRead_18 rfl rfl rfl ?_
          refine jr_if_eq 150 22 dX10_eRead_19 rfl rfl (fun q => absurd q (by decide)) (fun q19 => ?_)
          refine jr_aload_n 0 23 dX10_eRead_22 rfl rfl rfl ?_
          refine gf_X10_131 26 dX10_eRead_23 rfl rfl rfl rfl ?_
          refine jr_topi (y := (45 : Int32)) (lt.trans (by rw [t16]; rfl)) ?_
          refine jr_iconst (nI 1) 27 dX10_eRead_26 rfl rfl ?_
          refine jr_icmp_eq 38 30 dX10_eRead_27 rfl rfl (fun q => absurd q (by decide)) (fun q27 => ?_)
          refine jr_aload_n 0 31 dX10_eRead_30 rfl rfl rfl ?_
          refine gf_X10_131 34 dX10_eRead_31 rfl rfl rfl rfl ?_
          refine jr_topi (y := (45 : Int32)) (lt.trans (by rw [t16]; rfl)) ?_
          refine jr_iconst (nI 2) 35 dX10_eRead_34 rfl rfl ?_
          refine jr_icmp_ne 75 38 dX10_eRead_35 rfl rfl (fun q35 => ?_) (fun q => absurd q (by decide))
          refine jr_aload_n 0 76 dX10_eRead_75 rfl rfl rfl ?_
          refine gf_X10_131 79 dX10_eRead_76 rfl rfl rfl rfl ?_
          refine jr_topi (y := (45 : Int32)) (lt.trans (by rw [t16]; rfl)) ?_
          refine jr_bipush (nI 6) 81 dX10_eRead_79 rfl rfl ?_
          refine jr_icmp_ne 99 84 dX10_eRead_81 rfl rfl (fun q81 => ?_) (fun q => absurd q (by decide))
          refine jr_aload_n 0 100 dX10_eRead_99 rfl rfl rfl ?_
          refine gf_X10_131 103 dX10_eRead_100 rfl rfl rfl rfl ?_
          refine jr_topi (y := (45 : Int32)) (lt.trans (by rw [t16]; rfl)) ?_
          refine jr_bipush (nI 45) 105 dX10_eRead_103 rfl rfl ?_
          refine jr_icmp_ne 124 108 dX10_eRead_105 rfl rfl (fun q => absurd (by decide) q) (fun q105 => ?_)
          refine jr_aload_n 0 109 dX10_eRead_108 rfl rfl rfl ?_
          refine jr_bipush (nI 19) 111 dX10_eRead_109 rfl rfl ?_
          refine cs_X10_168 114 dX10_eRead_111 rfl rfl rfl (Nat.le_of_ble_eq_true rfl) (wp_opens hS1 o5 hop (by omega) (by omega) (fun σ2 hS2 k2 => ?_))
          refine jr_if_ne 119 117 dX10_eRead_114 rfl rfl (fun q114 => ?_) (fun q => absurd q (by decide))
          refine jr_iconst (0) 120 dX10_eRead_119 rfl rfl ?_
          refine jr_istore_n 2 (L' := [_, _, _, _]) 121 dX10_eRead_120 rfl rfl (by decide) rfl ?_
          refine jr_goto 14 dX10_eRead_121 rfl ?_
          exact ih (lx_n b tp p) 0 (19 :: H) O σ2 1 0 _ (au_f_go (st_neg m2 t16 o5) h) (Or.inr (Or.inr ⟨rfl, rfl, rfl⟩)) hS2 (k2.1.trans ln) hn (by have := hgt (by omega); show O.length + (H.length + 1) ≤ _; omega) (by rw [au_op_c19]; omega)
      by_cases t20 : lx_t b tp p = 20
      · by_cases o5 : au_op H = 5
        · refine jr_iload_n 1 19 dX10_eRead_18 rfl rfl rfl ?_
          refine jr_if_eq 150 22 dX10_eRead_19 rfl rfl (fun q => absurd q (by decide)) (fun q19 => ?_)
          refine jr_aload_n 0 23 dX10_eRead_22 rfl rfl rfl ?_
          refine gf_X10_131 26 dX10_eRead_23 rfl rfl rfl rfl ?_
          refine jr_topi (y := (40 : Int32)) (lt.trans (by rw [t20]; rfl)) ?_
          refine jr_iconst (nI 1) 27 dX10_eRead_26 rfl rfl ?_
          refine jr_icmp_eq 38 30 dX10_eRead_27 rfl rfl (fun q => absurd q (by decide)) (fun q27 => ?_)
          refine jr_aload_n 0 31 dX10_eRead_30 rfl rfl rfl ?_
          refine gf_X10_131 34 dX10_eRead_31 rfl rfl rfl rfl ?_
          refine jr_topi (y := (40 : Int32)) (lt.trans (by rw [t20]; rfl)) ?_
          refine jr_iconst (nI 2) 35 dX10_eRead_34 rfl rfl ?_
          refine jr_icmp_ne 75 38 dX10_eRead_35 rfl rfl (fun q35 => ?_) (fun q => absurd q (by decide))
          refine jr_aload_n 0 76 dX10_eRead_75 rfl rfl rfl ?_
          refine gf_X10_131 79 dX10_eRead_76 rfl rfl rfl rfl ?_
          refine jr_topi (y := (40 : Int32)) (lt.trans (by rw [t20]; rfl)) ?_
          refine jr_bipush (nI 6) 81 dX10_eRead_79 rfl rfl ?_
          refine jr_icmp_ne 99 84 dX10_eRead_81 rfl rfl (fun q81 => ?_) (fun q => absurd q (by decide))
          refine jr_aload_n 0 100 dX10_eRead_99 rfl rfl rfl ?_
          refine gf_X10_131 103 dX10_eRead_100 rfl rfl rfl rfl ?_
          refine jr_topi (y := (40 : Int32)) (lt.trans (by rw [t20]; rfl)) ?_
          refine jr_bipush (nI 45) 105 dX10_eRead_103 rfl rfl ?_
          refine jr_icmp_ne 124 108 dX10_eRead_105 rfl rfl (fun q105 => ?_) (fun q => absurd q (by decide))
          refine jr_aload_n 0 125 dX10_eRead_124 rfl rfl rfl ?_
          refine gf_X10_131 128 dX10_eRead_125 rfl rfl rfl rfl ?_
          refine jr_topi (y := (40 : Int32)) (lt.trans (by rw [t20]; rfl)) ?_
          refine jr_bipush (nI 40) 130 dX10_eRead_128 rfl rfl ?_
          refine jr_icmp_ne 148 133 dX10_eRead_130 rfl rfl (fun q => absurd (by decide) q) (fun q130 => ?_)
          refine jr_aload_n 0 134 dX10_eRead_133 rfl rfl rfl ?_
          refine jr_iconst (nI 0) 135 dX10_eRead_134 rfl rfl ?_
          refine cs_X10_168 138 dX10_eRead_135 rfl rfl rfl (Nat.le_of_ble_eq_true rfl) (wp_opens5 hS1 o5 ?_)
          refine jr_if_ne 143 141 dX10_eRead_138 rfl rfl (fun q => absurd (by decide) q) (fun q138 => ?_)
          refine jr_iconst (0) 142 dX10_eRead_141 rfl rfl ?_
          refine jr_ireturn dX10_eRead_142 rfl rfl ?_
          exact finF σ1 _ O (au_f_end (st_opn5 m2 t20 o5) h) hS1.1 (by omega) lb
        · refine jr_iload_n 1 19 dX10_eRead_18 rfl rfl rfl ?_
          refine jr_if_eq 150 22 dX10_eRead_19 rfl rfl (fun q => absurd q (by decide)) (fun q19 => ?_)
          refine jr_aload_n 0 23 dX10_eRead_22 rfl rfl rfl ?_
          refine gf_X10_131 26 dX10_eRead_23 rfl rfl rfl rfl ?_
          refine jr_topi (y := (40 : Int32)) (lt.trans (by rw [t20]; rfl)) ?_
          refine jr_iconst (nI 1) 27 dX10_eRead_26 rfl rfl ?_
          refine jr_icmp_eq 38 30 dX10_eRead_27 rfl rfl (fun q => absurd q (by decide)) (fun q27 => ?_)
          refine jr_aload_n 0 31 dX10_eRead_30 rfl rfl rfl ?_
          refine gf_X10_131 34 dX10_eRead_31 rfl rfl rfl rfl ?_
          refine jr_topi (y := (40 : Int32)) (lt.trans (by rw [t20]; rfl)) ?_
          refine jr_iconst (nI 2) 35 dX10_eRead_34 rfl rfl ?_
          refine jr_icmp_ne 75 38 dX10_eRead_35 rfl rfl (fun q35 => ?_) (fun q => absurd q (by decide))
          refine jr_aload_n 0 76 dX10_eRead_75 rfl rfl rfl ?_
          refine gf_X10_131 79 dX10_eRead_76 rfl rfl rfl rfl ?_
          refine jr_topi (y := (40 : Int32)) (lt.trans (by rw [t20]; rfl)) ?_
          refine jr_bipush (nI 6) 81 dX10_eRead_79 rfl rfl ?_
          refine jr_icmp_ne 99 84 dX10_eRead_81 rfl rfl (fun q81 => ?_) (fun q => absurd q (by decide))
          refine jr_aload_n 0 100 dX10_eRead_99 rfl rfl rfl ?_
          refine gf_X10_131 103 dX10_eRead_100 rfl rfl rfl rfl ?_
          refine jr_topi (y := (40 : Int32)) (lt.trans (by rw [t20]; rfl)) ?_
          refine jr_bipush (nI 45) 105 dX10_eRead_103 rfl rfl ?_
          refine jr_icmp_ne 124 108 dX10_eRead_105 rfl rfl (fun q105 => ?_) (fun q => absurd q (by decide))
          refine jr_aload_n 0 125 dX10_eRead_124 rfl rfl rfl ?_
          refine gf_X10_131 128 dX10_eRead_125 rfl rfl rfl rfl ?_
          refine jr_topi (y := (40 : Int32)) (lt.trans (by rw [t20]; rfl)) ?_
          refine jr_bipush (nI 40) 130 dX10_eRead_128 rfl rfl ?_
          refine jr_icmp_ne 148 133 dX10_eRead_130 rfl rfl (fun q => absurd (by decide) q) (fun q130 => ?_)
          refine jr_aload_n 0 134 dX10_eRead_133 rfl rfl rfl ?_
          refine jr_iconst ((nI 0)) 135 dX10_eRead_134 rfl rfl ?_
          refine cs_X10_168 138 dX10_eRead_135 rfl rfl rfl (Nat.le_of_ble_eq_true rfl) (wp_opens hS1 o5 hop (by omega) (by omega) (fun σ2 hS2 k2 => ?_))
          refine jr_if_ne 143 141 dX10_eRead_138 rfl rfl (fun q138 => ?_) (fun q => absurd q (by decide))
          refine jr_iconst (1) 144 dX10_eRead_143 rfl rfl ?_
          refine jr_istore_n 2 (L' := [_, _, _, _]) 145 dX10_eRead_144 rfl rfl (by decide) rfl ?_
          refine jr_goto 14 dX10_eRead_145 rfl ?_
          exact ih (lx_n b tp p) 1 (0 :: H) O σ2 1 1 _ (au_f_go (st_opn m2 t20 o5) h) (Or.inr (Or.inl ⟨rfl, rfl, rfl⟩)) hS2 (k2.1.trans ln) hn (by have := hgt (by omega); show O.length + (H.length + 1) ≤ _; omega) (by rw [au_op_c0]; omega)
      · refine jr_iload_n 1 19 dX10_eRead_18 rfl rfl rfl ?_
        refine jr_if_eq 150 22 dX10_eRead_19 rfl rfl (fun q => absurd q (by decide)) (fun q19 => ?_)
        refine jr_aload_n 0 23 dX10_eRead_22 rfl rfl rfl ?_
        refine gf_X10_131 26 dX10_eRead_23 rfl rfl rfl rfl ?_
        refine jr_topi (y := rtk (lx_t b tp p)) lt ?_
        refine jr_iconst (1) 27 dX10_eRead_26 rfl rfl ?_
        refine jr_icmp_eq 38 30 dX10_eRead_27 rfl rfl (fun z => absurd z (r1 t19)) (fun q27 => ?_)
        refine jr_aload_n 0 31 dX10_eRead_30 rfl rfl rfl ?_
        refine gf_X10_131 34 dX10_eRead_31 rfl rfl rfl rfl ?_
        refine jr_topi (y := rtk (lx_t b tp p)) lt ?_
        refine jr_iconst (2) 35 dX10_eRead_34 rfl rfl ?_
        refine jr_icmp_ne 75 38 dX10_eRead_35 rfl rfl (fun q35 => ?_) (fun z => absurd z (r2' (by omega) hT.2.2))
        refine jr_aload_n 0 76 dX10_eRead_75 rfl rfl rfl ?_
        refine gf_X10_131 79 dX10_eRead_76 rfl rfl rfl rfl ?_
        refine jr_topi (y := rtk (lx_t b tp p)) lt ?_
        refine jr_bipush (6) 81 dX10_eRead_79 rfl rfl ?_
        refine jr_icmp_ne 99 84 dX10_eRead_81 rfl rfl (fun q81 => ?_) (fun z => absurd z (r6 t9))
        refine jr_aload_n 0 100 dX10_eRead_99 rfl rfl rfl ?_
        refine gf_X10_131 103 dX10_eRead_100 rfl rfl rfl rfl ?_
        refine jr_topi (y := rtk (lx_t b tp p)) lt ?_
        refine jr_bipush (45) 105 dX10_eRead_103 rfl rfl ?_
        refine jr_icmp_ne 124 108 dX10_eRead_105 rfl rfl (fun q105 => ?_) (fun z => absurd z (r45 t16))
        refine jr_aload_n 0 125 dX10_eRead_124 rfl rfl rfl ?_
        refine gf_X10_131 128 dX10_eRead_125 rfl rfl rfl rfl ?_
        refine jr_topi (y := rtk (lx_t b tp p)) lt ?_
        refine jr_bipush (40) 130 dX10_eRead_128 rfl rfl ?_
        refine jr_icmp_ne 148 133 dX10_eRead_130 rfl rfl (fun q130 => ?_) (fun z => absurd z (r40 t20))
        refine jr_iconst (0) 149 dX10_eRead_148 rfl rfl ?_
        refine jr_ireturn dX10_eRead_149 rfl rfl ?_
        exact finF σ1 _ O (au_f_end (st_F m2 t19 t6 (fun z => t9 z.1) t16 t20) h) hS1.1 (by omega) lb
    rcases hm with ⟨rfl, rfl⟩ | ⟨rfl, rfl, rfl⟩ | ⟨rfl, rfl, rfl⟩
    · by_cases t22 : lx_t b tp p = 22
      · refine jr_iload_n 1 19 dX10_eRead_18 rfl rfl rfl ?_
        refine jr_if_eq 150 22 dX10_eRead_19 rfl rfl (fun q19 => ?_) (fun q => absurd (by decide) q)
        refine jr_aload_n 0 151 dX10_eRead_150 rfl rfl rfl ?_
        refine gf_X10_131 154 dX10_eRead_151 rfl rfl rfl rfl ?_
        refine jr_topi (y := (59 : Int32)) (lt.trans (by rw [t22]; rfl)) ?_
        refine jr_bipush (nI 59) 156 dX10_eRead_154 rfl rfl ?_
        refine jr_icmp_ne 177 159 dX10_eRead_156 rfl rfl (fun q => absurd (by decide) q) (fun q156 => ?_)
        refine jr_aload_n 0 160 dX10_eRead_159 rfl rfl rfl ?_
        refine jr_iconst (nI 1) 161 dX10_eRead_160 rfl rfl ?_
        refine cs_X10_161 164 dX10_eRead_161 rfl rfl rfl (Nat.le_of_ble_eq_true rfl) (wp_unwinds (by decide) (by decide) hS1 (by omega) (fun σ2 hS2 k2 => ?_))
        have hln := au_uw_len 1 H O
        have huo := au_uw_op 1 H O
        revert hS2 hln huo
        generalize hu : au_uw 1 H O = u
        obtain ⟨H1, O1⟩ := u
        intro hS2 hln huo
        simp only at hln huo
        cases H1 with
        | nil =>
          refine jr_aload_n 0 165 dX10_eRead_164 rfl rfl rfl ?_
          refine gf_X10_144 168 dX10_eRead_165 rfl rfl rfl rfl ?_
          refine jr_topi (y := nI 0) hS2.2.1 ?_
          refine jr_if_ne 175 171 dX10_eRead_168 rfl rfl (fun q => absurd (by decide) q) (fun q168 => ?_)
          refine jr_iconst (1) 172 dX10_eRead_171 rfl rfl ?_
          refine jr_goto 176 dX10_eRead_172 rfl ?_
          refine jr_ireturn dX10_eRead_176 rfl rfl ?_
          exact finO σ2 _ O1 (au_f_end (st_semi (H1 := []) t22 hu) h) hS2.1 (k2.1.trans ln)
        | cons s H1 =>
          simp only [List.length_cons] at hln
          refine jr_aload_n 0 165 dX10_eRead_164 rfl rfl rfl ?_
          refine gf_X10_144 168 dX10_eRead_165 rfl rfl rfl rfl ?_
          refine jr_topi (y := nI (H1.length + 1)) hS2.2.1 ?_
          refine jr_if_ne 175 171 dX10_eRead_168 rfl rfl (fun q168 => ?_) (fun z => absurd z (nI_ne0 (by omega) (by omega)))
          refine jr_iconst (0) 176 dX10_eRead_175 rfl rfl ?_
          refine jr_ireturn dX10_eRead_176 rfl rfl ?_
          exact finF σ2 _ O1 (au_f_end (st_semiF t22 hu) h) hS2.1 (by omega) (k2.2.1.trans lb)
      by_cases t21 : lx_t b tp p = 21
      · refine jr_iload_n 1 19 dX10_eRead_18 rfl rfl rfl ?_
        refine jr_if_eq 150 22 dX10_eRead_19 rfl rfl (fun q19 => ?_) (fun q => absurd (by decide) q)
        refine jr_aload_n 0 151 dX10_eRead_150 rfl rfl rfl ?_
        refine gf_X10_131 154 dX10_eRead_151 rfl rfl rfl rfl ?_
        refine jr_topi (y := (41 : Int32)) (lt.trans (by rw [t21]; rfl)) ?_
        refine jr_bipush (nI 59) 156 dX10_eRead_154 rfl rfl ?_
        refine jr_icmp_ne 177 159 dX10_eRead_156 rfl rfl (fun q156 => ?_) (fun q => absurd q (by decide))
        refine jr_aload_n 0 178 dX10_eRead_177 rfl rfl rfl ?_
        refine gf_X10_131 181 dX10_eRead_178 rfl rfl rfl rfl ?_
        refine jr_topi (y := (41 : Int32)) (lt.trans (by rw [t21]; rfl)) ?_
        refine jr_bipush (nI 41) 183 dX10_eRead_181 rfl rfl ?_
        refine jr_icmp_ne 229 186 dX10_eRead_183 rfl rfl (fun q => absurd (by decide) q) (fun q183 => ?_)
        refine jr_aload_n 0 187 dX10_eRead_186 rfl rfl rfl ?_
        refine jr_iconst (nI 1) 188 dX10_eRead_187 rfl rfl ?_
        refine cs_X10_161 191 dX10_eRead_188 rfl rfl rfl (Nat.le_of_ble_eq_true rfl) (wp_unwinds (by decide) (by decide) hS1 (by omega) (fun σ2 hS2 k2 => ?_))
        have hln := au_uw_len 1 H O
        have huo := au_uw_op 1 H O
        revert hS2 hln huo
        generalize hu : au_uw 1 H O = u
        obtain ⟨H1, O1⟩ := u
        intro hS2 hln huo
        simp only at hln huo
        cases H1 with
        | nil =>
          refine jr_aload_n 0 192 dX10_eRead_191 rfl rfl rfl ?_
          refine gf_X10_144 195 dX10_eRead_192 rfl rfl rfl rfl ?_
          refine jr_topi (y := nI 0) hS2.2.1 ?_
          refine jr_if_ne 200 198 dX10_eRead_195 rfl rfl (fun q => absurd (by decide) q) (fun q195 => ?_)
          refine jr_iconst (0) 199 dX10_eRead_198 rfl rfl ?_
          refine jr_ireturn dX10_eRead_199 rfl rfl ?_
          exact finF σ2 _ O1 (au_f_end (st_clsF (H1 := []) t21 hu) h) hS2.1 (by omega) (k2.2.1.trans lb)
        | cons s H1 =>
          simp only [List.length_cons] at hln
          have hs0 : s = 0 := by
            have hr := au_uw_hd _ _ hu
            rcases hS2.2.2.2.2.1 with z | z
            · exact z
            · exfalso
              have : 1 ≤ au_rk s := by
                rcases (by omega : s = 11 ∨ s = 12 ∨ s = 13 ∨ s = 14 ∨ s = 15 ∨ s = 16 ∨ s = 17 ∨ s = 18 ∨ s = 19) with rfl | rfl | rfl | rfl | rfl | rfl | rfl | rfl | rfl <;> decide
              omega
          subst hs0
          rw [au_op_c0] at huo
          refine jr_aload_n 0 192 dX10_eRead_191 rfl rfl rfl ?_
          refine gf_X10_144 195 dX10_eRead_192 rfl rfl rfl rfl ?_
          refine jr_topi (y := nI (H1.length + 1)) hS2.2.1 ?_
          refine jr_if_ne 200 198 dX10_eRead_195 rfl rfl (fun q195 => ?_) (fun z => absurd z (nI_ne0 (by omega) (by omega)))
          refine jr_aload_n 0 201 dX10_eRead_200 rfl rfl rfl ?_
          refine jr_dup 202 dX10_eRead_201 rfl rfl ?_
          refine gf_X10_144 205 dX10_eRead_202 rfl rfl rfl rfl ?_
          refine jr_topi (y := nI (H1.length + 1)) hS2.2.1 ?_
          refine jr_iconst (nI 1) 206 dX10_eRead_205 rfl rfl ?_
          refine jr_isub 207 dX10_eRead_206 rfl ?_
          rw [pk_sub (by omega), Nat.add_sub_cancel]
          refine pf_X10_144 210 dX10_eRead_207 rfl rfl rfl rfl ?_
          refine jr_aload_n 0 211 dX10_eRead_210 rfl rfl rfl ?_
          refine jr_dup 212 dX10_eRead_211 rfl rfl ?_
          refine gf_X10_151 215 dX10_eRead_212 rfl rfl rfl rfl ?_
          refine jr_topi (y := nI (au_op H1 + 1)) ((up46 (by decide)).trans (hS2.2.2.1.trans (by rw [au_op_c0]))) ?_
          refine jr_iconst (nI 1) 216 dX10_eRead_215 rfl rfl ?_
          refine jr_isub 217 dX10_eRead_216 rfl ?_
          rw [pk_sub (by omega), Nat.add_sub_cancel]
          refine pf_X10_151 220 dX10_eRead_217 rfl rfl rfl rfl ?_
          refine jr_aload_n 0 221 dX10_eRead_220 rfl rfl rfl ?_
          refine jr_bipush (nI 7) 223 dX10_eRead_221 rfl rfl ?_
          refine cs_X10_161 226 dX10_eRead_223 rfl rfl rfl (Nat.le_of_ble_eq_true rfl) (wp_unwinds (b := b) (tp := tp) (n := n) (σ0 := σ0) (H := H1) (O := O1) (by decide) (by decide) ⟨rQ_fr (F := [29, 30]) hS2.1 (fr46_up (fr46_up (fr46_rf _ _) (by decide)) (by decide)) (by decide), up46 (by decide), rfl, hS2.2.2.2.2.2⟩ (by omega) (fun σ3 hS3 k3 => ?_))
          refine jr_goto 14 dX10_eRead_226 rfl ?_
          exact ih (lx_n b tp p) 2 _ _ σ3 0 _ _ (au_f_go (st_cls t21 hu) h) (Or.inl ⟨rfl, rfl⟩) hS3 (k3.1.trans (k2.1.trans ln)) hn (by rw [au_uw_len]; have := hgt (by omega); omega) (Nat.le_trans (au_uw_op _ _ _) (by omega))
      by_cases hs : au_sg (lx_t b tp p) = 0
      · refine jr_iload_n 1 19 dX10_eRead_18 rfl rfl rfl ?_
        refine jr_if_eq 150 22 dX10_eRead_19 rfl rfl (fun q19 => ?_) (fun q => absurd (by decide) q)
        refine jr_aload_n 0 151 dX10_eRead_150 rfl rfl rfl ?_
        refine gf_X10_131 154 dX10_eRead_151 rfl rfl rfl rfl ?_
        refine jr_topi (y := rtk (lx_t b tp p)) lt ?_
        refine jr_bipush (59) 156 dX10_eRead_154 rfl rfl ?_
        refine jr_icmp_ne 177 159 dX10_eRead_156 rfl rfl (fun q156 => ?_) (fun z => absurd z (r59 t22))
        refine jr_aload_n 0 178 dX10_eRead_177 rfl rfl rfl ?_
        refine gf_X10_131 181 dX10_eRead_178 rfl rfl rfl rfl ?_
        refine jr_topi (y := rtk (lx_t b tp p)) lt ?_
        refine jr_bipush (41) 183 dX10_eRead_181 rfl rfl ?_
        refine jr_icmp_ne 229 186 dX10_eRead_183 rfl rfl (fun q183 => ?_) (fun z => absurd z (r41 t21))
        refine jr_aload_n 0 230 dX10_eRead_229 rfl rfl rfl ?_
        refine cs_X10_171 233 dX10_eRead_230 rfl rfl rfl (Nat.le_of_ble_eq_true rfl) (wp_signOf lt hT.1 hT.2.1 ?_)
        refine jr_topi (y := -1) (by rw [if_pos hs]) ?_
        refine jr_istore_n 3 (L' := [_, _, _, _]) 234 dX10_eRead_233 rfl rfl (by decide) rfl ?_
        refine jr_iload_n 3 235 dX10_eRead_234 rfl rfl rfl ?_
        refine jr_iconst ((-1)) 236 dX10_eRead_235 rfl rfl ?_
        refine jr_icmp_eq 247 239 dX10_eRead_236 rfl rfl (fun q236 => ?_) (fun q => absurd (by decide) q)
        refine jr_iconst (0) 248 dX10_eRead_247 rfl rfl ?_
        refine jr_ireturn dX10_eRead_248 rfl rfl ?_
        exact finF σ1 _ O (au_f_end (st_bF t22 t21 hs) h) hS1.1 (by omega) lb
      have hc := au_sg_rk (lx_t b tp p)
      rcases hc with z | ⟨-, tt⟩ | ⟨-, tt⟩ | ⟨-, tt⟩ | ⟨-, tt⟩ | ⟨-, tt⟩ | ⟨-, tt⟩ | ⟨-, tt⟩
      · exact absurd z hs
      · refine jr_iload_n 1 19 dX10_eRead_18 rfl rfl rfl ?_
        refine jr_if_eq 150 22 dX10_eRead_19 rfl rfl (fun q19 => ?_) (fun q => absurd (by decide) q)
        refine jr_aload_n 0 151 dX10_eRead_150 rfl rfl rfl ?_
        refine gf_X10_131 154 dX10_eRead_151 rfl rfl rfl rfl ?_
        refine jr_topi (y := rtk (lx_t b tp p)) lt ?_
        refine jr_bipush (59) 156 dX10_eRead_154 rfl rfl ?_
        refine jr_icmp_ne 177 159 dX10_eRead_156 rfl rfl (fun q156 => ?_) (fun z => absurd z (r59 t22))
        refine jr_aload_n 0 178 dX10_eRead_177 rfl rfl rfl ?_
        refine gf_X10_131 181 dX10_eRead_178 rfl rfl rfl rfl ?_
        refine jr_topi (y := rtk (lx_t b tp p)) lt ?_
        refine jr_bipush (41) 183 dX10_eRead_181 rfl rfl ?_
        refine jr_icmp_ne 229 186 dX10_eRead_183 rfl rfl (fun q183 => ?_) (fun z => absurd z (r41 t21))
        refine jr_aload_n 0 230 dX10_eRead_229 rfl rfl rfl ?_
        refine cs_X10_171 233 dX10_eRead_230 rfl rfl rfl (Nat.le_of_ble_eq_true rfl) (wp_signOf lt hT.1 hT.2.1 ?_)
        refine jr_topi (y := nI 11) (by rw [tt]; rfl) ?_
        refine jr_istore_n 3 (L' := [_, _, _, _]) 234 dX10_eRead_233 rfl rfl (by decide) rfl ?_
        refine jr_iload_n 3 235 dX10_eRead_234 rfl rfl rfl ?_
        refine jr_iconst ((-1)) 236 dX10_eRead_235 rfl rfl ?_
        refine jr_icmp_eq 247 239 dX10_eRead_236 rfl rfl (fun q => absurd q (by decide)) (fun q236 => ?_)
        refine jr_aload_n 0 240 dX10_eRead_239 rfl rfl rfl ?_
        refine jr_iload_n 3 241 dX10_eRead_240 rfl rfl rfl ?_
        refine cs_X10_174 244 dX10_eRead_241 rfl rfl rfl (Nat.le_of_ble_eq_true rfl) (wp_btw (s := 11) (by decide) hS1 (by omega) (by decide) (fun σ2 hS2 k2 => ?_))
        refine jr_if_ne 249 247 dX10_eRead_244 rfl rfl (fun q244 => ?_) (fun q => absurd q (by decide))
        refine jr_iconst (1) 250 dX10_eRead_249 rfl rfl ?_
        refine jr_istore_n 1 (L' := [_, _, _, _]) 251 dX10_eRead_250 rfl rfl (by decide) rfl ?_
        refine jr_iload_n 3 252 dX10_eRead_251 rfl rfl rfl ?_
        refine jr_bipush (12) 254 dX10_eRead_252 rfl rfl ?_
        refine jr_icmp_gt 261 257 dX10_eRead_254 rfl rfl (fun q => absurd q (by decide)) (fun q254 => ?_)
        refine jr_iconst (1) 258 dX10_eRead_257 rfl rfl ?_
        refine jr_goto 262 dX10_eRead_258 rfl ?_
        refine jr_istore_n 2 (L' := [_, _, _, _]) 263 dX10_eRead_262 rfl rfl (by decide) rfl ?_
        refine jr_goto 14 dX10_eRead_263 rfl ?_
        exact ih (lx_n b tp p) 1 _ _ σ2 1 1 _ (au_f_go (st_b (t := 7) (s := 11) (r := 1) (m' := 1) tt (by omega) rfl) h) (Or.inr (Or.inl ⟨rfl, rfl, rfl⟩)) hS2 (k2.1.trans ln) hn (by have := hgt (by omega); have := au_uw_len (1) H O; simp only [List.length_cons]; omega) (by rw [au_op_c _ (by decide) (by decide) (by decide)]; exact Nat.le_trans (au_uw_op _ _ _) hop)
      · refine jr_iload_n 1 19 dX10_eRead_18 rfl rfl rfl ?_
        refine jr_if_eq 150 22 dX10_eRead_19 rfl rfl (fun q19 => ?_) (fun q => absurd (by decide) q)
        refine jr_aload_n 0 151 dX10_eRead_150 rfl rfl rfl ?_
        refine gf_X10_131 154 dX10_eRead_151 rfl rfl rfl rfl ?_
        refine jr_topi (y := rtk (lx_t b tp p)) lt ?_
        refine jr_bipush (59) 156 dX10_eRead_154 rfl rfl ?_
        refine jr_icmp_ne 177 159 dX10_eRead_156 rfl rfl (fun q156 => ?_) (fun z => absurd z (r59 t22))
        refine jr_aload_n 0 178 dX10_eRead_177 rfl rfl rfl ?_
        refine gf_X10_131 181 dX10_eRead_178 rfl rfl rfl rfl ?_
        refine jr_topi (y := rtk (lx_t b tp p)) lt ?_
        refine jr_bipush (41) 183 dX10_eRead_181 rfl rfl ?_
        refine jr_icmp_ne 229 186 dX10_eRead_183 rfl rfl (fun q183 => ?_) (fun z => absurd z (r41 t21))
        refine jr_aload_n 0 230 dX10_eRead_229 rfl rfl rfl ?_
        refine cs_X10_171 233 dX10_eRead_230 rfl rfl rfl (Nat.le_of_ble_eq_true rfl) (wp_signOf lt hT.1 hT.2.1 ?_)
        refine jr_topi (y := nI 12) (by rw [tt]; rfl) ?_
        refine jr_istore_n 3 (L' := [_, _, _, _]) 234 dX10_eRead_233 rfl rfl (by decide) rfl ?_
        refine jr_iload_n 3 235 dX10_eRead_234 rfl rfl rfl ?_
        refine jr_iconst ((-1)) 236 dX10_eRead_235 rfl rfl ?_
        refine jr_icmp_eq 247 239 dX10_eRead_236 rfl rfl (fun q => absurd q (by decide)) (fun q236 => ?_)
        refine jr_aload_n 0 240 dX10_eRead_239 rfl rfl rfl ?_
        refine jr_iload_n 3 241 dX10_eRead_240 rfl rfl rfl ?_
        refine cs_X10_174 244 dX10_eRead_241 rfl rfl rfl (Nat.le_of_ble_eq_true rfl) (wp_btw (s := 12) (by decide) hS1 (by omega) (by decide) (fun σ2 hS2 k2 => ?_))
        refine jr_if_ne 249 247 dX10_eRead_244 rfl rfl (fun q244 => ?_) (fun q => absurd q (by decide))
        refine jr_iconst (1) 250 dX10_eRead_249 rfl rfl ?_
        refine jr_istore_n 1 (L' := [_, _, _, _]) 251 dX10_eRead_250 rfl rfl (by decide) rfl ?_
        refine jr_iload_n 3 252 dX10_eRead_251 rfl rfl rfl ?_
        refine jr_bipush (12) 254 dX10_eRead_252 rfl rfl ?_
        refine jr_icmp_gt 261 257 dX10_eRead_254 rfl rfl (fun q => absurd q (by decide)) (fun q254 => ?_)
        refine jr_iconst (1) 258 dX10_eRead_257 rfl rfl ?_
        refine jr_goto 262 dX10_eRead_258 rfl ?_
        refine jr_istore_n 2 (L' := [_, _, _, _]) 263 dX10_eRead_262 rfl rfl (by decide) rfl ?_
        refine jr_goto 14 dX10_eRead_263 rfl ?_
        exact ih (lx_n b tp p) 1 _ _ σ2 1 1 _ (au_f_go (st_b (t := 8) (s := 12) (r := 2) (m' := 1) tt (by omega) rfl) h) (Or.inr (Or.inl ⟨rfl, rfl, rfl⟩)) hS2 (k2.1.trans ln) hn (by have := hgt (by omega); have := au_uw_len (2) H O; simp only [List.length_cons]; omega) (by rw [au_op_c _ (by decide) (by decide) (by decide)]; exact Nat.le_trans (au_uw_op _ _ _) hop)
      · refine jr_iload_n 1 19 dX10_eRead_18 rfl rfl rfl ?_
        refine jr_if_eq 150 22 dX10_eRead_19 rfl rfl (fun q19 => ?_) (fun q => absurd (by decide) q)
        refine jr_aload_n 0 151 dX10_eRead_150 rfl rfl rfl ?_
        refine gf_X10_131 154 dX10_eRead_151 rfl rfl rfl rfl ?_
        refine jr_topi (y := rtk (lx_t b tp p)) lt ?_
        refine jr_bipush (59) 156 dX10_eRead_154 rfl rfl ?_
        refine jr_icmp_ne 177 159 dX10_eRead_156 rfl rfl (fun q156 => ?_) (fun z => absurd z (r59 t22))
        refine jr_aload_n 0 178 dX10_eRead_177 rfl rfl rfl ?_
        refine gf_X10_131 181 dX10_eRead_178 rfl rfl rfl rfl ?_
        refine jr_topi (y := rtk (lx_t b tp p)) lt ?_
        refine jr_bipush (41) 183 dX10_eRead_181 rfl rfl ?_
        refine jr_icmp_ne 229 186 dX10_eRead_183 rfl rfl (fun q183 => ?_) (fun z => absurd z (r41 t21))
        refine jr_aload_n 0 230 dX10_eRead_229 rfl rfl rfl ?_
        refine cs_X10_171 233 dX10_eRead_230 rfl rfl rfl (Nat.le_of_ble_eq_true rfl) (wp_signOf lt hT.1 hT.2.1 ?_)
        refine jr_topi (y := nI 14) (by rw [tt]; rfl) ?_
        refine jr_istore_n 3 (L' := [_, _, _, _]) 234 dX10_eRead_233 rfl rfl (by decide) rfl ?_
        refine jr_iload_n 3 235 dX10_eRead_234 rfl rfl rfl ?_
        refine jr_iconst ((-1)) 236 dX10_eRead_235 rfl rfl ?_
        refine jr_icmp_eq 247 239 dX10_eRead_236 rfl rfl (fun q => absurd q (by decide)) (fun q236 => ?_)
        refine jr_aload_n 0 240 dX10_eRead_239 rfl rfl rfl ?_
        refine jr_iload_n 3 241 dX10_eRead_240 rfl rfl rfl ?_
        refine cs_X10_174 244 dX10_eRead_241 rfl rfl rfl (Nat.le_of_ble_eq_true rfl) (wp_btw4 (s := 14) (by decide) hS1 (by omega) (fun h4 σ2 hS2 k2 => ?_) (fun h4 σ2 hS2 k2 => ?_))
        · refine jr_if_ne 249 247 dX10_eRead_244 rfl rfl (fun q244 => ?_) (fun q => absurd q (by decide))
          refine jr_iconst (1) 250 dX10_eRead_249 rfl rfl ?_
          refine jr_istore_n 1 (L' := [_, _, _, _]) 251 dX10_eRead_250 rfl rfl (by decide) rfl ?_
          refine jr_iload_n 3 252 dX10_eRead_251 rfl rfl rfl ?_
          refine jr_bipush (12) 254 dX10_eRead_252 rfl rfl ?_
          refine jr_icmp_gt 261 257 dX10_eRead_254 rfl rfl (fun q254 => ?_) (fun q => absurd (by decide) q)
          refine jr_iconst (0) 262 dX10_eRead_261 rfl rfl ?_
          refine jr_istore_n 2 (L' := [_, _, _, _]) 263 dX10_eRead_262 rfl rfl (by decide) rfl ?_
          refine jr_goto 14 dX10_eRead_263 rfl ?_
          exact ih (lx_n b tp p) 0 _ _ σ2 1 0 _ (au_f_go (st_b4 (t := 13) (s := 14) tt (by omega) rfl h4) h) (Or.inr (Or.inr ⟨rfl, rfl, rfl⟩)) hS2 (k2.1.trans ln) hn (by have := hgt (by omega); have := au_uw_len (5) H O; simp only [List.length_cons]; omega) (by rw [au_op_c _ (by decide) (by decide) (by decide)]; exact Nat.le_trans (au_uw_op _ _ _) hop)
        · refine jr_if_ne 249 247 dX10_eRead_244 rfl rfl (fun q => absurd (by decide) q) (fun q244 => ?_)
          refine jr_iconst (0) 248 dX10_eRead_247 rfl rfl ?_
          refine jr_ireturn dX10_eRead_248 rfl rfl ?_
          exact finF σ2 _ _ (au_f_end (st_b4F hs (by rw [tt]; rfl) h4) h) hS2.1 (by have := au_uw_len 5 H O; omega) (k2.2.1.trans lb)
      · refine jr_iload_n 1 19 dX10_eRead_18 rfl rfl rfl ?_
        refine jr_if_eq 150 22 dX10_eRead_19 rfl rfl (fun q19 => ?_) (fun q => absurd (by decide) q)
        refine jr_aload_n 0 151 dX10_eRead_150 rfl rfl rfl ?_
        refine gf_X10_131 154 dX10_eRead_151 rfl rfl rfl rfl ?_
        refine jr_topi (y := rtk (lx_t b tp p)) lt ?_
        refine jr_bipush (59) 156 dX10_eRead_154 rfl rfl ?_
        refine jr_icmp_ne 177 159 dX10_eRead_156 rfl rfl (fun q156 => ?_) (fun z => absurd z (r59 t22))
        refine jr_aload_n 0 178 dX10_eRead_177 rfl rfl rfl ?_
        refine gf_X10_131 181 dX10_eRead_178 rfl rfl rfl rfl ?_
        refine jr_topi (y := rtk (lx_t b tp p)) lt ?_
        refine jr_bipush (41) 183 dX10_eRead_181 rfl rfl ?_
        refine jr_icmp_ne 229 186 dX10_eRead_183 rfl rfl (fun q183 => ?_) (fun z => absurd z (r41 t21))
        refine jr_aload_n 0 230 dX10_eRead_229 rfl rfl rfl ?_
        refine cs_X10_171 233 dX10_eRead_230 rfl rfl rfl (Nat.le_of_ble_eq_true rfl) (wp_signOf lt hT.1 hT.2.1 ?_)
        refine jr_topi (y := nI 15) (by rw [tt]; rfl) ?_
        refine jr_istore_n 3 (L' := [_, _, _, _]) 234 dX10_eRead_233 rfl rfl (by decide) rfl ?_
        refine jr_iload_n 3 235 dX10_eRead_234 rfl rfl rfl ?_
        refine jr_iconst ((-1)) 236 dX10_eRead_235 rfl rfl ?_
        refine jr_icmp_eq 247 239 dX10_eRead_236 rfl rfl (fun q => absurd q (by decide)) (fun q236 => ?_)
        refine jr_aload_n 0 240 dX10_eRead_239 rfl rfl rfl ?_
        refine jr_iload_n 3 241 dX10_eRead_240 rfl rfl rfl ?_
        refine cs_X10_174 244 dX10_eRead_241 rfl rfl rfl (Nat.le_of_ble_eq_true rfl) (wp_btw4 (s := 15) (by decide) hS1 (by omega) (fun h4 σ2 hS2 k2 => ?_) (fun h4 σ2 hS2 k2 => ?_))
        · refine jr_if_ne 249 247 dX10_eRead_244 rfl rfl (fun q244 => ?_) (fun q => absurd q (by decide))
          refine jr_iconst (1) 250 dX10_eRead_249 rfl rfl ?_
          refine jr_istore_n 1 (L' := [_, _, _, _]) 251 dX10_eRead_250 rfl rfl (by decide) rfl ?_
          refine jr_iload_n 3 252 dX10_eRead_251 rfl rfl rfl ?_
          refine jr_bipush (12) 254 dX10_eRead_252 rfl rfl ?_
          refine jr_icmp_gt 261 257 dX10_eRead_254 rfl rfl (fun q254 => ?_) (fun q => absurd (by decide) q)
          refine jr_iconst (0) 262 dX10_eRead_261 rfl rfl ?_
          refine jr_istore_n 2 (L' := [_, _, _, _]) 263 dX10_eRead_262 rfl rfl (by decide) rfl ?_
          refine jr_goto 14 dX10_eRead_263 rfl ?_
          exact ih (lx_n b tp p) 0 _ _ σ2 1 0 _ (au_f_go (st_b4 (t := 14) (s := 15) tt (by omega) rfl h4) h) (Or.inr (Or.inr ⟨rfl, rfl, rfl⟩)) hS2 (k2.1.trans ln) hn (by have := hgt (by omega); have := au_uw_len (5) H O; simp only [List.length_cons]; omega) (by rw [au_op_c _ (by decide) (by decide) (by decide)]; exact Nat.le_trans (au_uw_op _ _ _) hop)
        · refine jr_if_ne 249 247 dX10_eRead_244 rfl rfl (fun q => absurd (by decide) q) (fun q244 => ?_)
          refine jr_iconst (0) 248 dX10_eRead_247 rfl rfl ?_
          refine jr_ireturn dX10_eRead_248 rfl rfl ?_
          exact finF σ2 _ _ (au_f_end (st_b4F hs (by rw [tt]; rfl) h4) h) hS2.1 (by have := au_uw_len 5 H O; omega) (k2.2.1.trans lb)
      · refine jr_iload_n 1 19 dX10_eRead_18 rfl rfl rfl ?_
        refine jr_if_eq 150 22 dX10_eRead_19 rfl rfl (fun q19 => ?_) (fun q => absurd (by decide) q)
        refine jr_aload_n 0 151 dX10_eRead_150 rfl rfl rfl ?_
        refine gf_X10_131 154 dX10_eRead_151 rfl rfl rfl rfl ?_
        refine jr_topi (y := rtk (lx_t b tp p)) lt ?_
        refine jr_bipush (59) 156 dX10_eRead_154 rfl rfl ?_
        refine jr_icmp_ne 177 159 dX10_eRead_156 rfl rfl (fun q156 => ?_) (fun z => absurd z (r59 t22))
        refine jr_aload_n 0 178 dX10_eRead_177 rfl rfl rfl ?_
        refine gf_X10_131 181 dX10_eRead_178 rfl rfl rfl rfl ?_
        refine jr_topi (y := rtk (lx_t b tp p)) lt ?_
        refine jr_bipush (41) 183 dX10_eRead_181 rfl rfl ?_
        refine jr_icmp_ne 229 186 dX10_eRead_183 rfl rfl (fun q183 => ?_) (fun z => absurd z (r41 t21))
        refine jr_aload_n 0 230 dX10_eRead_229 rfl rfl rfl ?_
        refine cs_X10_171 233 dX10_eRead_230 rfl rfl rfl (Nat.le_of_ble_eq_true rfl) (wp_signOf lt hT.1 hT.2.1 ?_)
        refine jr_topi (y := nI 16) (by rw [tt]; rfl) ?_
        refine jr_istore_n 3 (L' := [_, _, _, _]) 234 dX10_eRead_233 rfl rfl (by decide) rfl ?_
        refine jr_iload_n 3 235 dX10_eRead_234 rfl rfl rfl ?_
        refine jr_iconst ((-1)) 236 dX10_eRead_235 rfl rfl ?_
        refine jr_icmp_eq 247 239 dX10_eRead_236 rfl rfl (fun q => absurd q (by decide)) (fun q236 => ?_)
        refine jr_aload_n 0 240 dX10_eRead_239 rfl rfl rfl ?_
        refine jr_iload_n 3 241 dX10_eRead_240 rfl rfl rfl ?_
        refine cs_X10_174 244 dX10_eRead_241 rfl rfl rfl (Nat.le_of_ble_eq_true rfl) (wp_btw (s := 16) (by decide) hS1 (by omega) (by decide) (fun σ2 hS2 k2 => ?_))
        refine jr_if_ne 249 247 dX10_eRead_244 rfl rfl (fun q244 => ?_) (fun q => absurd q (by decide))
        refine jr_iconst (1) 250 dX10_eRead_249 rfl rfl ?_
        refine jr_istore_n 1 (L' := [_, _, _, _]) 251 dX10_eRead_250 rfl rfl (by decide) rfl ?_
        refine jr_iload_n 3 252 dX10_eRead_251 rfl rfl rfl ?_
        refine jr_bipush (12) 254 dX10_eRead_252 rfl rfl ?_
        refine jr_icmp_gt 261 257 dX10_eRead_254 rfl rfl (fun q254 => ?_) (fun q => absurd (by decide) q)
        refine jr_iconst (0) 262 dX10_eRead_261 rfl rfl ?_
        refine jr_istore_n 2 (L' := [_, _, _, _]) 263 dX10_eRead_262 rfl rfl (by decide) rfl ?_
        refine jr_goto 14 dX10_eRead_263 rfl ?_
        exact ih (lx_n b tp p) 0 _ _ σ2 1 0 _ (au_f_go (st_b (t := 15) (s := 16) (r := 5) (m' := 0) tt (by omega) rfl) h) (Or.inr (Or.inr ⟨rfl, rfl, rfl⟩)) hS2 (k2.1.trans ln) hn (by have := hgt (by omega); have := au_uw_len (5) H O; simp only [List.length_cons]; omega) (by rw [au_op_c _ (by decide) (by decide) (by decide)]; exact Nat.le_trans (au_uw_op _ _ _) hop)
      · refine jr_iload_n 1 19 dX10_eRead_18 rfl rfl rfl ?_
        refine jr_if_eq 150 22 dX10_eRead_19 rfl rfl (fun q19 => ?_) (fun q => absurd (by decide) q)
        refine jr_aload_n 0 151 dX10_eRead_150 rfl rfl rfl ?_
        refine gf_X10_131 154 dX10_eRead_151 rfl rfl rfl rfl ?_
        refine jr_topi (y := rtk (lx_t b tp p)) lt ?_
        refine jr_bipush (59) 156 dX10_eRead_154 rfl rfl ?_
        refine jr_icmp_ne 177 159 dX10_eRead_156 rfl rfl (fun q156 => ?_) (fun z => absurd z (r59 t22))
        refine jr_aload_n 0 178 dX10_eRead_177 rfl rfl rfl ?_
        refine gf_X10_131 181 dX10_eRead_178 rfl rfl rfl rfl ?_
        refine jr_topi (y := rtk (lx_t b tp p)) lt ?_
        refine jr_bipush (41) 183 dX10_eRead_181 rfl rfl ?_
        refine jr_icmp_ne 229 186 dX10_eRead_183 rfl rfl (fun q183 => ?_) (fun z => absurd z (r41 t21))
        refine jr_aload_n 0 230 dX10_eRead_229 rfl rfl rfl ?_
        refine cs_X10_171 233 dX10_eRead_230 rfl rfl rfl (Nat.le_of_ble_eq_true rfl) (wp_signOf lt hT.1 hT.2.1 ?_)
        refine jr_topi (y := nI 17) (by rw [tt]; rfl) ?_
        refine jr_istore_n 3 (L' := [_, _, _, _]) 234 dX10_eRead_233 rfl rfl (by decide) rfl ?_
        refine jr_iload_n 3 235 dX10_eRead_234 rfl rfl rfl ?_
        refine jr_iconst ((-1)) 236 dX10_eRead_235 rfl rfl ?_
        refine jr_icmp_eq 247 239 dX10_eRead_236 rfl rfl (fun q => absurd q (by decide)) (fun q236 => ?_)
        refine jr_aload_n 0 240 dX10_eRead_239 rfl rfl rfl ?_
        refine jr_iload_n 3 241 dX10_eRead_240 rfl rfl rfl ?_
        refine cs_X10_174 244 dX10_eRead_241 rfl rfl rfl (Nat.le_of_ble_eq_true rfl) (wp_btw (s := 17) (by decide) hS1 (by omega) (by decide) (fun σ2 hS2 k2 => ?_))
        refine jr_if_ne 249 247 dX10_eRead_244 rfl rfl (fun q244 => ?_) (fun q => absurd q (by decide))
        refine jr_iconst (1) 250 dX10_eRead_249 rfl rfl ?_
        refine jr_istore_n 1 (L' := [_, _, _, _]) 251 dX10_eRead_250 rfl rfl (by decide) rfl ?_
        refine jr_iload_n 3 252 dX10_eRead_251 rfl rfl rfl ?_
        refine jr_bipush (12) 254 dX10_eRead_252 rfl rfl ?_
        refine jr_icmp_gt 261 257 dX10_eRead_254 rfl rfl (fun q254 => ?_) (fun q => absurd (by decide) q)
        refine jr_iconst (0) 262 dX10_eRead_261 rfl rfl ?_
        refine jr_istore_n 2 (L' := [_, _, _, _]) 263 dX10_eRead_262 rfl rfl (by decide) rfl ?_
        refine jr_goto 14 dX10_eRead_263 rfl ?_
        exact ih (lx_n b tp p) 0 _ _ σ2 1 0 _ (au_f_go (st_b (t := 16) (s := 17) (r := 5) (m' := 0) tt (by omega) rfl) h) (Or.inr (Or.inr ⟨rfl, rfl, rfl⟩)) hS2 (k2.1.trans ln) hn (by have := hgt (by omega); have := au_uw_len (5) H O; simp only [List.length_cons]; omega) (by rw [au_op_c _ (by decide) (by decide) (by decide)]; exact Nat.le_trans (au_uw_op _ _ _) hop)
      · refine jr_iload_n 1 19 dX10_eRead_18 rfl rfl rfl ?_
        refine jr_if_eq 150 22 dX10_eRead_19 rfl rfl (fun q19 => ?_) (fun q => absurd (by decide) q)
        refine jr_aload_n 0 151 dX10_eRead_150 rfl rfl rfl ?_
        refine gf_X10_131 154 dX10_eRead_151 rfl rfl rfl rfl ?_
        refine jr_topi (y := rtk (lx_t b tp p)) lt ?_
        refine jr_bipush (59) 156 dX10_eRead_154 rfl rfl ?_
        refine jr_icmp_ne 177 159 dX10_eRead_156 rfl rfl (fun q156 => ?_) (fun z => absurd z (r59 t22))
        refine jr_aload_n 0 178 dX10_eRead_177 rfl rfl rfl ?_
        refine gf_X10_131 181 dX10_eRead_178 rfl rfl rfl rfl ?_
        refine jr_topi (y := rtk (lx_t b tp p)) lt ?_
        refine jr_bipush (41) 183 dX10_eRead_181 rfl rfl ?_
        refine jr_icmp_ne 229 186 dX10_eRead_183 rfl rfl (fun q183 => ?_) (fun z => absurd z (r41 t21))
        refine jr_aload_n 0 230 dX10_eRead_229 rfl rfl rfl ?_
        refine cs_X10_171 233 dX10_eRead_230 rfl rfl rfl (Nat.le_of_ble_eq_true rfl) (wp_signOf lt hT.1 hT.2.1 ?_)
        refine jr_topi (y := nI 18) (by rw [tt]; rfl) ?_
        refine jr_istore_n 3 (L' := [_, _, _, _]) 234 dX10_eRead_233 rfl rfl (by decide) rfl ?_
        refine jr_iload_n 3 235 dX10_eRead_234 rfl rfl rfl ?_
        refine jr_iconst ((-1)) 236 dX10_eRead_235 rfl rfl ?_
        refine jr_icmp_eq 247 239 dX10_eRead_236 rfl rfl (fun q => absurd q (by decide)) (fun q236 => ?_)
        refine jr_aload_n 0 240 dX10_eRead_239 rfl rfl rfl ?_
        refine jr_iload_n 3 241 dX10_eRead_240 rfl rfl rfl ?_
        refine cs_X10_174 244 dX10_eRead_241 rfl rfl rfl (Nat.le_of_ble_eq_true rfl) (wp_btw (s := 18) (by decide) hS1 (by omega) (by decide) (fun σ2 hS2 k2 => ?_))
        refine jr_if_ne 249 247 dX10_eRead_244 rfl rfl (fun q244 => ?_) (fun q => absurd q (by decide))
        refine jr_iconst (1) 250 dX10_eRead_249 rfl rfl ?_
        refine jr_istore_n 1 (L' := [_, _, _, _]) 251 dX10_eRead_250 rfl rfl (by decide) rfl ?_
        refine jr_iload_n 3 252 dX10_eRead_251 rfl rfl rfl ?_
        refine jr_bipush (12) 254 dX10_eRead_252 rfl rfl ?_
        refine jr_icmp_gt 261 257 dX10_eRead_254 rfl rfl (fun q254 => ?_) (fun q => absurd (by decide) q)
        refine jr_iconst (0) 262 dX10_eRead_261 rfl rfl ?_
        refine jr_istore_n 2 (L' := [_, _, _, _]) 263 dX10_eRead_262 rfl rfl (by decide) rfl ?_
        refine jr_goto 14 dX10_eRead_263 rfl ?_
        exact ih (lx_n b tp p) 0 _ _ σ2 1 0 _ (au_f_go (st_b (t := 17) (s := 18) (r := 6) (m' := 0) tt (by omega) rfl) h) (Or.inr (Or.inr ⟨rfl, rfl, rfl⟩)) hS2 (k2.1.trans ln) hn (by have := hgt (by omega); have := au_uw_len (6) H O; simp only [List.length_cons]; omega) (by rw [au_op_c _ (by decide) (by decide) (by decide)]; exact Nat.le_trans (au_uw_op _ _ _) hop)
    · exact wants (by decide) rfl (Or.inl ⟨rfl, rfl⟩)
    · exact wants (by decide) rfl (Or.inr ⟨rfl, rfl⟩)
theorem wp_eRead {G : jr_G} {d : Nat} {σ : jr_Sg} {k : Value → jr_Sg → Prop} {b : Nat → Nat} {tp n p : Nat} {σ0 : jr_Sg} {O : List Nat} {R : au_R} (hQ : rQ b tp n σ0 σ O) (h23 : σ 46 23 = nI p) (hp : p ≤ tp) (hl : O.length ≤ p) (hR : au b tp (p, (1, ([], O))) R)
  (finF : ∀ σ' q O', R = .inl q → rQ b tp n σ0 σ' O' → O'.length ≤ 160 → σ' 46 24 = nI q → k (.int 0) σ')
  (finO : ∀ σ' p' O', R = .inr (p', O') → rQ b tp n σ0 σ' O' → σ' 46 23 = nI p' → k (.int 1) σ') : jr_M G (d + 4) mi_X10_eRead [.ref 46] σ (jr_k k) := by
  obtain ⟨M, hM⟩ := hR
  refine jr_enter (L := [some (.ref 46), none, none, none]) (by decide) (Nat.le_of_ble_eq_true rfl) rfl ?_
  refine jr_aload_n 0 1 dX10_eRead_0 rfl rfl rfl ?_
  refine jr_iconst (0) 2 dX10_eRead_1 rfl rfl ?_
  refine pf_X10_144 5 dX10_eRead_2 rfl rfl rfl rfl ?_
  refine jr_aload_n 0 6 dX10_eRead_5 rfl rfl rfl ?_
  refine jr_iconst (0) 7 dX10_eRead_6 rfl rfl ?_
  refine pf_X10_151 10 dX10_eRead_7 rfl rfl rfl rfl ?_
  refine jr_iconst (1) 11 dX10_eRead_10 rfl rfl ?_
  refine jr_istore_n 1 (L' := [_, _, _, _]) 12 dX10_eRead_11 rfl rfl (by decide) rfl ?_
  refine jr_iconst (1) 13 dX10_eRead_12 rfl rfl ?_
  refine jr_istore_n 2 (L' := [_, _, _, _]) 14 dX10_eRead_13 rfl rfl (by decide) rfl ?_
  exact er_loop finF finO M p 1 [] O _ 1 1 none hM (Or.inr (Or.inl ⟨rfl, rfl, rfl⟩)) ⟨rQ_fr (F := [29, 30]) hQ (fr46_up (fr46_up (fr46_rf _ _) (by decide)) (by decide)) (by decide), rfl, rfl, trivial⟩ h23 hp hl (by decide)
theorem rQ_55 {b : Nat → Nat} {tp n j : Nat} {σ0 σ : jr_Sg} {O : List Nat} {v : Int32} (h : rQ b tp n σ0 σ O) : rQ b tp n (jr_up σ0 55 j v) (jr_up σ 55 j v) O := by
  have e (τ : jr_Sg) (a : Nat) (ha : a ≠ 55) : jr_up τ 55 j v a = τ a := by
    unfold jr_up
    rw [if_neg ha]
  obtain ⟨h1, h2, h3, h4, h5, h6, h7⟩ := h
  unfold rQ tR iv_wd
  rw [e σ 46 (by decide), e σ 54 (by decide), e σ 53 (by decide), e σ 61 (by decide), e σ0 46 (by decide), e σ0 54 (by decide)]
  refine ⟨fun a ha => ?_, h2, h3, h4, h5, h6, h7⟩
  have e1 := h1 a ha
  unfold jr_up
  split
  · next z => rw [← z, e1]
  · exact e1
theorem rx_part {G : jr_G} {d : Nat} {σ σ0 : jr_Sg} {k : Value → jr_Sg → Prop} {b : Nat → Nat} {tp n p kk part : Nat} {O : List Nat} {P : List (List Nat)} {R : Nat ⊕ List (List Nat)} (hk : part + kk = 2) (ht : tq b tp (kk + 1) p O P R) (hQ : rQ b tp n σ0 σ O) (h23 : σ 46 23 = nI p) (hp : p ≤ tp) (hl : O.length ≤ p)
  (finF : ∀ σ' q O', R = .inl q → rQ b tp n (jr_up σ0 55 (4 * n + part) (nI O.length)) σ' O' → O'.length ≤ 160 → σ' 46 24 = nI q → jr_R G (d + 5) mi_X10_text (jr_k k) 26 [some (.ref 46), some (.int 0), some (.int (nI (part + 1)))] [] σ')
  (finO : ∀ σ' p' v, tq b tp kk p' (O ++ v) (P ++ [v]) R → rQ b tp n (jr_up σ0 55 (4 * n + part) (nI O.length)) σ' (O ++ v) → σ' 46 23 = nI p' → p' ≤ tp → (O ++ v).length ≤ p' → ev_wf 0 v → jr_R G (d + 5) mi_X10_text (jr_k k) 26 [some (.ref 46), some (.int 1), some (.int (nI (part + 1)))] [] σ') : jr_R G (d + 5) mi_X10_text (jr_k k) 26 [some (.ref 46), some (.int 1), some (.int (nI part))] [] σ := by
  have h160 := hQ.2.2.2.1.2.1
  have hn6 := hQ.2.2.1.2
  have hT := lx_t_le b tp p
  have hn := lx_n_le (b := b) hp
  have hge := lx_n_ge (b := b) (tp := tp) (p := p)
  obtain ⟨-, -, -, -, -, -, -, -, r3, r3y, -⟩ := rtk_tab ⟨lx_t b tp p, by omega⟩
  simp only at r3 r3y
  rcases ht with ⟨t1, eR⟩ | ⟨t1, hE⟩
  · by_cases t10 : 10 ≤ lx_t b tp p ∧ lx_t b tp p ≤ 12
    · refine jr_iload_n 2 27 dX10_text_26 rfl rfl rfl ?_
      refine jr_iconst ((nI 3)) 28 dX10_text_27 rfl rfl ?_
      refine jr_icmp_ge 101 31 dX10_text_28 rfl rfl (fun z => absurd z (nI_ge (b := 3) (by omega) (by decide))) (fun q28 => ?_)
      refine jr_iload_n 1 32 dX10_text_31 rfl rfl rfl ?_
      refine jr_if_eq 101 35 dX10_text_32 rfl rfl (fun q => absurd q (by decide)) (fun q32 => ?_)
      refine jr_aload_n 0 36 dX10_text_35 rfl rfl rfl ?_
      refine cs_X10_164 39 dX10_text_36 rfl rfl rfl (Nat.le_of_ble_eq_true rfl) (wp_next hQ.2.2.2.1 hp h23 (fun σ1 f1 l1 => ?_))
      have hQ1 := rQ_fr hQ f1 (by decide)
      obtain ⟨lt, -, -, l10, lb, ln⟩ := l1
      refine jr_aload_n 0 40 dX10_text_39 rfl rfl rfl ?_
      refine gf_X10_131 43 dX10_text_40 rfl rfl rfl rfl ?_
      refine jr_topi (y := (3 : Int32)) (lt.trans (r3y t10.1 t10.2)) ?_
      refine jr_iconst (3) 44 dX10_text_43 rfl rfl ?_
      refine jr_icmp_ne 59 47 dX10_text_44 rfl rfl (fun q => absurd (by decide) q) (fun q44 => ?_)
      refine jr_aload_n 0 48 dX10_text_47 rfl rfl rfl ?_
      refine gf_X10_134 51 dX10_text_48 rfl rfl rfl rfl ?_
      refine jr_topi (y := nI (lx_t b tp p - 10)) (l10 t10.1 t10.2) ?_
      refine jr_iload_n 2 52 dX10_text_51 rfl rfl rfl ?_
      refine jr_icmp_ne 59 55 dX10_text_52 rfl rfl (fun q52 => ?_) (fun z => absurd ((nI_eq (by omega) (by omega)).mp z) (by omega))
      refine jr_iconst (0) 60 dX10_text_59 rfl rfl ?_
      refine jr_istore_n 1 (L' := [_, _, _]) 61 dX10_text_60 rfl rfl (by decide) rfl ?_
      refine jr_aload_n 0 62 dX10_text_61 rfl rfl rfl ?_
      refine gf_X10_34 65 dX10_text_62 rfl rfl rfl rfl ?_
      refine jr_iconst ((nI 4)) 66 dX10_text_65 rfl rfl ?_
      refine jr_aload_n 0 67 dX10_text_66 rfl rfl rfl ?_
      refine gf_X10_115 70 dX10_text_67 rfl rfl rfl rfl ?_
      refine jr_topi (y := nI n) hQ1.2.2.1.1 ?_
      refine jr_imul 71 dX10_text_70 rfl ?_
      rw [pk_mul]
      refine jr_iload_n 2 72 dX10_text_71 rfl rfl rfl ?_
      refine jr_iadd 73 dX10_text_72 rfl ?_
      rw [nI_add]
      refine jr_aload_n 0 74 dX10_text_73 rfl rfl rfl ?_
      refine gf_X10_141 77 dX10_text_74 rfl rfl rfl rfl ?_
      refine jr_topi (y := nI O.length) hQ1.2.2.2.2.1 ?_
      refine jr_iast rfl rfl (by omega) 78 dX10_text_77 rfl ?_
      refine jr_iload_n 1 79 dX10_text_78 rfl rfl rfl ?_
      refine jr_if_eq 93 82 dX10_text_79 rfl rfl (fun q79 => ?_) (fun q => absurd (by decide) q)
      refine jr_iconst (0) 94 dX10_text_93 rfl rfl ?_
      refine jr_istore_n 1 (L' := [_, _, _]) 95 dX10_text_94 rfl rfl (by decide) rfl ?_
      refine jr_iinc (v := nI (part + 1)) (L' := [_, _, _]) 98 dX10_text_95 rfl rfl (nI_1 part) (by decide) rfl ?_
      refine jr_goto 26 dX10_text_98 rfl ?_
      exact finF _ _ O eR (rQ_55 hQ1) (by omega) lb
    · refine jr_iload_n 2 27 dX10_text_26 rfl rfl rfl ?_
      refine jr_iconst ((nI 3)) 28 dX10_text_27 rfl rfl ?_
      refine jr_icmp_ge 101 31 dX10_text_28 rfl rfl (fun z => absurd z (nI_ge (b := 3) (by omega) (by decide))) (fun q28 => ?_)
      refine jr_iload_n 1 32 dX10_text_31 rfl rfl rfl ?_
      refine jr_if_eq 101 35 dX10_text_32 rfl rfl (fun q => absurd q (by decide)) (fun q32 => ?_)
      refine jr_aload_n 0 36 dX10_text_35 rfl rfl rfl ?_
      refine cs_X10_164 39 dX10_text_36 rfl rfl rfl (Nat.le_of_ble_eq_true rfl) (wp_next hQ.2.2.2.1 hp h23 (fun σ1 f1 l1 => ?_))
      have hQ1 := rQ_fr hQ f1 (by decide)
      obtain ⟨lt, -, -, l10, lb, ln⟩ := l1
      refine jr_aload_n 0 40 dX10_text_39 rfl rfl rfl ?_
      refine gf_X10_131 43 dX10_text_40 rfl rfl rfl rfl ?_
      refine jr_topi (y := rtk (lx_t b tp p)) lt ?_
      refine jr_iconst (3) 44 dX10_text_43 rfl rfl ?_
      refine jr_icmp_ne 59 47 dX10_text_44 rfl rfl (fun q44 => ?_) (fun z => absurd z (r3 t10))
      refine jr_iconst (0) 60 dX10_text_59 rfl rfl ?_
      refine jr_istore_n 1 (L' := [_, _, _]) 61 dX10_text_60 rfl rfl (by decide) rfl ?_
      refine jr_aload_n 0 62 dX10_text_61 rfl rfl rfl ?_
      refine gf_X10_34 65 dX10_text_62 rfl rfl rfl rfl ?_
      refine jr_iconst ((nI 4)) 66 dX10_text_65 rfl rfl ?_
      refine jr_aload_n 0 67 dX10_text_66 rfl rfl rfl ?_
      refine gf_X10_115 70 dX10_text_67 rfl rfl rfl rfl ?_
      refine jr_topi (y := nI n) hQ1.2.2.1.1 ?_
      refine jr_imul 71 dX10_text_70 rfl ?_
      rw [pk_mul]
      refine jr_iload_n 2 72 dX10_text_71 rfl rfl rfl ?_
      refine jr_iadd 73 dX10_text_72 rfl ?_
      rw [nI_add]
      refine jr_aload_n 0 74 dX10_text_73 rfl rfl rfl ?_
      refine gf_X10_141 77 dX10_text_74 rfl rfl rfl rfl ?_
      refine jr_topi (y := nI O.length) hQ1.2.2.2.2.1 ?_
      refine jr_iast rfl rfl (by omega) 78 dX10_text_77 rfl ?_
      refine jr_iload_n 1 79 dX10_text_78 rfl rfl rfl ?_
      refine jr_if_eq 93 82 dX10_text_79 rfl rfl (fun q79 => ?_) (fun q => absurd (by decide) q)
      refine jr_iconst (0) 94 dX10_text_93 rfl rfl ?_
      refine jr_istore_n 1 (L' := [_, _, _]) 95 dX10_text_94 rfl rfl (by decide) rfl ?_
      refine jr_iinc (v := nI (part + 1)) (L' := [_, _, _]) 98 dX10_text_95 rfl rfl (nI_1 part) (by decide) rfl ?_
      refine jr_goto 26 dX10_text_98 rfl ?_
      exact finF _ _ O eR (rQ_55 hQ1) (by omega) lb
  · have t10 : 10 ≤ lx_t b tp p ∧ lx_t b tp p ≤ 12 := by omega
    have epart : lx_t b tp p - 10 = part := by omega
    rcases hE with ⟨q, hau, eR⟩ | ⟨p2, v, hau, hwf, hp2, hl2, htq⟩
    · refine jr_iload_n 2 27 dX10_text_26 rfl rfl rfl ?_
      refine jr_iconst ((nI 3)) 28 dX10_text_27 rfl rfl ?_
      refine jr_icmp_ge 101 31 dX10_text_28 rfl rfl (fun z => absurd z (nI_ge (b := 3) (by omega) (by decide))) (fun q28 => ?_)
      refine jr_iload_n 1 32 dX10_text_31 rfl rfl rfl ?_
      refine jr_if_eq 101 35 dX10_text_32 rfl rfl (fun q => absurd q (by decide)) (fun q32 => ?_)
      refine jr_aload_n 0 36 dX10_text_35 rfl rfl rfl ?_
      refine cs_X10_164 39 dX10_text_36 rfl rfl rfl (Nat.le_of_ble_eq_true rfl) (wp_next hQ.2.2.2.1 hp h23 (fun σ1 f1 l1 => ?_))
      have hQ1 := rQ_fr hQ f1 (by decide)
      obtain ⟨lt, -, -, l10, lb, ln⟩ := l1
      refine jr_aload_n 0 40 dX10_text_39 rfl rfl rfl ?_
      refine gf_X10_131 43 dX10_text_40 rfl rfl rfl rfl ?_
      refine jr_topi (y := (3 : Int32)) (lt.trans (r3y t10.1 t10.2)) ?_
      refine jr_iconst (3) 44 dX10_text_43 rfl rfl ?_
      refine jr_icmp_ne 59 47 dX10_text_44 rfl rfl (fun q => absurd (by decide) q) (fun q44 => ?_)
      refine jr_aload_n 0 48 dX10_text_47 rfl rfl rfl ?_
      refine gf_X10_134 51 dX10_text_48 rfl rfl rfl rfl ?_
      refine jr_topi (y := nI part) ((l10 t10.1 t10.2).trans (by rw [epart])) ?_
      refine jr_iload_n 2 52 dX10_text_51 rfl rfl rfl ?_
      refine jr_icmp_ne 59 55 dX10_text_52 rfl rfl (fun z => absurd rfl z) (fun q52 => ?_)
      refine jr_iconst (1) 56 dX10_text_55 rfl rfl ?_
      refine jr_goto 60 dX10_text_56 rfl ?_
      refine jr_istore_n 1 (L' := [_, _, _]) 61 dX10_text_60 rfl rfl (by decide) rfl ?_
      refine jr_aload_n 0 62 dX10_text_61 rfl rfl rfl ?_
      refine gf_X10_34 65 dX10_text_62 rfl rfl rfl rfl ?_
      refine jr_iconst ((nI 4)) 66 dX10_text_65 rfl rfl ?_
      refine jr_aload_n 0 67 dX10_text_66 rfl rfl rfl ?_
      refine gf_X10_115 70 dX10_text_67 rfl rfl rfl rfl ?_
      refine jr_topi (y := nI n) hQ1.2.2.1.1 ?_
      refine jr_imul 71 dX10_text_70 rfl ?_
      rw [pk_mul]
      refine jr_iload_n 2 72 dX10_text_71 rfl rfl rfl ?_
      refine jr_iadd 73 dX10_text_72 rfl ?_
      rw [nI_add]
      refine jr_aload_n 0 74 dX10_text_73 rfl rfl rfl ?_
      refine gf_X10_141 77 dX10_text_74 rfl rfl rfl rfl ?_
      refine jr_topi (y := nI O.length) hQ1.2.2.2.2.1 ?_
      refine jr_iast rfl rfl (by omega) 78 dX10_text_77 rfl ?_
      refine jr_iload_n 1 79 dX10_text_78 rfl rfl rfl ?_
      refine jr_if_eq 93 82 dX10_text_79 rfl rfl (fun q => absurd q (by decide)) (fun q79 => ?_)
      refine jr_aload_n 0 83 dX10_text_82 rfl rfl rfl ?_
      refine cs_X10_177 86 dX10_text_83 rfl rfl rfl (Nat.le_of_ble_eq_true rfl) (wp_eRead (rQ_55 hQ1) (by exact ln) hn (by omega) hau (fun σ2 q2 O2 e2 hQ2 hO2 h24 => ?_) (fun σ2 p2 O2 e2 hQ2 h23' => ?_))
      · refine jr_if_eq 93 89 dX10_text_86 rfl rfl (fun q86 => ?_) (fun q => absurd (by decide) q)
        refine jr_iconst (0) 94 dX10_text_93 rfl rfl ?_
        refine jr_istore_n 1 (L' := [_, _, _]) 95 dX10_text_94 rfl rfl (by decide) rfl ?_
        refine jr_iinc (v := nI (part + 1)) (L' := [_, _, _]) 98 dX10_text_95 rfl rfl (nI_1 part) (by decide) rfl ?_
        refine jr_goto 26 dX10_text_98 rfl ?_
        have e3 : q = q2 := Sum.inl.inj e2
        subst e3
        exact finF _ _ O2 eR hQ2 hO2 h24
      · refine jr_if_eq 93 89 dX10_text_86 rfl rfl (fun q => absurd q (by decide)) (fun q86 => ?_)
        refine jr_iconst (1) 90 dX10_text_89 rfl rfl ?_
        refine jr_goto 94 dX10_text_90 rfl ?_
        refine jr_istore_n 1 (L' := [_, _, _]) 95 dX10_text_94 rfl rfl (by decide) rfl ?_
        refine jr_iinc (v := nI (part + 1)) (L' := [_, _, _]) 98 dX10_text_95 rfl rfl (nI_1 part) (by decide) rfl ?_
        refine jr_goto 26 dX10_text_98 rfl ?_
        cases e2
    · refine jr_iload_n 2 27 dX10_text_26 rfl rfl rfl ?_
      refine jr_iconst ((nI 3)) 28 dX10_text_27 rfl rfl ?_
      refine jr_icmp_ge 101 31 dX10_text_28 rfl rfl (fun z => absurd z (nI_ge (b := 3) (by omega) (by decide))) (fun q28 => ?_)
      refine jr_iload_n 1 32 dX10_text_31 rfl rfl rfl ?_
      refine jr_if_eq 101 35 dX10_text_32 rfl rfl (fun q => absurd q (by decide)) (fun q32 => ?_)
      refine jr_aload_n 0 36 dX10_text_35 rfl rfl rfl ?_
      refine cs_X10_164 39 dX10_text_36 rfl rfl rfl (Nat.le_of_ble_eq_true rfl) (wp_next hQ.2.2.2.1 hp h23 (fun σ1 f1 l1 => ?_))
      have hQ1 := rQ_fr hQ f1 (by decide)
      obtain ⟨lt, -, -, l10, lb, ln⟩ := l1
      refine jr_aload_n 0 40 dX10_text_39 rfl rfl rfl ?_
      refine gf_X10_131 43 dX10_text_40 rfl rfl rfl rfl ?_
      refine jr_topi (y := (3 : Int32)) (lt.trans (r3y t10.1 t10.2)) ?_
      refine jr_iconst (3) 44 dX10_text_43 rfl rfl ?_
      refine jr_icmp_ne 59 47 dX10_text_44 rfl rfl (fun q => absurd (by decide) q) (fun q44 => ?_)
      refine jr_aload_n 0 48 dX10_text_47 rfl rfl rfl ?_
      refine gf_X10_134 51 dX10_text_48 rfl rfl rfl rfl ?_
      refine jr_topi (y := nI part) ((l10 t10.1 t10.2).trans (by rw [epart])) ?_
      refine jr_iload_n 2 52 dX10_text_51 rfl rfl rfl ?_
      refine jr_icmp_ne 59 55 dX10_text_52 rfl rfl (fun z => absurd rfl z) (fun q52 => ?_)
      refine jr_iconst (1) 56 dX10_text_55 rfl rfl ?_
      refine jr_goto 60 dX10_text_56 rfl ?_
      refine jr_istore_n 1 (L' := [_, _, _]) 61 dX10_text_60 rfl rfl (by decide) rfl ?_
      refine jr_aload_n 0 62 dX10_text_61 rfl rfl rfl ?_
      refine gf_X10_34 65 dX10_text_62 rfl rfl rfl rfl ?_
      refine jr_iconst ((nI 4)) 66 dX10_text_65 rfl rfl ?_
      refine jr_aload_n 0 67 dX10_text_66 rfl rfl rfl ?_
      refine gf_X10_115 70 dX10_text_67 rfl rfl rfl rfl ?_
      refine jr_topi (y := nI n) hQ1.2.2.1.1 ?_
      refine jr_imul 71 dX10_text_70 rfl ?_
      rw [pk_mul]
      refine jr_iload_n 2 72 dX10_text_71 rfl rfl rfl ?_
      refine jr_iadd 73 dX10_text_72 rfl ?_
      rw [nI_add]
      refine jr_aload_n 0 74 dX10_text_73 rfl rfl rfl ?_
      refine gf_X10_141 77 dX10_text_74 rfl rfl rfl rfl ?_
      refine jr_topi (y := nI O.length) hQ1.2.2.2.2.1 ?_
      refine jr_iast rfl rfl (by omega) 78 dX10_text_77 rfl ?_
      refine jr_iload_n 1 79 dX10_text_78 rfl rfl rfl ?_
      refine jr_if_eq 93 82 dX10_text_79 rfl rfl (fun q => absurd q (by decide)) (fun q79 => ?_)
      refine jr_aload_n 0 83 dX10_text_82 rfl rfl rfl ?_
      refine cs_X10_177 86 dX10_text_83 rfl rfl rfl (Nat.le_of_ble_eq_true rfl) (wp_eRead (rQ_55 hQ1) (by exact ln) hn (by omega) hau (fun σ2 q2 O2 e2 hQ2 hO2 h24 => ?_) (fun σ2 p3 O3 e2 hQ2 h23' => ?_))
      · refine jr_if_eq 93 89 dX10_text_86 rfl rfl (fun q86 => ?_) (fun q => absurd (by decide) q)
        refine jr_iconst (0) 94 dX10_text_93 rfl rfl ?_
        refine jr_istore_n 1 (L' := [_, _, _]) 95 dX10_text_94 rfl rfl (by decide) rfl ?_
        refine jr_iinc (v := nI (part + 1)) (L' := [_, _, _]) 98 dX10_text_95 rfl rfl (nI_1 part) (by decide) rfl ?_
        refine jr_goto 26 dX10_text_98 rfl ?_
        cases e2
      · refine jr_if_eq 93 89 dX10_text_86 rfl rfl (fun q => absurd q (by decide)) (fun q86 => ?_)
        refine jr_iconst (1) 90 dX10_text_89 rfl rfl ?_
        refine jr_goto 94 dX10_text_90 rfl ?_
        refine jr_istore_n 1 (L' := [_, _, _]) 95 dX10_text_94 rfl rfl (by decide) rfl ?_
        refine jr_iinc (v := nI (part + 1)) (L' := [_, _, _]) 98 dX10_text_95 rfl rfl (nI_1 part) (by decide) rfl ?_
        refine jr_goto 26 dX10_text_98 rfl ?_
        have e3 := Sum.inr.inj e2
        have e4 : p2 = p3 := congrArg Prod.fst e3
        have e5 : O ++ v = O3 := congrArg Prod.snd e3
        subst e4
        subst e5
        exact finO _ p2 v htq hQ2 h23' hp2 hl2 hwf
theorem rx_endF {G : jr_G} {d : Nat} {σ σ0 : jr_Sg} {k : Value → jr_Sg → Prop} {b : Nat → Nat} {tp n : Nat} {O : List Nat} {x2 : Option Value} {q : Nat} (hQ : rQ b tp n σ0 σ O) (h24 : σ 46 24 = nI q) (h : k (.int (-100 - nI q)) (jr_up (jr_up σ 55 (4 * n + 3) (nI O.length)) 46 9 0)) : jr_R G (d + 5) mi_X10_text (jr_k k) 122 [some (.ref 46), some (.int 0), x2] [] σ := by
  have hn6 := hQ.2.2.1.2
  refine jr_aload_n 0 123 dX10_text_122 rfl rfl rfl ?_
  refine gf_X10_34 126 dX10_text_123 rfl rfl rfl rfl ?_
  refine jr_iconst ((nI 4)) 127 dX10_text_126 rfl rfl ?_
  refine jr_aload_n 0 128 dX10_text_127 rfl rfl rfl ?_
  refine gf_X10_115 131 dX10_text_128 rfl rfl rfl rfl ?_
  refine jr_topi (y := nI n) hQ.2.2.1.1 ?_
  refine jr_imul 132 dX10_text_131 rfl ?_
  rw [pk_mul]
  refine jr_iconst ((nI 3)) 133 dX10_text_132 rfl rfl ?_
  refine jr_iadd 134 dX10_text_133 rfl ?_
  rw [nI_add]
  refine jr_aload_n 0 135 dX10_text_134 rfl rfl rfl ?_
  refine gf_X10_141 138 dX10_text_135 rfl rfl rfl rfl ?_
  refine jr_topi (y := nI O.length) hQ.2.2.2.2.1 ?_
  refine jr_iast rfl rfl (by omega) 139 dX10_text_138 rfl ?_
  refine jr_aload_n 0 140 dX10_text_139 rfl rfl rfl ?_
  refine jr_iconst (0) 141 dX10_text_140 rfl rfl ?_
  refine pf_X10_98 144 dX10_text_141 rfl rfl rfl rfl ?_
  refine jr_iload_n 1 145 dX10_text_144 rfl rfl rfl ?_
  refine jr_if_ne 156 148 dX10_text_145 rfl rfl (fun q => absurd (by decide) q) (fun q145 => ?_)
  refine jr_bipush ((-100)) 150 dX10_text_148 rfl rfl ?_
  refine jr_aload_n 0 151 dX10_text_150 rfl rfl rfl ?_
  refine gf_X10_128 154 dX10_text_151 rfl rfl rfl rfl ?_
  refine jr_topi (y := nI q) ((up46 (by decide)).trans h24) ?_
  refine jr_isub 155 dX10_text_154 rfl ?_
  refine jr_ireturn dX10_text_155 rfl rfl ?_
  exact h
theorem rx_endO {G : jr_G} {d : Nat} {σ σ0 : jr_Sg} {k : Value → jr_Sg → Prop} {b : Nat → Nat} {tp n : Nat} {O : List Nat} {x2 : Option Value} (hQ : rQ b tp n σ0 σ O) (h : k (.int (nI n)) (jr_up (jr_up (jr_up σ 55 (4 * n + 3) (nI O.length)) 46 9 0) 46 12 (nI (n + 1)))) : jr_R G (d + 5) mi_X10_text (jr_k k) 122 [some (.ref 46), some (.int 1), x2] [] σ := by
  have hn6 := hQ.2.2.1.2
  refine jr_aload_n 0 123 dX10_text_122 rfl rfl rfl ?_
  refine gf_X10_34 126 dX10_text_123 rfl rfl rfl rfl ?_
  refine jr_iconst ((nI 4)) 127 dX10_text_126 rfl rfl ?_
  refine jr_aload_n 0 128 dX10_text_127 rfl rfl rfl ?_
  refine gf_X10_115 131 dX10_text_128 rfl rfl rfl rfl ?_
  refine jr_topi (y := nI n) hQ.2.2.1.1 ?_
  refine jr_imul 132 dX10_text_131 rfl ?_
  rw [pk_mul]
  refine jr_iconst ((nI 3)) 133 dX10_text_132 rfl rfl ?_
  refine jr_iadd 134 dX10_text_133 rfl ?_
  rw [nI_add]
  refine jr_aload_n 0 135 dX10_text_134 rfl rfl rfl ?_
  refine gf_X10_141 138 dX10_text_135 rfl rfl rfl rfl ?_
  refine jr_topi (y := nI O.length) hQ.2.2.2.2.1 ?_
  refine jr_iast rfl rfl (by omega) 139 dX10_text_138 rfl ?_
  refine jr_aload_n 0 140 dX10_text_139 rfl rfl rfl ?_
  refine jr_iconst (0) 141 dX10_text_140 rfl rfl ?_
  refine pf_X10_98 144 dX10_text_141 rfl rfl rfl rfl ?_
  refine jr_iload_n 1 145 dX10_text_144 rfl rfl rfl ?_
  refine jr_if_ne 156 148 dX10_text_145 rfl rfl (fun q145 => ?_) (fun q => absurd q (by decide))
  refine jr_aload_n 0 157 dX10_text_156 rfl rfl rfl ?_
  refine jr_dup 158 dX10_text_157 rfl rfl ?_
  refine gf_X10_115 161 dX10_text_158 rfl rfl rfl rfl ?_
  refine jr_topi (y := nI n) ((up46 (by decide)).trans hQ.2.2.1.1) ?_
  refine jr_iconst ((nI 1)) 162 dX10_text_161 rfl rfl ?_
  refine jr_iadd 163 dX10_text_162 rfl ?_
  rw [nI_add]
  refine pf_X10_115 166 dX10_text_163 rfl rfl rfl rfl ?_
  refine jr_aload_n 0 167 dX10_text_166 rfl rfl rfl ?_
  refine gf_X10_115 170 dX10_text_167 rfl rfl rfl rfl ?_
  refine jr_topi (y := nI (n + 1)) rfl ?_
  refine jr_iconst ((nI 1)) 171 dX10_text_170 rfl rfl ?_
  refine jr_isub 172 dX10_text_171 rfl ?_
  rw [pk_sub (by omega), Nat.add_sub_cancel]
  refine jr_ireturn dX10_text_172 rfl rfl ?_
  exact h
theorem wp_rtext {G : jr_G} {d : Nat} {σ : jr_Sg} {k : Value → jr_Sg → Prop} {b : Nat → Nat} {tp n : Nat} {R : Nat ⊕ List (List Nat)} (ht : tR b tp σ) (hn : σ 46 12 = nI n) (hn6 : n < 6) (hR : tq b tp 3 0 [] [] R)
  (kF : ∀ σ' q, R = .inl q → (∀ a, a ∉ [46, 54, 55, 62] → σ' a = σ a) → (∀ j, j ∉ [9, 12, 23, 24, 25, 26, 29, 30, 31] → σ' 46 j = σ 46 j) → σ' 46 9 = 0 → (∀ j, j < 200 * n → σ' 54 j = σ 54 j) → (∀ j, j < 4 * n → σ' 55 j = σ 55 j) → σ' 46 12 = nI n → k (.int (-100 - nI q)) σ')
  (kO : ∀ σ' w0 w1 w2, R = .inr [w0, w1, w2] → (∀ a, a ∉ [46, 54, 55, 62] → σ' a = σ a) → (∀ j, j ∉ [9, 12, 23, 24, 25, 26, 29, 30, 31] → σ' 46 j = σ 46 j) → σ' 46 9 = 0 → (∀ j, j < 200 * n → σ' 54 j = σ 54 j) → (∀ j, j < 4 * n → σ' 55 j = σ 55 j) → σ' 46 12 = nI (n + 1) → (∀ i, i < (w0 ++ w1 ++ w2).length → σ' 54 (200 * n + i) = nI ((w0 ++ w1 ++ w2).getD i 0)) → σ' 55 (4 * n) = 0 → σ' 55 (4 * n + 1) = nI w0.length → σ' 55 (4 * n + 2) = nI (w0.length + w1.length) → σ' 55 (4 * n + 3) = nI (w0.length + w1.length + w2.length) → k (.int (nI n)) σ') : jr_M G (d + 6) mi_X10_text [.ref 46] σ (jr_k k) := by
  have h160 := ht.2.1
  have e55 (τ : jr_Sg) (a j : Nat) (v : Int32) (ha : a ≠ 55) : jr_up τ 55 j v a = τ a := by
    unfold jr_up
    rw [if_neg ha]
  -- the end of a fault
  have key : ∀ (σb σ1 : jr_Sg) (x2 : Option Value) (O : List Nat) (q : Nat), (∀ a, a ≠ 55 → a ≠ 46 → σb a = σ a) → (∀ j, j ∉ [23, 24, 25, 26, 29, 30, 31] → σb 46 j = σ 46 j) → (∀ j, j < 4 * n → σb 55 j = σ 55 j) → R = .inl q → rQ b tp n σb σ1 O → σ1 46 24 = nI q → jr_R G (d + 5 + 1) mi_X10_text (jr_k k) 122 [some (.ref 46), some (.int 0), x2] [] σ1 := fun σb σ1 x2 O q hb1 hb2 hb3 eR hQ h24 => by
    refine rx_endF hQ h24 (kF _ q eR (fun a ha => ?_) (fun j hj => ?_) rfl (fun j hj => ?_) (fun j hj => ?_) ?_)
    · simp only [List.mem_cons, not_or, List.not_mem_nil, not_false_eq_true, and_true] at ha
      have e1 : jr_up (jr_up σ1 55 (4 * n + 3) (nI O.length)) 46 9 0 a = σ1 a := by
        unfold jr_up
        rw [if_neg (by omega), if_neg (by omega)]
      rw [e1, hQ.1 a (by simp only [List.mem_cons, not_or, List.not_mem_nil, not_false_eq_true, and_true]; omega), hb1 a (by omega) (by omega)]
    · simp only [List.mem_cons, not_or, List.not_mem_nil, not_false_eq_true, and_true] at hj
      rw [up46 (by omega), e55 _ 46 _ _ (by decide), hQ.2.1 j (by simp only [List.mem_cons, not_or, List.not_mem_nil, not_false_eq_true, and_true]; omega)]
      exact hb2 j (by simp only [List.mem_cons, not_or, List.not_mem_nil, not_false_eq_true, and_true]; omega)
    · have e1 : jr_up (jr_up σ1 55 (4 * n + 3) (nI O.length)) 46 9 0 54 = σ1 54 := rfl
      rw [e1, hQ.2.2.2.2.2.1 j hj, hb1 54 (by decide) (by decide)]
    · have e1 : jr_up (jr_up σ1 55 (4 * n + 3) (nI O.length)) 46 9 0 55 = upd (σ1 55) (4 * n + 3) (nI O.length) := rfl
      rw [e1, pk_un (by omega), hQ.1 55 (by decide), hb3 j hj]
    · exact (up46 (by decide)).trans hQ.2.2.1.1
  -- the bases
  have b1 : ∀ a, a ≠ 55 → a ≠ 46 → jr_up (jr_up σ 46 23 0) 46 31 0 a = σ a := fun a _ h => by
    unfold jr_up
    rw [if_neg h, if_neg h]
  have bq : ∀ j, j ∉ [23, 24, 25, 26, 29, 30, 31] → jr_up (jr_up σ 46 23 0) 46 31 0 46 j = σ 46 j := fun j hj => by
    simp only [List.mem_cons, not_or, List.not_mem_nil, not_false_eq_true, and_true] at hj
    rw [up46 (by omega), up46 (by omega)]
  have hQ0 : rQ b tp n (jr_up (jr_up σ 46 23 0) 46 31 0) (jr_up (jr_up σ 46 23 0) 46 31 0) [] := ⟨fun _ _ => rfl, fun _ _ => rfl, ⟨((up46 (by decide)).trans (up46 (by decide))).trans hn, hn6⟩, tR_fr (F := [23, 31]) ht (fr46_up (fr46_up (fr46_rf _ _) (by decide)) (by decide)) (by decide), rfl, fun _ _ => rfl, fun i hi => absurd hi (Nat.not_lt_zero _)⟩
  have bA : ∀ (τ : jr_Sg) (v : Int32) (j : Nat), (∀ a, a ≠ 55 → a ≠ 46 → τ a = σ a) → (∀ a, a ≠ 55 → a ≠ 46 → jr_up τ 55 j v a = σ a) := fun τ v j h a h1 h2 => (e55 τ a j v h1).trans (h a h1 h2)
  have bB : ∀ (τ : jr_Sg) (v : Int32) (j : Nat), (∀ i, i ∉ [23, 24, 25, 26, 29, 30, 31] → τ 46 i = σ 46 i) → (∀ i, i ∉ [23, 24, 25, 26, 29, 30, 31] → jr_up τ 55 j v 46 i = σ 46 i) := fun τ v j h i hi => by
    rw [e55 τ 46 j v (by decide)]
    exact h i hi
  have bC : ∀ (τ : jr_Sg) (v : Int32) (j : Nat), 4 * n ≤ j → (∀ i, i < 4 * n → τ 55 i = σ 55 i) → (∀ i, i < 4 * n → jr_up τ 55 j v 55 i = σ 55 i) := fun τ v j hj h i hi => by
    show upd (τ 55) j v i = _
    rw [pk_un (by omega)]
    exact h i hi
  refine jr_enter (L := [some (.ref 46), none, none]) (by decide) (Nat.le_of_ble_eq_true rfl) rfl ?_
  refine jr_aload_n 0 1 dX10_text_0 rfl rfl rfl ?_
  refine gf_X10_115 4 dX10_text_1 rfl rfl rfl rfl ?_
  refine jr_topi (y := nI n) hn ?_
  refine jr_bipush ((nI 6)) 6 dX10_text_4 rfl rfl ?_
  refine jr_icmp_ne 12 9 dX10_text_6 rfl rfl (fun q6 => ?_) (fun z => absurd ((nI_eq (by omega) (by decide)).mp z) (by omega))
  refine jr_aload_n 0 13 dX10_text_12 rfl rfl rfl ?_
  refine jr_iconst (0) 14 dX10_text_13 rfl rfl ?_
  refine pf_X10_125 17 dX10_text_14 rfl rfl rfl rfl ?_
  refine jr_aload_n 0 18 dX10_text_17 rfl rfl rfl ?_
  refine jr_iconst (0) 19 dX10_text_18 rfl rfl ?_
  refine pf_X10_141 22 dX10_text_19 rfl rfl rfl rfl ?_
  refine jr_iconst (1) 23 dX10_text_22 rfl rfl ?_
  refine jr_istore_n 1 (L' := [_, _, _]) 24 dX10_text_23 rfl rfl (by decide) rfl ?_
  refine jr_iconst ((nI 0)) 25 dX10_text_24 rfl rfl ?_
  refine jr_istore_n 2 (L' := [_, _, _]) 26 dX10_text_25 rfl rfl (by decide) rfl ?_
  refine rx_part (d := d + 1) (part := 0) (kk := 2) rfl hR hQ0 ((up46 (by decide)).trans rfl) (Nat.zero_le _) (Nat.le_refl 0) (fun σ1 q O1 eR hQ1 _ h24 => ?_) (fun σ1 p1 w0 ht1 hQ1 g1 hp1 hl1 _ => ?_)
  · refine jr_iload_n 2 27 dX10_text_26 rfl rfl rfl ?_
    refine jr_iconst ((nI 3)) 28 dX10_text_27 rfl rfl ?_
    refine jr_icmp_ge 101 31 dX10_text_28 rfl rfl (fun z => absurd z (by decide)) (fun q28 => ?_)
    refine jr_iload_n 1 32 dX10_text_31 rfl rfl rfl ?_
    refine jr_if_eq 101 35 dX10_text_32 rfl rfl (fun q32 => ?_) (fun q => absurd (by decide) q)
    refine jr_iload_n 1 102 dX10_text_101 rfl rfl rfl ?_
    refine jr_if_eq 122 105 dX10_text_102 rfl rfl (fun q102 => ?_) (fun q => absurd (by decide) q)
    exact key _ σ1 _ O1 q (bA _ _ _ b1) (bB _ _ _ bq) (bC _ _ _ (by omega) (fun _ _ => rfl)) eR hQ1 h24
  · refine rx_part (d := d + 1) (part := 1) (kk := 1) rfl ht1 hQ1 g1 hp1 hl1 (fun σ1 q O1 eR hQ1 _ h24 => ?_) (fun σ2 p2 w1 ht2 hQ2 g2 hp2 hl2 _ => ?_)
    · refine jr_iload_n 2 27 dX10_text_26 rfl rfl rfl ?_
      refine jr_iconst ((nI 3)) 28 dX10_text_27 rfl rfl ?_
      refine jr_icmp_ge 101 31 dX10_text_28 rfl rfl (fun z => absurd z (by decide)) (fun q28 => ?_)
      refine jr_iload_n 1 32 dX10_text_31 rfl rfl rfl ?_
      refine jr_if_eq 101 35 dX10_text_32 rfl rfl (fun q32 => ?_) (fun q => absurd (by decide) q)
      refine jr_iload_n 1 102 dX10_text_101 rfl rfl rfl ?_
      refine jr_if_eq 122 105 dX10_text_102 rfl rfl (fun q102 => ?_) (fun q => absurd (by decide) q)
      exact key _ σ1 _ O1 q (bA _ _ _ (bA _ _ _ b1)) (bB _ _ _ (bB _ _ _ bq)) (bC _ _ _ (by omega) (bC _ _ _ (by omega) (fun _ _ => rfl))) eR hQ1 h24
    · refine rx_part (d := d + 1) (part := 2) (kk := 0) rfl ht2 hQ2 g2 hp2 hl2 (fun σ1 q O1 eR hQ1 _ h24 => ?_) (fun σ3 p3 w2 ht3 hQ3 g3 hp3 hl3 _ => ?_)
      · refine jr_iload_n 2 27 dX10_text_26 rfl rfl rfl ?_
        refine jr_iconst ((nI 3)) 28 dX10_text_27 rfl rfl ?_
        refine jr_icmp_ge 101 31 dX10_text_28 rfl rfl (fun q28 => ?_) (fun z => absurd (by decide) z)
        refine jr_iload_n 1 102 dX10_text_101 rfl rfl rfl ?_
        refine jr_if_eq 122 105 dX10_text_102 rfl rfl (fun q102 => ?_) (fun q => absurd (by decide) q)
        exact key _ σ1 _ O1 q (bA _ _ _ (bA _ _ _ (bA _ _ _ b1))) (bB _ _ _ (bB _ _ _ (bB _ _ _ bq))) (bC _ _ _ (by omega) (bC _ _ _ (by omega) (bC _ _ _ (by omega) (fun _ _ => rfl)))) eR hQ1 h24
      · refine jr_iload_n 2 27 dX10_text_26 rfl rfl rfl ?_
        refine jr_iconst ((nI 3)) 28 dX10_text_27 rfl rfl ?_
        refine jr_icmp_ge 101 31 dX10_text_28 rfl rfl (fun q28 => ?_) (fun z => absurd (by decide) z)
        refine jr_iload_n 1 102 dX10_text_101 rfl rfl rfl ?_
        refine jr_if_eq 122 105 dX10_text_102 rfl rfl (fun q => absurd q (by decide)) (fun q102 => ?_)
        refine jr_aload_n 0 106 dX10_text_105 rfl rfl rfl ?_
        refine cs_X10_164 109 dX10_text_106 rfl rfl rfl (Nat.le_of_ble_eq_true rfl) (wp_next hQ3.2.2.2.1 hp3 g3 (fun σ4 f4 l4 => ?_))
        have hQ4 := rQ_fr hQ3 f4 (by decide)
        obtain ⟨lt, -, -, -, lb, ln⟩ := l4
        obtain ⟨-, -, -, -, -, -, -, -, -, -, r0⟩ := rtk_tab ⟨lx_t b tp p3, by have := lx_t_le b tp p3; omega⟩
        simp only at r0
        rcases ht3 with ⟨t23, eR⟩ | ⟨t23, eR⟩
        · have s55 : jr_up (jr_up (jr_up σ4 55 (4 * n + 3) (nI ([] ++ w0 ++ w1 ++ w2).length)) 46 9 0) 46 12 (nI (n + 1)) 55 = upd (upd (upd (upd (σ 55) (4 * n + 0) (nI ([] : List Nat).length)) (4 * n + 1) (nI ([] ++ w0).length)) (4 * n + 2) (nI ([] ++ w0 ++ w1).length)) (4 * n + 3) (nI ([] ++ w0 ++ w1 ++ w2).length) := by
            have e1 : jr_up (jr_up (jr_up σ4 55 (4 * n + 3) (nI ([] ++ w0 ++ w1 ++ w2).length)) 46 9 0) 46 12 (nI (n + 1)) 55 = upd (σ4 55) (4 * n + 3) (nI ([] ++ w0 ++ w1 ++ w2).length) := rfl
            rw [e1, hQ4.1 55 (by decide)]
            rfl
          refine jr_aload_n 0 110 dX10_text_109 rfl rfl rfl ?_
          refine gf_X10_131 113 dX10_text_110 rfl rfl rfl rfl ?_
          refine jr_topi (y := (0 : Int32)) (lt.trans (by rw [t23]; rfl)) ?_
          refine jr_if_ne 120 116 dX10_text_113 rfl rfl (fun q => absurd (by decide) q) (fun q113 => ?_)
          refine jr_iconst (1) 117 dX10_text_116 rfl rfl ?_
          refine jr_goto 121 dX10_text_117 rfl ?_
          refine jr_istore_n 1 (L' := [_, _, _]) 122 dX10_text_121 rfl rfl (by decide) rfl ?_
          refine rx_endO hQ4 (kO _ w0 w1 w2 eR (fun a ha => ?_) (fun j hj => ?_) rfl (fun j hj => ?_) (fun j hj => ?_) rfl (fun i hi => ?_) ?_ ?_ ?_ ?_)
          · simp only [List.mem_cons, not_or, List.not_mem_nil, not_false_eq_true, and_true] at ha
            have e1 : jr_up (jr_up (jr_up σ4 55 (4 * n + 3) (nI ([] ++ w0 ++ w1 ++ w2).length)) 46 9 0) 46 12 (nI (n + 1)) a = σ4 a := by
              unfold jr_up
              rw [if_neg (by omega), if_neg (by omega), if_neg (by omega)]
            rw [e1, hQ4.1 a (by simp only [List.mem_cons, not_or, List.not_mem_nil, not_false_eq_true, and_true]; omega)]
            exact bA _ _ _ (bA _ _ _ (bA _ _ _ b1)) a (by omega) (by omega)
          · simp only [List.mem_cons, not_or, List.not_mem_nil, not_false_eq_true, and_true] at hj
            rw [up46 (by omega), up46 (by omega), e55 _ 46 _ _ (by decide), hQ4.2.1 j (by simp only [List.mem_cons, not_or, List.not_mem_nil, not_false_eq_true, and_true]; omega)]
            exact bB _ _ _ (bB _ _ _ (bB _ _ _ bq)) j (by simp only [List.mem_cons, not_or, List.not_mem_nil, not_false_eq_true, and_true]; omega)
          · have e1 : jr_up (jr_up (jr_up σ4 55 (4 * n + 3) (nI ([] ++ w0 ++ w1 ++ w2).length)) 46 9 0) 46 12 (nI (n + 1)) 54 = σ4 54 := rfl
            rw [e1, hQ4.2.2.2.2.2.1 j hj]
            rfl
          · rw [s55, pk_un (by omega), pk_un (by omega), pk_un (by omega), pk_un (by omega)]
          · have e1 : jr_up (jr_up (jr_up σ4 55 (4 * n + 3) (nI ([] ++ w0 ++ w1 ++ w2).length)) 46 9 0) 46 12 (nI (n + 1)) 54 = σ4 54 := rfl
            rw [e1]
            exact hQ4.2.2.2.2.2.2 i hi
          · rw [s55, pk_un (by omega), pk_un (by omega), pk_un (by omega)]
            exact (pk_us : upd (σ 55) (4 * n + 0) _ (4 * n + 0) = nI 0)
          · rw [s55, pk_un (by omega), pk_un (by omega), pk_us]
            rfl
          · rw [s55, pk_un (by omega), pk_us]
            congr 1
            simp
          · rw [s55, pk_us]
            congr 1
            simp [Nat.add_assoc]
        · refine jr_aload_n 0 110 dX10_text_109 rfl rfl rfl ?_
          refine gf_X10_131 113 dX10_text_110 rfl rfl rfl rfl ?_
          refine jr_topi (y := rtk (lx_t b tp p3)) lt ?_
          refine jr_if_ne 120 116 dX10_text_113 rfl rfl (fun q113 => ?_) (fun z => absurd z (r0 t23 (lx_t_le b tp p3).1))
          refine jr_iconst (0) 121 dX10_text_120 rfl rfl ?_
          refine jr_istore_n 1 (L' := [_, _, _]) 122 dX10_text_121 rfl rfl (by decide) rfl ?_
          exact key _ σ4 _ _ _ (bA _ _ _ (bA _ _ _ (bA _ _ _ b1))) (bB _ _ _ (bB _ _ _ (bB _ _ _ bq))) (bC _ _ _ (by omega) (bC _ _ _ (by omega) (bC _ _ _ (by omega) (fun _ _ => rfl)))) eR hQ4 lb

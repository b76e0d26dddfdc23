def sr_ok (σ : jr_Sg) (nf nc : Nat) (kd se : Nat → Nat) : Prop := σ 46 1 = nI nf ∧ nf ≤ 5 ∧ σ 46 6 = nI nc ∧ nc ≤ 8 ∧ ∀ f, f < nf → kd f < 6 ∧ se f < 8 ∧ σ 48 f = nI (kd f) ∧ σ 51 f = nI (se f) ∧ ∃ b : Nat, b ≤ 9 ∧ σ 49 f = nI b
theorem sr_ok_of {σ σ' : jr_Sg} {nf nc : Nat} {kd se : Nat → Nat} (h : sr_ok σ nf nc kd se) (e0 : σ' 46 = σ 46) (e1 : σ' 48 = σ 48) (e2 : σ' 49 = σ 49) (e4 : σ' 51 = σ 51) : sr_ok σ' nf nc kd se := by
  unfold sr_ok at h ⊢
  rw [e0, e1, e2, e4]
  exact h
noncomputable def pr_ca (σ : jr_Sg) (nc f : Nat) (t : Nat) : Int32 := pu_cau (σ 46 39) (σ 46 40) (σ 46 41) (nI f) (nI t) (pr_cs (σ 52) (pu_if (nI t = σ 46 45) (σ 70 f) 0) (nI f) (nI t) nc)
noncomputable def pr_dr (σ : jr_Sg) (f : Nat) (t : Nat) : Int32 := pu_if (σ 71 f = nI t) (σ 46 46) 0
/-- one SECOND by the reference's state σ -/
noncomputable def sr_step (T : Nat → Nat → List Nat) (lw nf nc : Nat) (kd se : Nat → Nat) (σ : jr_Sg) (f t : Nat) (q : Int32 × Int32) : Int32 × Int32 :=
  sm_step (ev_t T lw) nf (σ 49) (kd f) (pu_redf (kd f) (σ 49 f) (σ 47 (se f))) (σ 47 (se f)) f (pr_bl σ f) (σ 46 39) (σ 46 40) (σ 46 41) (pr_ca σ nc f) (fun _ => 0) (pr_dr σ f) t q
noncomputable def sm_R (T : Nat → Nat → List Nat) (lw nf nc : Nat) (kd se : Nat → Nat) (σ : jr_Sg) (f : Nat) : Nat → Int32 × Int32 :=
  sm_tr (ev_t T lw) nf (σ 49) (kd f) (pu_redf (kd f) (σ 49 f) (σ 47 (se f))) (σ 47 (se f)) f (pr_bl σ f) (σ 46 39) (σ 46 40) (σ 46 41) (pr_ca σ nc f) (fun _ => 0) (pr_dr σ f) (σ 50 f)
theorem pu_within_mm4 (v : Int32) : pu_max 0 (pu_min 400 v) = pu_within v 0 400 := by
  unfold pu_max pu_min pu_within
  grind
theorem pw_nat4 (x : Int32) : ∃ a : Nat, a ≤ 400 ∧ pu_within x 0 400 = nI a := by
  rcases pk_ix x (n := 401) (by omega) with q | q | ⟨j, hj, rfl⟩
  · exact ⟨0, by omega, by unfold pu_within; rw [if_pos q]; rfl⟩
  · refine ⟨400, by omega, ?_⟩
    have h1 : ¬ x < 0 := Int32.not_lt.mpr (Int32.le_trans (by decide) q)
    have h2 : (400 : Int32) < x := Int32.lt_of_lt_of_le (by decide) q
    unfold pu_within
    rw [if_neg h1, if_pos h2]
    rfl
  · refine ⟨j, by omega, ?_⟩
    unfold pu_within
    rw [if_neg (nI_pos (by omega)), if_neg (show ¬ (400 : Int32) < nI j from nI_nlt (a := 400) (by omega) (by omega))]
theorem pw_lot0 (x : Int32) : pu_min 400 (pu_within x 0 400 + 0) = pu_within x 0 400 := by
  obtain ⟨a, ha, e⟩ := pw_nat4 x
  rw [e, Int32.add_zero]
  unfold pu_min
  by_cases h : nI a < 400
  · rw [if_pos h]
  · rw [if_neg h]
    have h2 : ¬ a < 400 := fun q => h (nI_lt (b := 400) q (by omega))
    rw [show a = 400 by omega]
    rfl
theorem pw_lot {m : Nat} (hm : m ≤ 400) (x : Int32) : pu_within (pu_within x 0 400 + nI m) 0 400 = pu_min 400 (pu_within x 0 400 + nI m) := by
  obtain ⟨a, ha, e⟩ := pw_nat4 x
  rw [e, nI_add]
  unfold pu_within pu_min
  rw [if_neg (nI_pos (by omega))]
  by_cases h : a + m < 400
  · rw [if_neg (show ¬ (400 : Int32) < nI (a + m) from nI_nlt (a := 400) (by omega) (by omega)), if_pos (show nI (a + m) < (400 : Int32) from nI_lt (b := 400) h (by omega))]
  · rw [if_neg (show ¬ nI (a + m) < (400 : Int32) from nI_nlt (b := 400) (by omega) (by omega))]
    by_cases h2 : 400 < a + m
    · rw [if_pos (show (400 : Int32) < nI (a + m) from nI_lt (a := 400) h2 (by omega))]
    · rw [show a + m = 400 by omega]
      rfl
theorem seconds_l3 {G : jr_G} {d : Nat} {σ : jr_Sg} {k : jr_Sg → Prop} {T : Nat → Nat → List Nat} {n lw nf nc : Nat} {kd se : Nat → Nat} (hsr : sr_ok σ nf nc kd se) (hlm : ∃ m : Nat, m ≤ 400 ∧ σ 46 46 = nI m) (hT : ti_R T n σ) (hlw : lw < n) (hru : σ 46 13 = nI lw) {t : Nat} (ht : t < 40) (h0 : t = 0 → ∀ f, f < nf → σ 67 f = 0) (hk : ∀ σ' : jr_Sg, jr_eqx [63, 64, 65, 66, 67, 68, 69] σ σ' → (∀ f, f < nf → σ' 65 f = (sr_step T lw nf nc kd se σ f t (σ 65 f, σ 67 f)).1 ∧ σ' 67 f = (sr_step T lw nf nc kd se σ f t (σ 65 f, σ 67 f)).2 ∧ σ' 69 (5 * t + f) = (sr_step T lw nf nc kd se σ f t (σ 65 f, σ 67 f)).1) → (∀ i, i < 5 * t ∨ 5 * t + 5 ≤ i → σ' 69 i = σ 69 i) → k σ') : ∀ (m j : Nat) (σ1 : jr_Sg), j + m = nf → jr_eqx [63, 64, 65, 66, 67, 68, 69] σ σ1 → (∀ f, f < nf → σ1 66 f = σ 65 f ∧ σ1 67 f = (sr_step T lw nf nc kd se σ f t (σ 65 f, σ 67 f)).2) → (∀ f, f < j → σ1 65 f = (sr_step T lw nf nc kd se σ f t (σ 65 f, σ 67 f)).1 ∧ σ1 69 (5 * t + f) = (sr_step T lw nf nc kd se σ f t (σ 65 f, σ 67 f)).1) → (∀ i, i < 5 * t ∨ 5 * t + 5 ≤ i → σ1 69 i = σ 69 i) → jr_R G (d + 4) mi_X10_seconds (jr_kv k) 78 [some (.ref 46), some (.int (nI t)), some (.int (nI j))] [] σ1 := by
  intro m
  induction m with
  | zero =>
    intro j σ1 hj he ha hd hr
    have e : j = nf := hj
    subst e
    have hnf1 : σ1 46 1 = nI j := by rw [he 46 (by decide)]; exact hsr.1
    refine jr_iload_n 2 79 dX10_seconds_78 rfl rfl rfl ?_
    refine jr_aload_n 0 80 dX10_seconds_79 rfl rfl rfl ?_
    refine gf_X10_105 83 dX10_seconds_80 rfl rfl rfl rfl ?_
    rw [hnf1]
    refine jr_icmp_ge 191 86 dX10_seconds_83 rfl rfl (fun q83 => ?_) (fun z => absurd (Int32.le_refl _) z)
    refine jr_return dX10_seconds_191 rfl ?_
    exact hk σ1 he (fun f hf => ⟨(hd f hf).1, (ha f hf).2, (hd f hf).2⟩) hr
  | succ m ih =>
    intro j σ1 hj he ha hd hr
    have hsr0 := hsr
    obtain ⟨hnf, h5, hnc, h8, hall⟩ := hsr
    obtain ⟨hk6, hs8, hkd, hse, hmo⟩ := hall j (by omega)
    obtain ⟨m0, hm0, em0⟩ := hlm
    have hnf1 : σ1 46 1 = nI nf := by rw [he 46 (by decide)]; exact hnf
    have hT1 : ti_R T n σ1 := ti_R_of hT (by rw [he 46 (by decide)]) (he 54 (by decide)) (he 55 (by decide))
    have hru1 : σ1 46 13 = nI lw := by rw [he 46 (by decide)]; exact hru
    have e51 : σ1 51 j = nI (se j) := by rw [he 51 (by decide)]; exact hse
    have e48 : σ1 48 j = nI (kd j) := by rw [he 48 (by decide)]; exact hkd
    have e49 : ∃ b : Nat, b ≤ 9 ∧ σ1 49 j = nI b := by rw [he 49 (by decide)]; exact hmo
    have e66 : σ1 66 j = σ 65 j := (ha j (by omega)).1
    have e67 := (ha j (by omega)).2
    have e71 : σ1 71 j = σ 71 j := by rw [he 71 (by decide)]
    have e46 : σ1 46 46 = nI m0 := by rw [he 46 (by decide)]; exact em0
    have hj5 : j < 5 := by omega
    have hstep : (sr_step T lw nf nc kd se σ j t (σ 65 j, σ 67 j)).1 = pu_min 400 (pu_within (σ 65 j + pu_wso (σ 46 39) (σ 46 40) (σ 46 41) (nI j) (nI t) (pu_warms (kd j) (σ 49 j) (pu_within (ev_t T lw 0 (pu_nm (σ 65 j) (sr_step T lw nf nc kd se σ j t (σ 65 j, σ 67 j)).2 (σ 47 (se j)) (nI t) (if (pu_redf (kd j) (σ 49 j) (σ 47 (se j))) ≤ σ 65 j then (1 : Int32) else 0) (σ 49 j))) 0 99) (if (pu_redf (kd j) (σ 49 j) (σ 47 (se j))) ≤ σ 65 j then (1 : Int32) else 0)) (σ 49 j) + pr_ca σ nc j t - pu_cso (σ 46 39) (σ 46 40) (σ 46 41) (nI j) (nI t) (pu_cools (kd j) (σ 49 j) (pu_within (ev_t T lw 1 (pu_nm (σ 65 j) (sr_step T lw nf nc kd se σ j t (σ 65 j, σ 67 j)).2 (σ 47 (se j)) (nI t) (if (pu_redf (kd j) (σ 49 j) (σ 47 (se j))) ≤ σ 65 j then (1 : Int32) else 0) (σ 49 j))) 0 99) (σ 65 j))) 0 400 + pr_dr σ j t) := by
      rw [← pu_within_mm4]
      show pu_min 400 (pu_max 0 (pu_min 400 (σ 65 j + (pu_wso (σ 46 39) (σ 46 40) (σ 46 41) (nI j) (nI t) (pu_warms (kd j) (σ 49 j) (pu_within (ev_t T lw 0 (pu_nm (σ 65 j) (sr_step T lw nf nc kd se σ j t (σ 65 j, σ 67 j)).2 (σ 47 (se j)) (nI t) (if (pu_redf (kd j) (σ 49 j) (σ 47 (se j))) ≤ σ 65 j then (1 : Int32) else 0) (σ 49 j))) 0 99) (if (pu_redf (kd j) (σ 49 j) (σ 47 (se j))) ≤ σ 65 j then (1 : Int32) else 0)) (σ 49 j) + pr_ca σ nc j t + 0) - pu_cso (σ 46 39) (σ 46 40) (σ 46 41) (nI j) (nI t) (pu_cools (kd j) (σ 49 j) (pu_within (ev_t T lw 1 (pu_nm (σ 65 j) (sr_step T lw nf nc kd se σ j t (σ 65 j, σ 67 j)).2 (σ 47 (se j)) (nI t) (if (pu_redf (kd j) (σ 49 j) (σ 47 (se j))) ≤ σ 65 j then (1 : Int32) else 0) (σ 49 j))) 0 99) (σ 65 j)))) + pr_dr σ j t) = _
      rw [Int32.add_zero, ← Int32.add_assoc]
    refine jr_iload_n 2 79 dX10_seconds_78 rfl rfl rfl ?_
    refine jr_aload_n 0 80 dX10_seconds_79 rfl rfl rfl ?_
    refine gf_X10_105 83 dX10_seconds_80 rfl rfl rfl rfl ?_
    rw [hnf1]
    refine jr_icmp_ge 191 86 dX10_seconds_83 rfl rfl (fun z => absurd z (nI_ge (by omega) (by omega))) (fun q83 => ?_)
    refine jr_aload_n 0 87 dX10_seconds_86 rfl rfl rfl ?_
    refine gf_X10_64 90 dX10_seconds_87 rfl rfl rfl rfl ?_
    refine jr_iload_n 2 91 dX10_seconds_90 rfl rfl rfl ?_
    refine jr_aload_n 0 92 dX10_seconds_91 rfl rfl rfl ?_
    refine gf_X10_67 95 dX10_seconds_92 rfl rfl rfl rfl ?_
    refine jr_iload_n 2 96 dX10_seconds_95 rfl rfl rfl ?_
    refine jr_iale rfl rfl hj5 e66 97 dX10_seconds_96 rfl ?_
    refine jr_aload_n 0 98 dX10_seconds_97 rfl rfl rfl ?_
    refine jr_iload_n 2 99 dX10_seconds_98 rfl rfl rfl ?_
    refine jr_iload_n 1 100 dX10_seconds_99 rfl rfl rfl ?_
    refine cs_X10_235 103 dX10_seconds_100 rfl rfl rfl (Nat.le_of_ble_eq_true rfl) (wp_warmsBy (T := T) (n := n) (lw := lw) hj5 e48 hk6 e51 hs8 hT1 hlw hru1 e49 (fun g1 g2 => ?_))
    refine jr_topi (y := pu_wso (σ 46 39) (σ 46 40) (σ 46 41) (nI j) (nI t) (pu_warms (kd j) (σ 49 j) (pu_within (ev_t T lw 0 (pu_nm (σ 65 j) (sr_step T lw nf nc kd se σ j t (σ 65 j, σ 67 j)).2 (σ 47 (se j)) (nI t) (if (pu_redf (kd j) (σ 49 j) (σ 47 (se j))) ≤ σ 65 j then (1 : Int32) else 0) (σ 49 j))) 0 99) (if (pu_redf (kd j) (σ 49 j) (σ 47 (se j))) ≤ σ 65 j then (1 : Int32) else 0)) (σ 49 j)) (by rw [e66, e67, he 46 (by decide), he 47 (by decide), he 49 (by decide)]) ?_
    have g5 : jr_eqx [63, 64] σ1 (jr_upc (jr_upc σ1 64 g1) 63 g2) := jr_eqx_tr (jr_eqx_upc _ _ (by decide)) (jr_eqx_upc _ _ (by decide))
    generalize jr_upc (jr_upc σ1 64 g1) 63 g2 = σ2 at g5 ⊢
    have e51 : σ2 51 j = nI (se j) := by rw [g5 51 (by decide)]; exact e51
    have e48 : σ2 48 j = nI (kd j) := by rw [g5 48 (by decide)]; exact e48
    have e66 : σ2 66 j = σ 65 j := by rw [g5 66 (by decide)]; exact e66
    have e67 : σ2 67 j = (sr_step T lw nf nc kd se σ j t (σ 65 j, σ 67 j)).2 := by rw [g5 67 (by decide)]; exact e67
    have e71 : σ2 71 j = σ 71 j := by rw [g5 71 (by decide)]; exact e71
    have e46 : σ2 46 46 = nI m0 := by rw [g5 46 (by decide)]; exact e46
    have hru1 : σ2 46 13 = nI lw := by rw [g5 46 (by decide)]; exact hru1
    have hT1 : ti_R T n σ2 := ti_R_of hT1 (by rw [g5 46 (by decide)]) (g5 54 (by decide)) (g5 55 (by decide))
    have he : jr_eqx [63, 64, 65, 66, 67, 68, 69] σ σ2 := jr_eqx_tr he (jr_eqx_w g5 (by simp))
    refine jr_iadd 104 dX10_seconds_103 rfl ?_
    refine jr_aload_n 0 105 dX10_seconds_104 rfl rfl rfl ?_
    refine jr_iload_n 2 106 dX10_seconds_105 rfl rfl rfl ?_
    refine jr_iload_n 1 107 dX10_seconds_106 rfl rfl rfl ?_
    refine cs_X10_238 110 dX10_seconds_107 rfl rfl rfl (Nat.le_of_ble_eq_true rfl) (wp_rcausedTo hj5 (nc := nc) (by rw [he 46 (by decide)]; exact hnc) h8 ?_)
    refine jr_topi (y := pr_ca σ nc j t) (by rw [he 46 (by decide), he 52 (by decide), he 70 (by decide)]; rfl) ?_
    refine jr_iadd 111 dX10_seconds_110 rfl ?_
    refine jr_aload_n 0 112 dX10_seconds_111 rfl rfl rfl ?_
    refine jr_iload_n 2 113 dX10_seconds_112 rfl rfl rfl ?_
    refine jr_iload_n 1 114 dX10_seconds_113 rfl rfl rfl ?_
    refine cs_X10_241 117 dX10_seconds_114 rfl rfl rfl (Nat.le_of_ble_eq_true rfl) (wp_coolsBy (T := T) (n := n) (lw := lw) hj5 e48 hk6 e51 hs8 hT1 hlw hru1 (fun g3 g4 => ?_))
    refine jr_topi (y := pu_cso (σ 46 39) (σ 46 40) (σ 46 41) (nI j) (nI t) (pu_cools (kd j) (σ 49 j) (pu_within (ev_t T lw 1 (pu_nm (σ 65 j) (sr_step T lw nf nc kd se σ j t (σ 65 j, σ 67 j)).2 (σ 47 (se j)) (nI t) (if (pu_redf (kd j) (σ 49 j) (σ 47 (se j))) ≤ σ 65 j then (1 : Int32) else 0) (σ 49 j))) 0 99) (σ 65 j))) (by rw [e66, e67, he 46 (by decide), he 47 (by decide), he 49 (by decide)]) ?_
    have g6 : jr_eqx [63, 64] σ2 (jr_upc (jr_upc σ2 64 g3) 63 g4) := jr_eqx_tr (jr_eqx_upc _ _ (by decide)) (jr_eqx_upc _ _ (by decide))
    generalize jr_upc (jr_upc σ2 64 g3) 63 g4 = σ3 at g6 ⊢
    have e51 : σ3 51 j = nI (se j) := by rw [g6 51 (by decide)]; exact e51
    have e48 : σ3 48 j = nI (kd j) := by rw [g6 48 (by decide)]; exact e48
    have e66 : σ3 66 j = σ 65 j := by rw [g6 66 (by decide)]; exact e66
    have e67 : σ3 67 j = (sr_step T lw nf nc kd se σ j t (σ 65 j, σ 67 j)).2 := by rw [g6 67 (by decide)]; exact e67
    have e71 : σ3 71 j = σ 71 j := by rw [g6 71 (by decide)]; exact e71
    have e46 : σ3 46 46 = nI m0 := by rw [g6 46 (by decide)]; exact e46
    have hru1 : σ3 46 13 = nI lw := by rw [g6 46 (by decide)]; exact hru1
    have hT1 : ti_R T n σ3 := ti_R_of hT1 (by rw [g6 46 (by decide)]) (g6 54 (by decide)) (g6 55 (by decide))
    have he : jr_eqx [63, 64, 65, 66, 67, 68, 69] σ σ3 := jr_eqx_tr he (jr_eqx_w g6 (by simp))
    refine jr_isub 118 dX10_seconds_117 rfl ?_
    refine jr_iconst (nI 0) 119 dX10_seconds_118 rfl rfl ?_
    refine jr_sipush (nI 400) 122 dX10_seconds_119 rfl rfl ?_
    refine cs_X10_188 125 dX10_seconds_122 rfl rfl (Nat.le_of_ble_eq_true rfl) (wp_within ?_)
    refine jr_iast rfl rfl hj5 126 dX10_seconds_125 rfl ?_
    refine jr_aload_n 0 127 dX10_seconds_126 rfl rfl rfl ?_
    refine gf_X10_64 130 dX10_seconds_127 rfl rfl rfl rfl ?_
    refine jr_iload_n 2 131 dX10_seconds_130 rfl rfl rfl ?_
    refine jr_aload_n 0 132 dX10_seconds_131 rfl rfl rfl ?_
    refine gf_X10_92 135 dX10_seconds_132 rfl rfl rfl rfl ?_
    refine jr_iload_n 2 136 dX10_seconds_135 rfl rfl rfl ?_
    refine jr_iale rfl rfl hj5 e71 137 dX10_seconds_136 rfl ?_
    refine jr_iload_n 1 138 dX10_seconds_137 rfl rfl rfl ?_
    refine jr_icmp_ne 162 141 dX10_seconds_138 rfl rfl (fun q138 => ?_) (fun q138 => ?_)
    · refine jr_aload_n 0 163 dX10_seconds_162 rfl rfl rfl ?_
      refine gf_X10_64 166 dX10_seconds_163 rfl rfl rfl rfl ?_
      refine jr_iload_n 2 167 dX10_seconds_166 rfl rfl rfl ?_
      refine jr_iale rfl rfl hj5 pk_us 168 dX10_seconds_167 rfl ?_
      refine jr_iast rfl rfl hj5 169 dX10_seconds_168 rfl ?_
      refine jr_aload_n 0 170 dX10_seconds_169 rfl rfl rfl ?_
      refine gf_X10_76 173 dX10_seconds_170 rfl rfl rfl rfl ?_
      refine jr_iconst (nI 5) 174 dX10_seconds_173 rfl rfl ?_
      refine jr_iload_n 1 175 dX10_seconds_174 rfl rfl rfl ?_
      refine jr_imul 176 dX10_seconds_175 rfl ?_
      refine jr_iload_n 2 177 dX10_seconds_176 rfl rfl rfl ?_
      refine jr_iadd 178 dX10_seconds_177 rfl ?_
      refine jr_aload_n 0 179 dX10_seconds_178 rfl rfl rfl ?_
      refine gf_X10_64 182 dX10_seconds_179 rfl rfl rfl rfl ?_
      refine jr_iload_n 2 183 dX10_seconds_182 rfl rfl rfl ?_
      refine jr_iale rfl rfl hj5 pk_us 184 dX10_seconds_183 rfl ?_
      refine jr_iast rfl (k := 5 * t + j) (by rw [pk_mul, nI_add]) (by omega) 185 dX10_seconds_184 rfl ?_
      refine jr_iinc (v := nI (j + 1)) (L' := [_, _, _]) 188 dX10_seconds_185 rfl rfl (nI_1 j) (by decide) rfl ?_
      refine jr_goto 78 dX10_seconds_188 rfl ?_
      refine ih (j + 1) _ (by omega) (jr_eqx_tr he (jr_eqx_tr (jr_eqx_tr (jr_eqx_up _ _ _ (by decide)) (jr_eqx_up _ _ _ (by decide))) (jr_eqx_up _ _ _ (by decide)))) (fun f hf => ?_) (fun f hf => ?_) (fun i hi => ?_)
      · exact ⟨by show σ3 66 f = _; rw [g6 66 (by decide), g5 66 (by decide)]; exact (ha f hf).1, by show σ3 67 f = _; rw [g6 67 (by decide), g5 67 (by decide)]; exact (ha f hf).2⟩
      · rcases (by omega : f = j ∨ f < j) with rfl | q
        · have ev : pr_dr σ f t = 0 := pu_if_f q138
          rw [hstep, ev]
          exact ⟨pk_us.trans (pw_lot0 _).symm, pk_us.trans (pw_lot0 _).symm⟩
        · exact ⟨by show upd (upd (σ3 65) j _) j _ f = _; rw [pk_un (by omega), pk_un (by omega), g6 65 (by decide), g5 65 (by decide)]; exact (hd f q).1, by show upd (σ3 69) (5 * t + j) _ (5 * t + f) = _; rw [pk_un (by omega), g6 69 (by decide), g5 69 (by decide)]; exact (hd f q).2⟩
      · show upd (σ3 69) (5 * t + j) _ i = _
        rw [pk_un (by omega), g6 69 (by decide), g5 69 (by decide)]
        exact hr i hi
    · refine jr_aload_n 0 142 dX10_seconds_141 rfl rfl rfl ?_
      refine gf_X10_64 145 dX10_seconds_142 rfl rfl rfl rfl ?_
      refine jr_iload_n 2 146 dX10_seconds_145 rfl rfl rfl ?_
      refine jr_iale rfl rfl hj5 pk_us 147 dX10_seconds_146 rfl ?_
      refine jr_aload_n 0 148 dX10_seconds_147 rfl rfl rfl ?_
      refine gf_X10_244 151 dX10_seconds_148 rfl rfl rfl rfl ?_
      refine jr_topi (y := nI m0) e46 ?_
      refine jr_iadd 152 dX10_seconds_151 rfl ?_
      refine jr_iconst (nI 0) 153 dX10_seconds_152 rfl rfl ?_
      refine jr_sipush (nI 400) 156 dX10_seconds_153 rfl rfl ?_
      refine cs_X10_188 159 dX10_seconds_156 rfl rfl (Nat.le_of_ble_eq_true rfl) (wp_within ?_)
      refine jr_goto 168 dX10_seconds_159 rfl ?_
      refine jr_iast rfl rfl hj5 169 dX10_seconds_168 rfl ?_
      refine jr_aload_n 0 170 dX10_seconds_169 rfl rfl rfl ?_
      refine gf_X10_76 173 dX10_seconds_170 rfl rfl rfl rfl ?_
      refine jr_iconst (nI 5) 174 dX10_seconds_173 rfl rfl ?_
      refine jr_iload_n 1 175 dX10_seconds_174 rfl rfl rfl ?_
      refine jr_imul 176 dX10_seconds_175 rfl ?_
      refine jr_iload_n 2 177 dX10_seconds_176 rfl rfl rfl ?_
      refine jr_iadd 178 dX10_seconds_177 rfl ?_
      refine jr_aload_n 0 179 dX10_seconds_178 rfl rfl rfl ?_
      refine gf_X10_64 182 dX10_seconds_179 rfl rfl rfl rfl ?_
      refine jr_iload_n 2 183 dX10_seconds_182 rfl rfl rfl ?_
      refine jr_iale rfl rfl hj5 pk_us 184 dX10_seconds_183 rfl ?_
      refine jr_iast rfl (k := 5 * t + j) (by rw [pk_mul, nI_add]) (by omega) 185 dX10_seconds_184 rfl ?_
      refine jr_iinc (v := nI (j + 1)) (L' := [_, _, _]) 188 dX10_seconds_185 rfl rfl (nI_1 j) (by decide) rfl ?_
      refine jr_goto 78 dX10_seconds_188 rfl ?_
      refine ih (j + 1) _ (by omega) (jr_eqx_tr he (jr_eqx_tr (jr_eqx_tr (jr_eqx_up _ _ _ (by decide)) (jr_eqx_up _ _ _ (by decide))) (jr_eqx_up _ _ _ (by decide)))) (fun f hf => ?_) (fun f hf => ?_) (fun i hi => ?_)
      · exact ⟨by show σ3 66 f = _; rw [g6 66 (by decide), g5 66 (by decide)]; exact (ha f hf).1, by show σ3 67 f = _; rw [g6 67 (by decide), g5 67 (by decide)]; exact (ha f hf).2⟩
      · rcases (by omega : f = j ∨ f < j) with rfl | q
        · have ev : pr_dr σ f t = nI m0 := (pu_if_t q138).trans em0
          rw [hstep, ev]
          exact ⟨pk_us.trans (pw_lot hm0 _), pk_us.trans (pw_lot hm0 _)⟩
        · exact ⟨by show upd (upd (σ3 65) j _) j _ f = _; rw [pk_un (by omega), pk_un (by omega), g6 65 (by decide), g5 65 (by decide)]; exact (hd f q).1, by show upd (σ3 69) (5 * t + j) _ (5 * t + f) = _; rw [pk_un (by omega), g6 69 (by decide), g5 69 (by decide)]; exact (hd f q).2⟩
      · show upd (σ3 69) (5 * t + j) _ i = _
        rw [pk_un (by omega), g6 69 (by decide), g5 69 (by decide)]
        exact hr i hi
theorem seconds_l2 {G : jr_G} {d : Nat} {σ : jr_Sg} {k : jr_Sg → Prop} {T : Nat → Nat → List Nat} {n lw nf nc : Nat} {kd se : Nat → Nat} (hsr : sr_ok σ nf nc kd se) (hlm : ∃ m : Nat, m ≤ 400 ∧ σ 46 46 = nI m) (hT : ti_R T n σ) (hlw : lw < n) (hru : σ 46 13 = nI lw) {t : Nat} (ht : t < 40) (h0 : t = 0 → ∀ f, f < nf → σ 67 f = 0) (hk : ∀ σ' : jr_Sg, jr_eqx [63, 64, 65, 66, 67, 68, 69] σ σ' → (∀ f, f < nf → σ' 65 f = (sr_step T lw nf nc kd se σ f t (σ 65 f, σ 67 f)).1 ∧ σ' 67 f = (sr_step T lw nf nc kd se σ f t (σ 65 f, σ 67 f)).2 ∧ σ' 69 (5 * t + f) = (sr_step T lw nf nc kd se σ f t (σ 65 f, σ 67 f)).1) → (∀ i, i < 5 * t ∨ 5 * t + 5 ≤ i → σ' 69 i = σ 69 i) → k σ') : ∀ (m j : Nat) (σ1 : jr_Sg), j + m = nf → jr_eqx [63, 64, 66, 67, 68] σ σ1 → (∀ f, f < nf → σ1 66 f = σ 65 f ∧ σ1 68 f = σ 67 f) → (∀ f, f < j → σ1 67 f = (sr_step T lw nf nc kd se σ f t (σ 65 f, σ 67 f)).2) → jr_R G (d + 4) mi_X10_seconds (jr_kv k) 50 [some (.ref 46), some (.int (nI t)), some (.int (nI j))] [] σ1 := by
  intro m
  induction m with
  | zero =>
    intro j σ1 hj he ha hd
    have e : j = nf := hj
    subst e
    have hnf1 : σ1 46 1 = nI j := by rw [he 46 (by decide)]; exact hsr.1
    refine jr_iload_n 2 51 dX10_seconds_50 rfl rfl rfl ?_
    refine jr_aload_n 0 52 dX10_seconds_51 rfl rfl rfl ?_
    refine gf_X10_105 55 dX10_seconds_52 rfl rfl rfl rfl ?_
    rw [hnf1]
    refine jr_icmp_ge 76 58 dX10_seconds_55 rfl rfl (fun q55 => ?_) (fun z => absurd (Int32.le_refl _) z)
    refine jr_iconst (0) 77 dX10_seconds_76 rfl rfl ?_
    refine jr_istore_n 2 (L' := [_, _, _]) 78 dX10_seconds_77 rfl rfl (by decide) rfl ?_
    exact seconds_l3 hsr hlm hT hlw hru ht h0 hk j 0 σ1 (by omega) (jr_eqx_w he (by simp)) (fun f hf => ⟨(ha f hf).1, hd f hf⟩) (fun f hf => absurd hf (by omega)) (fun i _ => by rw [he 69 (by decide)])
  | succ m ih =>
    intro j σ1 hj he ha hd
    have hsr0 := hsr
    obtain ⟨hnf, h5, hnc, h8, hall⟩ := hsr
    obtain ⟨hk6, hs8, hkd, hse, hmo⟩ := hall j (by omega)
    have hnf1 : σ1 46 1 = nI nf := by rw [he 46 (by decide)]; exact hnf
    have hT1 : ti_R T n σ1 := ti_R_of hT (by rw [he 46 (by decide)]) (he 54 (by decide)) (he 55 (by decide))
    have hru1 : σ1 46 13 = nI lw := by rw [he 46 (by decide)]; exact hru
    have e51 : σ1 51 j = nI (se j) := by rw [he 51 (by decide)]; exact hse
    have e48 : σ1 48 j = nI (kd j) := by rw [he 48 (by decide)]; exact hkd
    have hbl : pr_bl σ1 j = pr_bl σ j := by funext q; unfold pr_bl; rw [he 46 (by decide)]
    obtain ⟨a1, a2⟩ := ha j (by omega)
    have hj5 : j < 5 := by omega
    refine jr_iload_n 2 51 dX10_seconds_50 rfl rfl rfl ?_
    refine jr_aload_n 0 52 dX10_seconds_51 rfl rfl rfl ?_
    refine gf_X10_105 55 dX10_seconds_52 rfl rfl rfl rfl ?_
    rw [hnf1]
    refine jr_icmp_ge 76 58 dX10_seconds_55 rfl rfl (fun z => absurd z (nI_ge (by omega) (by omega))) (fun q55 => ?_)
    refine jr_aload_n 0 59 dX10_seconds_58 rfl rfl rfl ?_
    refine gf_X10_70 62 dX10_seconds_59 rfl rfl rfl rfl ?_
    refine jr_iload_n 2 63 dX10_seconds_62 rfl rfl rfl ?_
    refine jr_aload_n 0 64 dX10_seconds_63 rfl rfl rfl ?_
    refine jr_iload_n 2 65 dX10_seconds_64 rfl rfl rfl ?_
    refine jr_iload_n 1 66 dX10_seconds_65 rfl rfl rfl ?_
    refine cs_X10_232 69 dX10_seconds_66 rfl rfl rfl (Nat.le_of_ble_eq_true rfl) (wp_howManyLook (T := T) (n := n) (lw := lw) (nf := nf) hj5 e48 hk6 e51 hs8 hT1 hlw hru1 hnf1 h5 (fun σ2 g => ?_))
    refine jr_topi (y := (sr_step T lw nf nc kd se σ j t (σ 65 j, σ 67 j)).2) (by rw [hbl, a1, a2, he 46 (by decide), he 47 (by decide), he 49 (by decide)]; rfl) ?_
    refine jr_iast rfl rfl hj5 70 dX10_seconds_69 rfl ?_
    refine jr_iinc (v := nI (j + 1)) (L' := [_, _, _]) 73 dX10_seconds_70 rfl rfl (nI_1 j) (by decide) rfl ?_
    refine jr_goto 50 dX10_seconds_73 rfl ?_
    refine ih (j + 1) _ (by omega) (jr_eqx_tr he (jr_eqx_tr (jr_eqx_w g (by simp)) (jr_eqx_up _ _ _ (by decide)))) (fun f hf => ?_) (fun f hf => ?_)
    · exact ⟨by show σ2 66 f = _; rw [g 66 (by decide)]; exact (ha f hf).1, by show σ2 68 f = _; rw [g 68 (by decide)]; exact (ha f hf).2⟩
    · rcases (by omega : f = j ∨ f < j) with rfl | q
      · exact pk_us
      · show upd (σ2 67) j _ f = _
        rw [pk_un (by omega), g 67 (by decide)]
        exact hd f q
theorem seconds_l1 {G : jr_G} {d : Nat} {σ : jr_Sg} {k : jr_Sg → Prop} {T : Nat → Nat → List Nat} {n lw nf nc : Nat} {kd se : Nat → Nat} (hsr : sr_ok σ nf nc kd se) (hlm : ∃ m : Nat, m ≤ 400 ∧ σ 46 46 = nI m) (hT : ti_R T n σ) (hlw : lw < n) (hru : σ 46 13 = nI lw) {t : Nat} (ht : t < 40) (h0 : t = 0 → ∀ f, f < nf → σ 67 f = 0) (hk : ∀ σ' : jr_Sg, jr_eqx [63, 64, 65, 66, 67, 68, 69] σ σ' → (∀ f, f < nf → σ' 65 f = (sr_step T lw nf nc kd se σ f t (σ 65 f, σ 67 f)).1 ∧ σ' 67 f = (sr_step T lw nf nc kd se σ f t (σ 65 f, σ 67 f)).2 ∧ σ' 69 (5 * t + f) = (sr_step T lw nf nc kd se σ f t (σ 65 f, σ 67 f)).1) → (∀ i, i < 5 * t ∨ 5 * t + 5 ≤ i → σ' 69 i = σ 69 i) → k σ') : ∀ (m j : Nat) (σ1 : jr_Sg), j + m = nf → jr_eqx [66, 68] σ σ1 → (∀ f, f < j → σ1 66 f = σ 65 f ∧ σ1 68 f = σ 67 f) → jr_R G (d + 4) mi_X10_seconds (jr_kv k) 2 [some (.ref 46), some (.int (nI t)), some (.int (nI j))] [] σ1 := by
  intro m
  induction m with
  | zero =>
    intro j σ1 hj he ha
    have e : j = nf := hj
    subst e
    have hnf1 : σ1 46 1 = nI j := by rw [he 46 (by decide)]; exact hsr.1
    refine jr_iload_n 2 3 dX10_seconds_2 rfl rfl rfl ?_
    refine jr_aload_n 0 4 dX10_seconds_3 rfl rfl rfl ?_
    refine gf_X10_105 7 dX10_seconds_4 rfl rfl rfl rfl ?_
    rw [hnf1]
    refine jr_icmp_ge 48 10 dX10_seconds_7 rfl rfl (fun q7 => ?_) (fun z => absurd (Int32.le_refl _) z)
    refine jr_iconst (nI 0) 49 dX10_seconds_48 rfl rfl ?_
    refine jr_istore_n 2 (L' := [_, _, _]) 50 dX10_seconds_49 rfl rfl (by decide) rfl ?_
    exact seconds_l2 hsr hlm hT hlw hru ht h0 hk j 0 σ1 (by omega) (jr_eqx_w he (by simp)) ha (fun f hf => absurd hf (by omega))
  | succ m ih =>
    intro j σ1 hj he ha
    have h5 := hsr.2.1
    have hnf1 : σ1 46 1 = nI nf := by rw [he 46 (by decide)]; exact hsr.1
    have e65 : σ1 65 j = σ 65 j := by rw [he 65 (by decide)]
    have e67 : σ1 67 j = σ 67 j := by rw [he 67 (by decide)]
    have hj5 : j < 5 := by omega
    refine jr_iload_n 2 3 dX10_seconds_2 rfl rfl rfl ?_
    refine jr_aload_n 0 4 dX10_seconds_3 rfl rfl rfl ?_
    refine gf_X10_105 7 dX10_seconds_4 rfl rfl rfl rfl ?_
    rw [hnf1]
    refine jr_icmp_ge 48 10 dX10_seconds_7 rfl rfl (fun z => absurd z (nI_ge (by omega) (by omega))) (fun q7 => ?_)
    refine jr_aload_n 0 11 dX10_seconds_10 rfl rfl rfl ?_
    refine gf_X10_67 14 dX10_seconds_11 rfl rfl rfl rfl ?_
    refine jr_iload_n 2 15 dX10_seconds_14 rfl rfl rfl ?_
    refine jr_aload_n 0 16 dX10_seconds_15 rfl rfl rfl ?_
    refine gf_X10_64 19 dX10_seconds_16 rfl rfl rfl rfl ?_
    refine jr_iload_n 2 20 dX10_seconds_19 rfl rfl rfl ?_
    refine jr_iale rfl rfl hj5 e65 21 dX10_seconds_20 rfl ?_
    refine jr_iast rfl rfl hj5 22 dX10_seconds_21 rfl ?_
    refine jr_aload_n 0 23 dX10_seconds_22 rfl rfl rfl ?_
    refine gf_X10_73 26 dX10_seconds_23 rfl rfl rfl rfl ?_
    refine jr_iload_n 2 27 dX10_seconds_26 rfl rfl rfl ?_
    refine jr_iload_n 1 28 dX10_seconds_27 rfl rfl rfl ?_
    refine jr_if_ne 35 31 dX10_seconds_28 rfl rfl (fun q28 => ?_) (fun q28 => ?_)
    · refine jr_aload_n 0 36 dX10_seconds_35 rfl rfl rfl ?_
      refine gf_X10_70 39 dX10_seconds_36 rfl rfl rfl rfl ?_
      refine jr_iload_n 2 40 dX10_seconds_39 rfl rfl rfl ?_
      refine jr_iale rfl rfl hj5 e67 41 dX10_seconds_40 rfl ?_
      refine jr_iast rfl rfl hj5 42 dX10_seconds_41 rfl ?_
      refine jr_iinc (v := nI (j + 1)) (L' := [_, _, _]) 45 dX10_seconds_42 rfl rfl (nI_1 j) (by decide) rfl ?_
      refine jr_goto 2 dX10_seconds_45 rfl ?_
      refine ih (j + 1) _ (by omega) (jr_eqx_tr he (jr_eqx_tr (jr_eqx_up _ _ _ (by decide)) (jr_eqx_up _ _ _ (by decide)))) (fun f hf => ?_)
      rcases (by omega : f = j ∨ f < j) with rfl | q
      · exact ⟨pk_us, pk_us.trans rfl⟩
      · exact ⟨by show upd (σ1 66) j _ f = _; rw [pk_un (by omega)]; exact (ha f q).1, by show upd (σ1 68) j _ f = _; rw [pk_un (by omega)]; exact (ha f q).2⟩
    · refine jr_iconst (0) 32 dX10_seconds_31 rfl rfl ?_
      refine jr_goto 41 dX10_seconds_32 rfl ?_
      refine jr_iast rfl rfl hj5 42 dX10_seconds_41 rfl ?_
      refine jr_iinc (v := nI (j + 1)) (L' := [_, _, _]) 45 dX10_seconds_42 rfl rfl (nI_1 j) (by decide) rfl ?_
      refine jr_goto 2 dX10_seconds_45 rfl ?_
      refine ih (j + 1) _ (by omega) (jr_eqx_tr he (jr_eqx_tr (jr_eqx_up _ _ _ (by decide)) (jr_eqx_up _ _ _ (by decide)))) (fun f hf => ?_)
      rcases (by omega : f = j ∨ f < j) with rfl | q
      · exact ⟨pk_us, pk_us.trans (h0 (nI_inj (by omega) (by omega) q28) _ (by omega)).symm⟩
      · exact ⟨by show upd (σ1 66) j _ f = _; rw [pk_un (by omega)]; exact (ha f q).1, by show upd (σ1 68) j _ f = _; rw [pk_un (by omega)]; exact (ha f q).2⟩
theorem wp_seconds {G : jr_G} {d : Nat} {σ : jr_Sg} {k : jr_Sg → Prop} {T : Nat → Nat → List Nat} {n lw nf nc : Nat} {kd se : Nat → Nat} (hsr : sr_ok σ nf nc kd se) (hlm : ∃ m : Nat, m ≤ 400 ∧ σ 46 46 = nI m) (hT : ti_R T n σ) (hlw : lw < n) (hru : σ 46 13 = nI lw) {t : Nat} (ht : t < 40) (h0 : t = 0 → ∀ f, f < nf → σ 67 f = 0) (hk : ∀ σ' : jr_Sg, jr_eqx [63, 64, 65, 66, 67, 68, 69] σ σ' → (∀ f, f < nf → σ' 65 f = (sr_step T lw nf nc kd se σ f t (σ 65 f, σ 67 f)).1 ∧ σ' 67 f = (sr_step T lw nf nc kd se σ f t (σ 65 f, σ 67 f)).2 ∧ σ' 69 (5 * t + f) = (sr_step T lw nf nc kd se σ f t (σ 65 f, σ 67 f)).1) → (∀ i, i < 5 * t ∨ 5 * t + 5 ≤ i → σ' 69 i = σ 69 i) → k σ') : jr_M G (d + 4) mi_X10_seconds [.ref 46, .int (nI t)] σ (jr_kv k) := by
  refine jr_enter (L := [some (.ref 46), some (.int (nI t)), none]) (by decide) (Nat.le_of_ble_eq_true rfl) rfl ?_
  refine jr_iconst (nI 0) 1 dX10_seconds_0 rfl rfl ?_
  refine jr_istore_n 2 (L' := [_, _, _]) 2 dX10_seconds_1 rfl rfl (by decide) rfl ?_
  exact seconds_l1 hsr hlm hT hlw hru ht h0 hk nf 0 σ (by omega) (jr_eqx_rf _ _) (fun f hf => absurd hf (by omega))
theorem runs_l2 {G : jr_G} {d : Nat} {σ : jr_Sg} {k : jr_Sg → Prop} {T : Nat → Nat → List Nat} {n lw nf nc : Nat} {kd se : Nat → Nat} (hsr : sr_ok σ nf nc kd se) (hlm : ∃ m : Nat, m ≤ 400 ∧ σ 46 46 = nI m) (hT : ti_R T n σ) (hlw : lw < n) (hru : σ 46 13 = nI lw) {len : Nat} (hlen : len ≤ 40) (hk : ∀ σ' : jr_Sg, jr_eqx [63, 64, 65, 66, 67, 68, 69] σ σ' → (∀ f, f < nf → σ' 65 f = (sm_R T lw nf nc kd se σ f len).1 ∧ σ' 67 f = (sm_R T lw nf nc kd se σ f len).2 ∧ ∀ t, t < len → σ' 69 (5 * t + f) = (sm_R T lw nf nc kd se σ f (t + 1)).1) → k σ') : ∀ (m j : Nat) (σ1 : jr_Sg), j + m = len → jr_eqx [63, 64, 65, 66, 67, 68, 69] σ σ1 → (∀ f, f < nf → σ1 65 f = (sm_R T lw nf nc kd se σ f j).1 ∧ σ1 67 f = (sm_R T lw nf nc kd se σ f j).2 ∧ ∀ t, t < j → σ1 69 (5 * t + f) = (sm_R T lw nf nc kd se σ f (t + 1)).1) → jr_R G (d + 5) mi_X10_runs (jr_kv k) 37 [some (.ref 46), some (.int (nI len)), some (.int (nI j))] [] σ1 := by
  intro m
  induction m with
  | zero =>
    intro j σ1 hj he ha
    have e : j = len := hj
    subst e
    refine jr_iload_n 2 38 dX10_runs_37 rfl rfl rfl ?_
    refine jr_iload_n 1 39 dX10_runs_38 rfl rfl rfl ?_
    refine jr_icmp_ge 53 42 dX10_runs_39 rfl rfl (fun q39 => ?_) (fun z => absurd (Int32.le_refl _) z)
    refine jr_return dX10_runs_53 rfl ?_
    exact hk σ1 he ha
  | succ m ih =>
    intro j σ1 hj he ha
    have h5 := hsr.2.1
    have hsr1 : sr_ok σ1 nf nc kd se := sr_ok_of hsr (he _ (by decide)) (he _ (by decide)) (he _ (by decide)) (he _ (by decide))
    have hT1 : ti_R T n σ1 := ti_R_of hT (by rw [he 46 (by decide)]) (he 54 (by decide)) (he 55 (by decide))
    have hru1 : σ1 46 13 = nI lw := by rw [he 46 (by decide)]; exact hru
    have hlm1 : ∃ m : Nat, m ≤ 400 ∧ σ1 46 46 = nI m := by rw [he 46 (by decide)]; exact hlm
    have hstep : ∀ f, f < nf → sr_step T lw nf nc kd se σ1 f j (σ1 65 f, σ1 67 f) = sm_R T lw nf nc kd se σ f (j + 1) := fun f hf => by
      have hbl : pr_bl σ1 f = pr_bl σ f := by funext q; unfold pr_bl; rw [he 46 (by decide)]
      have hca : pr_ca σ1 nc f = pr_ca σ nc f := by funext q; unfold pr_ca; rw [he 46 (by decide), he 52 (by decide), he 70 (by decide)]
      have hdr : pr_dr σ1 f = pr_dr σ f := by funext q; unfold pr_dr; rw [he 46 (by decide), he 71 (by decide)]
      unfold sr_step
      rw [(ha f hf).1, (ha f hf).2.1, hbl, hca, hdr, he 46 (by decide), he 47 (by decide), he 49 (by decide)]
      rfl
    refine jr_iload_n 2 38 dX10_runs_37 rfl rfl rfl ?_
    refine jr_iload_n 1 39 dX10_runs_38 rfl rfl rfl ?_
    refine jr_icmp_ge 53 42 dX10_runs_39 rfl rfl (fun z => absurd z (nI_ge (by omega) (by omega))) (fun q39 => ?_)
    refine jr_aload_n 0 43 dX10_runs_42 rfl rfl rfl ?_
    refine jr_iload_n 2 44 dX10_runs_43 rfl rfl rfl ?_
    refine cs_X10_247 47 dX10_runs_44 rfl rfl rfl (Nat.le_of_ble_eq_true rfl) (wp_seconds (T := T) (n := n) (lw := lw) (t := j) hsr1 hlm1 hT1 hlw hru1 (by omega) (fun e f hf => by subst e; exact (ha f hf).2.1) (fun σ2 g1 g2 g3 => ?_))
    refine jr_iinc (v := nI (j + 1)) (L' := [_, _, _]) 50 dX10_runs_47 rfl rfl (nI_1 j) (by decide) rfl ?_
    refine jr_goto 37 dX10_runs_50 rfl ?_
    refine ih (j + 1) σ2 (by omega) (jr_eqx_tr he g1) (fun f hf => ?_)
    obtain ⟨b1, b2, b3⟩ := g2 f hf
    rw [hstep f hf] at b1 b2 b3
    refine ⟨b1, b2, fun t ht => ?_⟩
    rcases (by omega : t = j ∨ t < j) with rfl | q
    · exact b3
    · rw [g3 _ (Or.inl (by omega))]
      exact (ha f hf).2.2 t q
theorem runs_l1 {G : jr_G} {d : Nat} {σ : jr_Sg} {k : jr_Sg → Prop} {T : Nat → Nat → List Nat} {n lw nf nc : Nat} {kd se : Nat → Nat} (hsr : sr_ok σ nf nc kd se) (hlm : ∃ m : Nat, m ≤ 400 ∧ σ 46 46 = nI m) (hT : ti_R T n σ) (hlw : lw < n) (hru : σ 46 13 = nI lw) {len : Nat} (hlen : len ≤ 40) (hk : ∀ σ' : jr_Sg, jr_eqx [63, 64, 65, 66, 67, 68, 69] σ σ' → (∀ f, f < nf → σ' 65 f = (sm_R T lw nf nc kd se σ f len).1 ∧ σ' 67 f = (sm_R T lw nf nc kd se σ f len).2 ∧ ∀ t, t < len → σ' 69 (5 * t + f) = (sm_R T lw nf nc kd se σ f (t + 1)).1) → k σ') : ∀ (m j : Nat) (σ1 : jr_Sg), j + m = nf → jr_eqx [65, 67] σ σ1 → (∀ f, f < j → σ1 65 f = σ 50 f ∧ σ1 67 f = 0) → jr_R G (d + 5) mi_X10_runs (jr_kv k) 2 [some (.ref 46), some (.int (nI len)), some (.int (nI j))] [] σ1 := by
  intro m
  induction m with
  | zero =>
    intro j σ1 hj he ha
    have e : j = nf := hj
    subst e
    have hnf1 : σ1 46 1 = nI j := by rw [he 46 (by decide)]; exact hsr.1
    refine jr_iload_n 2 3 dX10_runs_2 rfl rfl rfl ?_
    refine jr_aload_n 0 4 dX10_runs_3 rfl rfl rfl ?_
    refine gf_X10_105 7 dX10_runs_4 rfl rfl rfl rfl ?_
    rw [hnf1]
    refine jr_icmp_ge 35 10 dX10_runs_7 rfl rfl (fun q7 => ?_) (fun z => absurd (Int32.le_refl _) z)
    refine jr_iconst (nI 0) 36 dX10_runs_35 rfl rfl ?_
    refine jr_istore_n 2 (L' := [_, _, _]) 37 dX10_runs_36 rfl rfl (by decide) rfl ?_
    exact runs_l2 hsr hlm hT hlw hru hlen hk len 0 σ1 (by omega) (jr_eqx_w he (by simp)) (fun f hf => ⟨(ha f hf).1, (ha f hf).2, fun t ht => absurd ht (by omega)⟩)
  | succ m ih =>
    intro j σ1 hj he ha
    have h5 := hsr.2.1
    have hnf1 : σ1 46 1 = nI nf := by rw [he 46 (by decide)]; exact hsr.1
    have e50 : σ1 50 j = σ 50 j := by rw [he 50 (by decide)]
    have hj5 : j < 5 := by omega
    refine jr_iload_n 2 3 dX10_runs_2 rfl rfl rfl ?_
    refine jr_aload_n 0 4 dX10_runs_3 rfl rfl rfl ?_
    refine gf_X10_105 7 dX10_runs_4 rfl rfl rfl rfl ?_
    rw [hnf1]
    refine jr_icmp_ge 35 10 dX10_runs_7 rfl rfl (fun z => absurd z (nI_ge (by omega) (by omega))) (fun q7 => ?_)
    refine jr_aload_n 0 11 dX10_runs_10 rfl rfl rfl ?_
    refine gf_X10_64 14 dX10_runs_11 rfl rfl rfl rfl ?_
    refine jr_iload_n 2 15 dX10_runs_14 rfl rfl rfl ?_
    refine jr_aload_n 0 16 dX10_runs_15 rfl rfl rfl ?_
    refine gf_X10_19 19 dX10_runs_16 rfl rfl rfl rfl ?_
    refine jr_iload_n 2 20 dX10_runs_19 rfl rfl rfl ?_
    refine jr_iale rfl rfl hj5 e50 21 dX10_runs_20 rfl ?_
    refine jr_iast rfl rfl hj5 22 dX10_runs_21 rfl ?_
    refine jr_aload_n 0 23 dX10_runs_22 rfl rfl rfl ?_
    refine gf_X10_70 26 dX10_runs_23 rfl rfl rfl rfl ?_
    refine jr_iload_n 2 27 dX10_runs_26 rfl rfl rfl ?_
    refine jr_iconst (0) 28 dX10_runs_27 rfl rfl ?_
    refine jr_iast rfl rfl hj5 29 dX10_runs_28 rfl ?_
    refine jr_iinc (v := nI (j + 1)) (L' := [_, _, _]) 32 dX10_runs_29 rfl rfl (nI_1 j) (by decide) rfl ?_
    refine jr_goto 2 dX10_runs_32 rfl ?_
    refine ih (j + 1) _ (by omega) (jr_eqx_tr he (jr_eqx_tr (jr_eqx_up _ _ _ (by decide)) (jr_eqx_up _ _ _ (by decide)))) (fun f hf => ?_)
    rcases (by omega : f = j ∨ f < j) with rfl | q
    · exact ⟨pk_us, pk_us⟩
    · exact ⟨by show upd (σ1 65) j _ f = _; rw [pk_un (by omega)]; exact (ha f q).1, by show upd (σ1 67) j _ f = _; rw [pk_un (by omega)]; exact (ha f q).2⟩
theorem wp_runs {G : jr_G} {d : Nat} {σ : jr_Sg} {k : jr_Sg → Prop} {T : Nat → Nat → List Nat} {n lw nf nc : Nat} {kd se : Nat → Nat} (hsr : sr_ok σ nf nc kd se) (hlm : ∃ m : Nat, m ≤ 400 ∧ σ 46 46 = nI m) (hT : ti_R T n σ) (hlw : lw < n) (hru : σ 46 13 = nI lw) {len : Nat} (hlen : len ≤ 40) (hk : ∀ σ' : jr_Sg, jr_eqx [63, 64, 65, 66, 67, 68, 69] σ σ' → (∀ f, f < nf → σ' 65 f = (sm_R T lw nf nc kd se σ f len).1 ∧ σ' 67 f = (sm_R T lw nf nc kd se σ f len).2 ∧ ∀ t, t < len → σ' 69 (5 * t + f) = (sm_R T lw nf nc kd se σ f (t + 1)).1) → k σ') : jr_M G (d + 5) mi_X10_runs [.ref 46, .int (nI len)] σ (jr_kv k) := by
  refine jr_enter (L := [some (.ref 46), some (.int (nI len)), none]) (by decide) (Nat.le_of_ble_eq_true rfl) rfl ?_
  refine jr_iconst (nI 0) 1 dX10_runs_0 rfl rfl ?_
  refine jr_istore_n 2 (L' := [_, _, _]) 2 dX10_runs_1 rfl rfl (by decide) rfl ?_
  exact runs_l1 hsr hlm hT hlw hru hlen hk nf 0 σ (by omega) (jr_eqx_rf _ _) (fun f hf => absurd hf (by omega))

/-- f's trajectory by the scene at b and the twist -/
noncomputable def sm_C (b : Nat) (T : Nat → Nat → List Nat) (lw nf nc : Nat) (kd se : Nat → Nat) (σ : jr_Sg) (f : Nat) : Nat → Int32 × Int32 :=
  sm_tr (ev_t T lw) nf (σ (b + 2)) (kd f) (pu_redf (kd f) (σ (b + 2) f) (σ (b + 5) (se f))) (σ (b + 5) (se f)) f (pu_bl σ f) (σ 7 0) (σ 7 1) (σ 7 2) (pu_ca b σ nc f) (pu_cb σ f) (pu_dr σ f) (σ (b + 3) f)
theorem sc_ok_of {b : Nat} {σ σ' : jr_Sg} {nf nc : Nat} {kd se : Nat → Nat} (h : sc_ok b σ nf nc kd se) (e0 : σ' b = σ b) (e1 : σ' (b + 1) = σ (b + 1)) (e4 : σ' (b + 4) = σ (b + 4)) : sc_ok b σ' nf nc kd se := by
  unfold sc_ok at h ⊢
  rw [e0, e1, e4]
  exact h
theorem nI_inj {a b : Nat} (ha : a < 2 ^ 31) (hb : b < 2 ^ 31) (h : nI a = nI b) : a = b := (nI_eq ha hb).mp h
theorem playOne_loop_15 {G : jr_G} {d : Nat} {σ : jr_Sg} {k : jr_Sg → Prop} {T : Nat → Nat → List Nat} {n lw nf nc f len : Nat} {kd se : Nat → Nat} (hsc : sc_ok 15 σ nf nc kd se) (hf : f < nf) (hlen : len ≤ 40) (hT : ti_C T n σ) (hlw : lw < n) (hlaw : σ 15 10 = nI lw) (hk : ∀ σ' : jr_Sg, jr_eqx [4, 11, 12, 13, 14] σ σ' → σ' 14 = upd (σ 14) f (pu_redf (kd f) (σ 17 f) (σ 20 (se f))) → (∀ t, t ≤ len → σ' 12 (5 * t + f) = (sm_C 15 T lw nf nc kd se σ f t).1 ∧ σ' 13 (5 * t + f) = (sm_C 15 T lw nf nc kd se σ f t).2) → (∀ j, ¬ j % 5 = f → σ' 12 j = σ 12 j ∧ σ' 13 j = σ 13 j) → k σ') : ∀ (m j : Nat) (σ1 : jr_Sg), j + m = len → jr_eqx [4, 11, 12, 13, 14] σ σ1 → σ1 14 = upd (σ 14) f (pu_redf (kd f) (σ 17 f) (σ 20 (se f))) → (∀ t, t ≤ j → σ1 12 (5 * t + f) = (sm_C 15 T lw nf nc kd se σ f t).1 ∧ σ1 13 (5 * t + f) = (sm_C 15 T lw nf nc kd se σ f t).2) → (∀ i, ¬ i % 5 = f → σ1 12 i = σ 12 i ∧ σ1 13 i = σ 13 i) → jr_R G (d + 4) mi_X4_playOne (jr_kv k) 42 [some (.ref 9), some (.ref 15), some (.int (nI f)), some (.int (nI len)), some (.int (nI j))] [] σ1 := by
  intro m
  induction m with
  | zero =>
    intro j σ1 hj he h14 htr hrest
    have e : j = len := hj
    subst e
    refine jr_iload 44 dX4_playOne_42 rfl rfl ?_
    refine jr_iload_n 3 45 dX4_playOne_44 rfl rfl rfl ?_
    refine jr_icmp_ge 69 48 dX4_playOne_45 rfl rfl (fun q45 => ?_) (fun z => absurd (Int32.le_refl _) z)
    refine jr_return dX4_playOne_69 rfl ?_
    exact hk σ1 he h14 htr hrest
  | succ m ih =>
    intro j σ1 hj he h14 htr hrest
    have hf5 : f < 5 := Nat.lt_of_lt_of_le hf hsc.2.1
    have hsc1 : sc_ok 15 σ1 nf nc kd se := sc_ok_of hsc (he _ (by decide)) (he _ (by decide)) (he _ (by decide))
    have hT1 : ti_C T n σ1 := ti_C_of hT (he 1 (by decide)) (he 2 (by decide)) (he 3 (by decide))
    have hlaw1 : σ1 15 10 = nI lw := by rw [he 15 (by decide)]; exact hlaw
    have hbl : pu_bl σ1 f = pu_bl σ f := by funext q; unfold pu_bl; rw [he 7 (by decide)]
    have hca : pu_ca 15 σ1 nc f = pu_ca 15 σ nc f := by funext q; unfold pu_ca; rw [he 21 (by decide), he 22 (by decide), he 23 (by decide)]
    have hcb : pu_cb σ1 f = pu_cb σ f := by funext q; unfold pu_cb; rw [he 7 (by decide)]
    have hdr : pu_dr σ1 f = pu_dr σ f := by funext q; unfold pu_dr; rw [he 7 (by decide), he 8 (by decide)]
    have hrf : σ1 14 f = (pu_redf (kd f) (σ 17 f) (σ 20 (se f))) := by rw [h14]; exact pk_us
    have hst : sm_step (ev_t T lw) nf (σ1 17) (kd f) (σ1 14 f) (σ1 20 (se f)) f (pu_bl σ1 f) (σ1 7 0) (σ1 7 1) (σ1 7 2) (pu_ca 15 σ1 nc f) (pu_cb σ1 f) (pu_dr σ1 f) j (σ1 12 (5 * j + f), σ1 13 (5 * j + f)) = sm_C 15 T lw nf nc kd se σ f (j + 1) := by
      rw [(htr j (Nat.le_refl _)).1, (htr j (Nat.le_refl _)).2, hbl, hca, hcb, hdr, hrf, he 17 (by decide), he 20 (by decide), he 7 (by decide)]
      rfl
    refine jr_iload 44 dX4_playOne_42 rfl rfl ?_
    refine jr_iload_n 3 45 dX4_playOne_44 rfl rfl rfl ?_
    refine jr_icmp_ge 69 48 dX4_playOne_45 rfl rfl (fun z => absurd z (nI_ge (by omega) (by omega))) (fun q45 => ?_)
    refine jr_iload 50 dX4_playOne_48 rfl rfl ?_
    refine jr_bipush (40) 52 dX4_playOne_50 rfl rfl ?_
    refine jr_icmp_ge 69 55 dX4_playOne_52 rfl rfl (fun z => absurd z (nI_ge (b := 40) (by omega) (by decide))) (fun q52 => ?_)
    refine jr_aload_n 0 56 dX4_playOne_55 rfl rfl rfl ?_
    refine jr_aload_n 1 57 dX4_playOne_56 rfl rfl rfl ?_
    refine jr_iload_n 2 58 dX4_playOne_57 rfl rfl rfl ?_
    refine jr_iload 60 dX4_playOne_58 rfl rfl ?_
    refine cs_X4_61 63 dX4_playOne_60 rfl rfl rfl (Nat.le_of_ble_eq_true rfl) (wp_playSecond_15 hsc1 hf (by omega) hT1 hlw hlaw1 (fun σ2 g1 g2 g3 => ?_))
    refine jr_iinc (v := nI (j + 1)) (L' := [_, _, _, _, _]) 66 dX4_playOne_63 rfl rfl (nI_1 j) (by decide) rfl ?_
    refine jr_goto 42 dX4_playOne_66 rfl ?_
    rw [hst] at g2 g3
    refine ih (j + 1) σ2 (by omega) (jr_eqx_tr he (jr_eqx_w g1 (by simp))) (by rw [g1 14 (by decide)]; exact h14) (fun t ht => ?_) (fun i hi => ?_)
    · rcases (by omega : t = j + 1 ∨ t ≤ j) with rfl | q
      · rw [show 5 * (j + 1) + f = 5 * j + f + 5 by omega, g2, g3]
        exact ⟨pk_us, pk_us⟩
      · rw [g2, g3, pk_un (by omega), pk_un (by omega)]
        exact htr t q
    · rw [g2, g3, pk_un (by omega), pk_un (by omega)]
      exact hrest i hi
theorem wp_playOne_15 {G : jr_G} {d : Nat} {σ : jr_Sg} {k : jr_Sg → Prop} {T : Nat → Nat → List Nat} {n lw nf nc f len : Nat} {kd se : Nat → Nat} (hsc : sc_ok 15 σ nf nc kd se) (hf : f < nf) (hlen : len ≤ 40) (hT : ti_C T n σ) (hlw : lw < n) (hlaw : σ 15 10 = nI lw) (hk : ∀ σ' : jr_Sg, jr_eqx [4, 11, 12, 13, 14] σ σ' → σ' 14 = upd (σ 14) f (pu_redf (kd f) (σ 17 f) (σ 20 (se f))) → (∀ t, t ≤ len → σ' 12 (5 * t + f) = (sm_C 15 T lw nf nc kd se σ f t).1 ∧ σ' 13 (5 * t + f) = (sm_C 15 T lw nf nc kd se σ f t).2) → (∀ j, ¬ j % 5 = f → σ' 12 j = σ 12 j ∧ σ' 13 j = σ 13 j) → k σ') : jr_M G (d + 4) mi_X4_playOne [.ref 9, .ref 15, .int (nI f), .int (nI len)] σ (jr_kv k) := by
  have hf5 : f < 5 := Nat.lt_of_lt_of_le hf hsc.2.1
  have hsc0 := hsc
  obtain ⟨hnf, h5, hnc, h8, hall⟩ := hsc
  refine jr_enter (L := [some (.ref 9), some (.ref 15), some (.int (nI f)), some (.int (nI len)), none]) (by decide) (Nat.le_of_ble_eq_true rfl) rfl ?_
  refine jr_aload_n 1 1 dX4_playOne_0 rfl rfl rfl ?_
  refine jr_iload_n 2 2 dX4_playOne_1 rfl rfl rfl ?_
  refine cs_X4_53 5 dX4_playOne_2 rfl rfl rfl (Nat.le_of_ble_eq_true rfl) (wp_hasT_15 hnf h5 hf ?_)
  refine jr_if_ne 9 8 dX4_playOne_5 rfl rfl (fun q5 => ?_) (fun q => absurd q (by decide))
  refine jr_aload_n 0 10 dX4_playOne_9 rfl rfl rfl ?_
  refine gf_X4_18 13 dX4_playOne_10 rfl rfl rfl rfl ?_
  refine jr_iload_n 2 14 dX4_playOne_13 rfl rfl rfl ?_
  refine jr_aload_n 1 15 dX4_playOne_14 rfl rfl rfl ?_
  refine gf_X4_57 18 dX4_playOne_15 rfl rfl rfl rfl ?_
  refine jr_iload_n 2 19 dX4_playOne_18 rfl rfl rfl ?_
  refine jr_iald rfl rfl (by omega) 20 dX4_playOne_19 rfl ?_
  refine jr_iast rfl rfl (by omega) 21 dX4_playOne_20 rfl ?_
  refine jr_aload_n 0 22 dX4_playOne_21 rfl rfl rfl ?_
  refine gf_X4_22 25 dX4_playOne_22 rfl rfl rfl rfl ?_
  refine jr_iload_n 2 26 dX4_playOne_25 rfl rfl rfl ?_
  refine jr_iconst (0) 27 dX4_playOne_26 rfl rfl ?_
  refine jr_iast rfl rfl (by omega) 28 dX4_playOne_27 rfl ?_
  refine jr_aload_n 0 29 dX4_playOne_28 rfl rfl rfl ?_
  refine gf_X4_25 32 dX4_playOne_29 rfl rfl rfl rfl ?_
  refine jr_iload_n 2 33 dX4_playOne_32 rfl rfl rfl ?_
  refine jr_aload_n 1 34 dX4_playOne_33 rfl rfl rfl ?_
  refine jr_iload_n 2 35 dX4_playOne_34 rfl rfl rfl ?_
  refine cs_X4_58 38 dX4_playOne_35 rfl rfl rfl (Nat.le_of_ble_eq_true rfl) (wp_sredFrom_15 (nf := nf) (nc := nc) (kd := kd) (se := se) hsc0 hf ?_)
  refine jr_iast rfl rfl (by omega) 39 dX4_playOne_38 rfl ?_
  refine jr_iconst (0) 40 dX4_playOne_39 rfl rfl ?_
  refine jr_istore (L' := [_, _, _, _, _]) 42 dX4_playOne_40 rfl (by decide) rfl ?_
  refine playOne_loop_15 hsc0 hf hlen hT hlw hlaw hk len 0 _ (by omega) (by repeat (first | exact jr_eqx_rf _ _ | refine jr_eqx_tr ?_ (jr_eqx_up _ _ _ (by decide)))) rfl (fun t ht => ?_) (fun i hi => ?_)
  · have e : t = 0 := by omega
    subst e
    rw [show 5 * 0 + f = f by omega]
    exact ⟨pk_us, pk_us⟩
  · exact ⟨pk_un (by intro e; rw [e] at hi; exact hi (Nat.mod_eq_of_lt hf5)), pk_un (by intro e; rw [e] at hi; exact hi (Nat.mod_eq_of_lt hf5))⟩
theorem play_loop_15 {G : jr_G} {d : Nat} {σ : jr_Sg} {k : jr_Sg → Prop} {T : Nat → Nat → List Nat} {n lw nf nc len : Nat} {kd se : Nat → Nat} (hsc : sc_ok 15 σ nf nc kd se) (hlen : len ≤ 40) (hT : ti_C T n σ) (hlw : lw < n) (hlaw : σ 15 10 = nI lw) (hk : ∀ σ' : jr_Sg, jr_eqx [4, 9, 11, 12, 13, 14] σ σ' → σ' 9 = upd (σ 9) 6 (nI nf) → (∀ f, f < nf → σ' 14 f = (pu_redf (kd f) (σ 17 f) (σ 20 (se f))) ∧ ∀ t, t ≤ len → σ' 12 (5 * t + f) = (sm_C 15 T lw nf nc kd se σ f t).1 ∧ σ' 13 (5 * t + f) = (sm_C 15 T lw nf nc kd se σ f t).2) → k σ') : ∀ (m f : Nat) (σ1 : jr_Sg), f + m = nf → jr_eqx [4, 9, 11, 12, 13, 14] σ σ1 → σ1 9 = upd (σ 9) 6 (nI nf) → (∀ g, g < f → σ1 14 g = (pu_redf (kd g) (σ 17 g) (σ 20 (se g))) ∧ ∀ t, t ≤ len → σ1 12 (5 * t + g) = (sm_C 15 T lw nf nc kd se σ g t).1 ∧ σ1 13 (5 * t + g) = (sm_C 15 T lw nf nc kd se σ g t).2) → jr_R G (d + 5) mi_X4_play (jr_kv k) 14 [some (.ref 9), some (.ref 15), some (.int (nI len)), some (.int (nI f))] [] σ1 := by
  intro m
  induction m with
  | zero =>
    intro f σ1 hj he h9 hd
    have e : f = nf := hj
    subst e
    have h96 : σ1 9 6 = nI f := by rw [h9]; exact pk_us
    refine jr_iload_n 3 15 dX4_play_14 rfl rfl rfl ?_
    refine jr_aload_n 0 16 dX4_play_15 rfl rfl rfl ?_
    refine gf_X4_28 19 dX4_play_16 rfl rfl rfl rfl ?_
    rw [h96]
    refine jr_icmp_ge 35 22 dX4_play_19 rfl rfl (fun q19 => ?_) (fun z => absurd (Int32.le_refl _) z)
    refine jr_return dX4_play_35 rfl ?_
    exact hk σ1 he h9 hd
  | succ m ih =>
    intro f σ1 hj he h9 hd
    have h96 : σ1 9 6 = nI nf := by rw [h9]; exact pk_us
    have hsc1 : sc_ok 15 σ1 nf nc kd se := sc_ok_of hsc (he _ (by decide)) (he _ (by decide)) (he _ (by decide))
    have hT1 : ti_C T n σ1 := ti_C_of hT (he 1 (by decide)) (he 2 (by decide)) (he 3 (by decide))
    have hlaw1 : σ1 15 10 = nI lw := by rw [he 15 (by decide)]; exact hlaw
    have hC : sm_C 15 T lw nf nc kd se σ1 f = sm_C 15 T lw nf nc kd se σ f := by
      have hbl : pu_bl σ1 f = pu_bl σ f := by funext q; unfold pu_bl; rw [he 7 (by decide)]
      have hca : pu_ca 15 σ1 nc f = pu_ca 15 σ nc f := by funext q; unfold pu_ca; rw [he 21 (by decide), he 22 (by decide), he 23 (by decide)]
      have hcb : pu_cb σ1 f = pu_cb σ f := by funext q; unfold pu_cb; rw [he 7 (by decide)]
      have hdr : pu_dr σ1 f = pu_dr σ f := by funext q; unfold pu_dr; rw [he 7 (by decide), he 8 (by decide)]
      unfold sm_C
      rw [hbl, hca, hcb, hdr, he 17 (by decide), he 20 (by decide), he 18 (by decide), he 7 (by decide)]
    refine jr_iload_n 3 15 dX4_play_14 rfl rfl rfl ?_
    refine jr_aload_n 0 16 dX4_play_15 rfl rfl rfl ?_
    refine gf_X4_28 19 dX4_play_16 rfl rfl rfl rfl ?_
    rw [h96]
    refine jr_icmp_ge 35 22 dX4_play_19 rfl rfl (fun z => absurd z (nI_ge (by omega) (by have := hsc.2.1; omega))) (fun q19 => ?_)
    refine jr_aload_n 0 23 dX4_play_22 rfl rfl rfl ?_
    refine jr_aload_n 1 24 dX4_play_23 rfl rfl rfl ?_
    refine jr_iload_n 3 25 dX4_play_24 rfl rfl rfl ?_
    refine jr_iload_n 2 26 dX4_play_25 rfl rfl rfl ?_
    refine cs_X4_49 29 dX4_play_26 rfl rfl rfl (Nat.le_of_ble_eq_true rfl) (wp_playOne_15 (len := len) hsc1 (f := f) (by omega) hlen hT1 hlw hlaw1 (fun σ2 g1 g2 g3 g4 => ?_))
    refine jr_iinc (v := nI (f + 1)) (L' := [_, _, _, _]) 32 dX4_play_29 rfl rfl (nI_1 f) (by decide) rfl ?_
    refine jr_goto 14 dX4_play_32 rfl ?_
    rw [he 17 (by decide), he 20 (by decide)] at g2
    rw [hC] at g3
    refine ih (f + 1) σ2 (by omega) (jr_eqx_tr he (jr_eqx_w g1 (by simp))) (by rw [g1 9 (by decide)]; exact h9) (fun q hq => ?_)
    rcases (by omega : q = f ∨ q < f) with rfl | hq2
    · exact ⟨by rw [g2]; exact pk_us, g3⟩
    · obtain ⟨e1, e2⟩ := hd q hq2
      refine ⟨by rw [g2, pk_un (by omega)]; exact e1, fun t ht => ?_⟩
      have h5 := hsc.2.1
      obtain ⟨e3, e4⟩ := g4 (5 * t + q) (by omega)
      rw [e3, e4]
      exact e2 t ht
theorem wp_play_15 {G : jr_G} {d : Nat} {σ : jr_Sg} {k : jr_Sg → Prop} {T : Nat → Nat → List Nat} {n lw nf nc len : Nat} {kd se : Nat → Nat} (hsc : sc_ok 15 σ nf nc kd se) (hlen : len ≤ 40) (hT : ti_C T n σ) (hlw : lw < n) (hlaw : σ 15 10 = nI lw) (hk : ∀ σ' : jr_Sg, jr_eqx [4, 9, 11, 12, 13, 14] σ σ' → σ' 9 = upd (σ 9) 6 (nI nf) → (∀ f, f < nf → σ' 14 f = (pu_redf (kd f) (σ 17 f) (σ 20 (se f))) ∧ ∀ t, t ≤ len → σ' 12 (5 * t + f) = (sm_C 15 T lw nf nc kd se σ f t).1 ∧ σ' 13 (5 * t + f) = (sm_C 15 T lw nf nc kd se σ f t).2) → k σ') : jr_M G (d + 5) mi_X4_play [.ref 9, .ref 15, .int (nI len)] σ (jr_kv k) := by
  have h5 := hsc.2.1
  have hnf := hsc.1
  refine jr_enter (L := [some (.ref 9), some (.ref 15), some (.int (nI len)), none]) (by decide) (Nat.le_of_ble_eq_true rfl) rfl ?_
  refine jr_aload_n 0 1 dX4_play_0 rfl rfl rfl ?_
  refine jr_aload_n 1 2 dX4_play_1 rfl rfl rfl ?_
  refine gf_X4_40 5 dX4_play_2 rfl rfl rfl rfl ?_
  rw [hnf]
  refine jr_iconst (nI 5) 6 dX4_play_5 rfl rfl ?_
  refine jr_mmin 9 dX4_play_6 rfl ml_X4_43 (Nat.le_of_ble_eq_true rfl) ?_
  rw [pu_min_l h5 (by decide)]
  refine pf_X4_28 12 dX4_play_9 rfl rfl rfl rfl ?_
  refine jr_iconst (nI 0) 13 dX4_play_12 rfl rfl ?_
  refine jr_istore_n 3 (L' := [_, _, _, _]) 14 dX4_play_13 rfl rfl (by decide) rfl ?_
  exact play_loop_15 hsc hlen hT hlw hlaw hk nf 0 _ (by omega) (jr_eqx_up _ _ _ (by decide)) rfl (fun g hg => absurd hg (by omega))
theorem playOne_loop_24 {G : jr_G} {d : Nat} {σ : jr_Sg} {k : jr_Sg → Prop} {T : Nat → Nat → List Nat} {n lw nf nc f len : Nat} {kd se : Nat → Nat} (hsc : sc_ok 24 σ nf nc kd se) (hf : f < nf) (hlen : len ≤ 40) (hT : ti_C T n σ) (hlw : lw < n) (hlaw : σ 24 10 = nI lw) (hk : ∀ σ' : jr_Sg, jr_eqx [4, 11, 12, 13, 14] σ σ' → σ' 14 = upd (σ 14) f (pu_redf (kd f) (σ 26 f) (σ 29 (se f))) → (∀ t, t ≤ len → σ' 12 (5 * t + f) = (sm_C 24 T lw nf nc kd se σ f t).1 ∧ σ' 13 (5 * t + f) = (sm_C 24 T lw nf nc kd se σ f t).2) → (∀ j, ¬ j % 5 = f → σ' 12 j = σ 12 j ∧ σ' 13 j = σ 13 j) → k σ') : ∀ (m j : Nat) (σ1 : jr_Sg), j + m = len → jr_eqx [4, 11, 12, 13, 14] σ σ1 → σ1 14 = upd (σ 14) f (pu_redf (kd f) (σ 26 f) (σ 29 (se f))) → (∀ t, t ≤ j → σ1 12 (5 * t + f) = (sm_C 24 T lw nf nc kd se σ f t).1 ∧ σ1 13 (5 * t + f) = (sm_C 24 T lw nf nc kd se σ f t).2) → (∀ i, ¬ i % 5 = f → σ1 12 i = σ 12 i ∧ σ1 13 i = σ 13 i) → jr_R G (d + 4) mi_X4_playOne (jr_kv k) 42 [some (.ref 9), some (.ref 24), some (.int (nI f)), some (.int (nI len)), some (.int (nI j))] [] σ1 := by
  intro m
  induction m with
  | zero =>
    intro j σ1 hj he h14 htr hrest
    have e : j = len := hj
    subst e
    refine jr_iload 44 dX4_playOne_42 rfl rfl ?_
    refine jr_iload_n 3 45 dX4_playOne_44 rfl rfl rfl ?_
    refine jr_icmp_ge 69 48 dX4_playOne_45 rfl rfl (fun q45 => ?_) (fun z => absurd (Int32.le_refl _) z)
    refine jr_return dX4_playOne_69 rfl ?_
    exact hk σ1 he h14 htr hrest
  | succ m ih =>
    intro j σ1 hj he h14 htr hrest
    have hf5 : f < 5 := Nat.lt_of_lt_of_le hf hsc.2.1
    have hsc1 : sc_ok 24 σ1 nf nc kd se := sc_ok_of hsc (he _ (by decide)) (he _ (by decide)) (he _ (by decide))
    have hT1 : ti_C T n σ1 := ti_C_of hT (he 1 (by decide)) (he 2 (by decide)) (he 3 (by decide))
    have hlaw1 : σ1 24 10 = nI lw := by rw [he 24 (by decide)]; exact hlaw
    have hbl : pu_bl σ1 f = pu_bl σ f := by funext q; unfold pu_bl; rw [he 7 (by decide)]
    have hca : pu_ca 24 σ1 nc f = pu_ca 24 σ nc f := by funext q; unfold pu_ca; rw [he 30 (by decide), he 31 (by decide), he 32 (by decide)]
    have hcb : pu_cb σ1 f = pu_cb σ f := by funext q; unfold pu_cb; rw [he 7 (by decide)]
    have hdr : pu_dr σ1 f = pu_dr σ f := by funext q; unfold pu_dr; rw [he 7 (by decide), he 8 (by decide)]
    have hrf : σ1 14 f = (pu_redf (kd f) (σ 26 f) (σ 29 (se f))) := by rw [h14]; exact pk_us
    have hst : sm_step (ev_t T lw) nf (σ1 26) (kd f) (σ1 14 f) (σ1 29 (se f)) f (pu_bl σ1 f) (σ1 7 0) (σ1 7 1) (σ1 7 2) (pu_ca 24 σ1 nc f) (pu_cb σ1 f) (pu_dr σ1 f) j (σ1 12 (5 * j + f), σ1 13 (5 * j + f)) = sm_C 24 T lw nf nc kd se σ f (j + 1) := by
      rw [(htr j (Nat.le_refl _)).1, (htr j (Nat.le_refl _)).2, hbl, hca, hcb, hdr, hrf, he 26 (by decide), he 29 (by decide), he 7 (by decide)]
      rfl
    refine jr_iload 44 dX4_playOne_42 rfl rfl ?_
    refine jr_iload_n 3 45 dX4_playOne_44 rfl rfl rfl ?_
    refine jr_icmp_ge 69 48 dX4_playOne_45 rfl rfl (fun z => absurd z (nI_ge (by omega) (by omega))) (fun q45 => ?_)
    refine jr_iload 50 dX4_playOne_48 rfl rfl ?_
    refine jr_bipush (40) 52 dX4_playOne_50 rfl rfl ?_
    refine jr_icmp_ge 69 55 dX4_playOne_52 rfl rfl (fun z => absurd z (nI_ge (b := 40) (by omega) (by decide))) (fun q52 => ?_)
    refine jr_aload_n 0 56 dX4_playOne_55 rfl rfl rfl ?_
    refine jr_aload_n 1 57 dX4_playOne_56 rfl rfl rfl ?_
    refine jr_iload_n 2 58 dX4_playOne_57 rfl rfl rfl ?_
    refine jr_iload 60 dX4_playOne_58 rfl rfl ?_
    refine cs_X4_61 63 dX4_playOne_60 rfl rfl rfl (Nat.le_of_ble_eq_true rfl) (wp_playSecond_24 hsc1 hf (by omega) hT1 hlw hlaw1 (fun σ2 g1 g2 g3 => ?_))
    refine jr_iinc (v := nI (j + 1)) (L' := [_, _, _, _, _]) 66 dX4_playOne_63 rfl rfl (nI_1 j) (by decide) rfl ?_
    refine jr_goto 42 dX4_playOne_66 rfl ?_
    rw [hst] at g2 g3
    refine ih (j + 1) σ2 (by omega) (jr_eqx_tr he (jr_eqx_w g1 (by simp))) (by rw [g1 14 (by decide)]; exact h14) (fun t ht => ?_) (fun i hi => ?_)
    · rcases (by omega : t = j + 1 ∨ t ≤ j) with rfl | q
      · rw [show 5 * (j + 1) + f = 5 * j + f + 5 by omega, g2, g3]
        exact ⟨pk_us, pk_us⟩
      · rw [g2, g3, pk_un (by omega), pk_un (by omega)]
        exact htr t q
    · rw [g2, g3, pk_un (by omega), pk_un (by omega)]
      exact hrest i hi
theorem wp_playOne_24 {G : jr_G} {d : Nat} {σ : jr_Sg} {k : jr_Sg → Prop} {T : Nat → Nat → List Nat} {n lw nf nc f len : Nat} {kd se : Nat → Nat} (hsc : sc_ok 24 σ nf nc kd se) (hf : f < nf) (hlen : len ≤ 40) (hT : ti_C T n σ) (hlw : lw < n) (hlaw : σ 24 10 = nI lw) (hk : ∀ σ' : jr_Sg, jr_eqx [4, 11, 12, 13, 14] σ σ' → σ' 14 = upd (σ 14) f (pu_redf (kd f) (σ 26 f) (σ 29 (se f))) → (∀ t, t ≤ len → σ' 12 (5 * t + f) = (sm_C 24 T lw nf nc kd se σ f t).1 ∧ σ' 13 (5 * t + f) = (sm_C 24 T lw nf nc kd se σ f t).2) → (∀ j, ¬ j % 5 = f → σ' 12 j = σ 12 j ∧ σ' 13 j = σ 13 j) → k σ') : jr_M G (d + 4) mi_X4_playOne [.ref 9, .ref 24, .int (nI f), .int (nI len)] σ (jr_kv k) := by
  have hf5 : f < 5 := Nat.lt_of_lt_of_le hf hsc.2.1
  have hsc0 := hsc
  obtain ⟨hnf, h5, hnc, h8, hall⟩ := hsc
  refine jr_enter (L := [some (.ref 9), some (.ref 24), some (.int (nI f)), some (.int (nI len)), none]) (by decide) (Nat.le_of_ble_eq_true rfl) rfl ?_
  refine jr_aload_n 1 1 dX4_playOne_0 rfl rfl rfl ?_
  refine jr_iload_n 2 2 dX4_playOne_1 rfl rfl rfl ?_
  refine cs_X4_53 5 dX4_playOne_2 rfl rfl rfl (Nat.le_of_ble_eq_true rfl) (wp_hasT_24 hnf h5 hf ?_)
  refine jr_if_ne 9 8 dX4_playOne_5 rfl rfl (fun q5 => ?_) (fun q => absurd q (by decide))
  refine jr_aload_n 0 10 dX4_playOne_9 rfl rfl rfl ?_
  refine gf_X4_18 13 dX4_playOne_10 rfl rfl rfl rfl ?_
  refine jr_iload_n 2 14 dX4_playOne_13 rfl rfl rfl ?_
  refine jr_aload_n 1 15 dX4_playOne_14 rfl rfl rfl ?_
  refine gf_X4_57 18 dX4_playOne_15 rfl rfl rfl rfl ?_
  refine jr_iload_n 2 19 dX4_playOne_18 rfl rfl rfl ?_
  refine jr_iald rfl rfl (by omega) 20 dX4_playOne_19 rfl ?_
  refine jr_iast rfl rfl (by omega) 21 dX4_playOne_20 rfl ?_
  refine jr_aload_n 0 22 dX4_playOne_21 rfl rfl rfl ?_
  refine gf_X4_22 25 dX4_playOne_22 rfl rfl rfl rfl ?_
  refine jr_iload_n 2 26 dX4_playOne_25 rfl rfl rfl ?_
  refine jr_iconst (0) 27 dX4_playOne_26 rfl rfl ?_
  refine jr_iast rfl rfl (by omega) 28 dX4_playOne_27 rfl ?_
  refine jr_aload_n 0 29 dX4_playOne_28 rfl rfl rfl ?_
  refine gf_X4_25 32 dX4_playOne_29 rfl rfl rfl rfl ?_
  refine jr_iload_n 2 33 dX4_playOne_32 rfl rfl rfl ?_
  refine jr_aload_n 1 34 dX4_playOne_33 rfl rfl rfl ?_
  refine jr_iload_n 2 35 dX4_playOne_34 rfl rfl rfl ?_
  refine cs_X4_58 38 dX4_playOne_35 rfl rfl rfl (Nat.le_of_ble_eq_true rfl) (wp_sredFrom_24 (nf := nf) (nc := nc) (kd := kd) (se := se) hsc0 hf ?_)
  refine jr_iast rfl rfl (by omega) 39 dX4_playOne_38 rfl ?_
  refine jr_iconst (0) 40 dX4_playOne_39 rfl rfl ?_
  refine jr_istore (L' := [_, _, _, _, _]) 42 dX4_playOne_40 rfl (by decide) rfl ?_
  refine playOne_loop_24 hsc0 hf hlen hT hlw hlaw hk len 0 _ (by omega) (by repeat (first | exact jr_eqx_rf _ _ | refine jr_eqx_tr ?_ (jr_eqx_up _ _ _ (by decide)))) rfl (fun t ht => ?_) (fun i hi => ?_)
  · have e : t = 0 := by omega
    subst e
    rw [show 5 * 0 + f = f by omega]
    exact ⟨pk_us, pk_us⟩
  · exact ⟨pk_un (by intro e; rw [e] at hi; exact hi (Nat.mod_eq_of_lt hf5)), pk_un (by intro e; rw [e] at hi; exact hi (Nat.mod_eq_of_lt hf5))⟩
theorem play_loop_24 {G : jr_G} {d : Nat} {σ : jr_Sg} {k : jr_Sg → Prop} {T : Nat → Nat → List Nat} {n lw nf nc len : Nat} {kd se : Nat → Nat} (hsc : sc_ok 24 σ nf nc kd se) (hlen : len ≤ 40) (hT : ti_C T n σ) (hlw : lw < n) (hlaw : σ 24 10 = nI lw) (hk : ∀ σ' : jr_Sg, jr_eqx [4, 9, 11, 12, 13, 14] σ σ' → σ' 9 = upd (σ 9) 6 (nI nf) → (∀ f, f < nf → σ' 14 f = (pu_redf (kd f) (σ 26 f) (σ 29 (se f))) ∧ ∀ t, t ≤ len → σ' 12 (5 * t + f) = (sm_C 24 T lw nf nc kd se σ f t).1 ∧ σ' 13 (5 * t + f) = (sm_C 24 T lw nf nc kd se σ f t).2) → k σ') : ∀ (m f : Nat) (σ1 : jr_Sg), f + m = nf → jr_eqx [4, 9, 11, 12, 13, 14] σ σ1 → σ1 9 = upd (σ 9) 6 (nI nf) → (∀ g, g < f → σ1 14 g = (pu_redf (kd g) (σ 26 g) (σ 29 (se g))) ∧ ∀ t, t ≤ len → σ1 12 (5 * t + g) = (sm_C 24 T lw nf nc kd se σ g t).1 ∧ σ1 13 (5 * t + g) = (sm_C 24 T lw nf nc kd se σ g t).2) → jr_R G (d + 5) mi_X4_play (jr_kv k) 14 [some (.ref 9), some (.ref 24), some (.int (nI len)), some (.int (nI f))] [] σ1 := by
  intro m
  induction m with
  | zero =>
    intro f σ1 hj he h9 hd
    have e : f = nf := hj
    subst e
    have h96 : σ1 9 6 = nI f := by rw [h9]; exact pk_us
    refine jr_iload_n 3 15 dX4_play_14 rfl rfl rfl ?_
    refine jr_aload_n 0 16 dX4_play_15 rfl rfl rfl ?_
    refine gf_X4_28 19 dX4_play_16 rfl rfl rfl rfl ?_
    rw [h96]
    refine jr_icmp_ge 35 22 dX4_play_19 rfl rfl (fun q19 => ?_) (fun z => absurd (Int32.le_refl _) z)
    refine jr_return dX4_play_35 rfl ?_
    exact hk σ1 he h9 hd
  | succ m ih =>
    intro f σ1 hj he h9 hd
    have h96 : σ1 9 6 = nI nf := by rw [h9]; exact pk_us
    have hsc1 : sc_ok 24 σ1 nf nc kd se := sc_ok_of hsc (he _ (by decide)) (he _ (by decide)) (he _ (by decide))
    have hT1 : ti_C T n σ1 := ti_C_of hT (he 1 (by decide)) (he 2 (by decide)) (he 3 (by decide))
    have hlaw1 : σ1 24 10 = nI lw := by rw [he 24 (by decide)]; exact hlaw
    have hC : sm_C 24 T lw nf nc kd se σ1 f = sm_C 24 T lw nf nc kd se σ f := by
      have hbl : pu_bl σ1 f = pu_bl σ f := by funext q; unfold pu_bl; rw [he 7 (by decide)]
      have hca : pu_ca 24 σ1 nc f = pu_ca 24 σ nc f := by funext q; unfold pu_ca; rw [he 30 (by decide), he 31 (by decide), he 32 (by decide)]
      have hcb : pu_cb σ1 f = pu_cb σ f := by funext q; unfold pu_cb; rw [he 7 (by decide)]
      have hdr : pu_dr σ1 f = pu_dr σ f := by funext q; unfold pu_dr; rw [he 7 (by decide), he 8 (by decide)]
      unfold sm_C
      rw [hbl, hca, hcb, hdr, he 26 (by decide), he 29 (by decide), he 27 (by decide), he 7 (by decide)]
    refine jr_iload_n 3 15 dX4_play_14 rfl rfl rfl ?_
    refine jr_aload_n 0 16 dX4_play_15 rfl rfl rfl ?_
    refine gf_X4_28 19 dX4_play_16 rfl rfl rfl rfl ?_
    rw [h96]
    refine jr_icmp_ge 35 22 dX4_play_19 rfl rfl (fun z => absurd z (nI_ge (by omega) (by have := hsc.2.1; omega))) (fun q19 => ?_)
    refine jr_aload_n 0 23 dX4_play_22 rfl rfl rfl ?_
    refine jr_aload_n 1 24 dX4_play_23 rfl rfl rfl ?_
    refine jr_iload_n 3 25 dX4_play_24 rfl rfl rfl ?_
    refine jr_iload_n 2 26 dX4_play_25 rfl rfl rfl ?_
    refine cs_X4_49 29 dX4_play_26 rfl rfl rfl (Nat.le_of_ble_eq_true rfl) (wp_playOne_24 (len := len) hsc1 (f := f) (by omega) hlen hT1 hlw hlaw1 (fun σ2 g1 g2 g3 g4 => ?_))
    refine jr_iinc (v := nI (f + 1)) (L' := [_, _, _, _]) 32 dX4_play_29 rfl rfl (nI_1 f) (by decide) rfl ?_
    refine jr_goto 14 dX4_play_32 rfl ?_
    rw [he 26 (by decide), he 29 (by decide)] at g2
    rw [hC] at g3
    refine ih (f + 1) σ2 (by omega) (jr_eqx_tr he (jr_eqx_w g1 (by simp))) (by rw [g1 9 (by decide)]; exact h9) (fun q hq => ?_)
    rcases (by omega : q = f ∨ q < f) with rfl | hq2
    · exact ⟨by rw [g2]; exact pk_us, g3⟩
    · obtain ⟨e1, e2⟩ := hd q hq2
      refine ⟨by rw [g2, pk_un (by omega)]; exact e1, fun t ht => ?_⟩
      have h5 := hsc.2.1
      obtain ⟨e3, e4⟩ := g4 (5 * t + q) (by omega)
      rw [e3, e4]
      exact e2 t ht
theorem wp_play_24 {G : jr_G} {d : Nat} {σ : jr_Sg} {k : jr_Sg → Prop} {T : Nat → Nat → List Nat} {n lw nf nc len : Nat} {kd se : Nat → Nat} (hsc : sc_ok 24 σ nf nc kd se) (hlen : len ≤ 40) (hT : ti_C T n σ) (hlw : lw < n) (hlaw : σ 24 10 = nI lw) (hk : ∀ σ' : jr_Sg, jr_eqx [4, 9, 11, 12, 13, 14] σ σ' → σ' 9 = upd (σ 9) 6 (nI nf) → (∀ f, f < nf → σ' 14 f = (pu_redf (kd f) (σ 26 f) (σ 29 (se f))) ∧ ∀ t, t ≤ len → σ' 12 (5 * t + f) = (sm_C 24 T lw nf nc kd se σ f t).1 ∧ σ' 13 (5 * t + f) = (sm_C 24 T lw nf nc kd se σ f t).2) → k σ') : jr_M G (d + 5) mi_X4_play [.ref 9, .ref 24, .int (nI len)] σ (jr_kv k) := by
  have h5 := hsc.2.1
  have hnf := hsc.1
  refine jr_enter (L := [some (.ref 9), some (.ref 24), some (.int (nI len)), none]) (by decide) (Nat.le_of_ble_eq_true rfl) rfl ?_
  refine jr_aload_n 0 1 dX4_play_0 rfl rfl rfl ?_
  refine jr_aload_n 1 2 dX4_play_1 rfl rfl rfl ?_
  refine gf_X4_40 5 dX4_play_2 rfl rfl rfl rfl ?_
  rw [hnf]
  refine jr_iconst (nI 5) 6 dX4_play_5 rfl rfl ?_
  refine jr_mmin 9 dX4_play_6 rfl ml_X4_43 (Nat.le_of_ble_eq_true rfl) ?_
  rw [pu_min_l h5 (by decide)]
  refine pf_X4_28 12 dX4_play_9 rfl rfl rfl rfl ?_
  refine jr_iconst (nI 0) 13 dX4_play_12 rfl rfl ?_
  refine jr_istore_n 3 (L' := [_, _, _, _]) 14 dX4_play_13 rfl rfl (by decide) rfl ?_
  exact play_loop_24 hsc hlen hT hlw hlaw hk nf 0 _ (by omega) (jr_eqx_up _ _ _ (by decide)) rfl (fun g hg => absurd hg (by omega))

/-- what a run of the reference wants -/
def rr_ok (T : Nat → Nat → List Nat) (n nf nc : Nat) (kd se : Nat → Nat) (lw : Nat) (σ : jr_Sg) : Prop := sr_ok σ nf nc kd se ∧ (∃ m : Nat, m ≤ 400 ∧ σ 46 46 = nI m) ∧ ti_R T n σ ∧ lw < n ∧ σ 46 13 = nI lw
theorem rr_of {T : Nat → Nat → List Nat} {n nf nc lw tp : Nat} {kd se : Nat → Nat} {σ : jr_Sg} (h : iv T n nf nc kd se lw tp σ) : rr_ok T n nf nc kd se lw σ := ⟨h.2.2.1.2.1, h.2.2.2.2.2.2.1.2.2.2.1, h.2.1, h.2.2.1.2.2.2.2.1, h.2.2.1.2.2.2.1⟩
theorem rr_mod {T : Nat → Nat → List Nat} {n nf nc lw : Nat} {kd se : Nat → Nat} {σ σ' : jr_Sg} (h : rr_ok T n nf nc kd se lw σ) (e1 : σ' 46 1 = σ 46 1) (e6 : σ' 46 6 = σ 46 6) (e12 : σ' 46 12 = σ 46 12) (e13 : σ' 46 13 = σ 46 13) (e46 : σ' 46 46 = σ 46 46) (e48 : σ' 48 = σ 48) (e49 : σ' 49 = σ 49) (e51 : σ' 51 = σ 51) (e54 : σ' 54 = σ 54) (e55 : σ' 55 = σ 55) : rr_ok T n nf nc kd se lw σ' := by
  unfold rr_ok sr_ok ti_R at h ⊢
  rw [e1, e6, e12, e13, e46, e48, e49, e51, e54, e55]
  exact h
theorem rr_rx {T : Nat → Nat → List Nat} {n nf nc lw : Nat} {kd se : Nat → Nat} {σ σ' : jr_Sg} (h : rr_ok T n nf nc kd se lw σ) (g : jr_eqx iv_RX σ σ') : rr_ok T n nf nc kd se lw σ' := rr_mod h (by rw [g 46 (by decide)]) (by rw [g 46 (by decide)]) (by rw [g 46 (by decide)]) (by rw [g 46 (by decide)]) (by rw [g 46 (by decide)]) (g _ (by decide)) (g _ (by decide)) (g _ (by decide)) (g _ (by decide)) (g _ (by decide))
theorem sm_R_rx {T : Nat → Nat → List Nat} {lw nf nc f : Nat} {kd se : Nat → Nat} {σ σ' : jr_Sg} (h : jr_eqx iv_RX σ σ') : sm_R T lw nf nc kd se σ' f = sm_R T lw nf nc kd se σ f := by
  have hbl : pr_bl σ' f = pr_bl σ f := by funext q; unfold pr_bl; rw [h 46 (by decide)]
  have hca : pr_ca σ' nc f = pr_ca σ nc f := by funext q; unfold pr_ca; rw [h 46 (by decide), h 52 (by decide), h 70 (by decide)]
  have hdr : pr_dr σ' f = pr_dr σ f := by funext q; unfold pr_dr; rw [h 46 (by decide), h 71 (by decide)]
  unfold sm_R
  rw [hbl, hca, hdr, h 46 (by decide), h 47 (by decide), h 49 (by decide), h 50 (by decide)]
theorem pr_rf_rx {kd se : Nat → Nat} {f : Nat} {σ σ' : jr_Sg} (h : jr_eqx iv_RX σ σ') : pr_rf kd se σ' f = pr_rf kd se σ f := by
  unfold pr_rf
  rw [h 49 (by decide), h 47 (by decide)]
theorem wp_rruns {G : jr_G} {d : Nat} {σ : jr_Sg} {k : jr_Sg → Prop} {T : Nat → Nat → List Nat} {n lw nf nc : Nat} {kd se : Nat → Nat} (hr : rr_ok T n nf nc kd se lw σ) {len : Nat} (hlen : len ≤ 40) (hk : ∀ σ' : jr_Sg, jr_eqx iv_RX σ σ' → (∀ f, f < nf → σ' 65 f = ((sm_R T lw nf nc kd se σ f) len).1 ∧ σ' 67 f = ((sm_R T lw nf nc kd se σ f) len).2 ∧ ∀ t, t < len → σ' 69 (5 * t + f) = ((sm_R T lw nf nc kd se σ f) (t + 1)).1) → k σ') : jr_M G (d + 5) mi_X10_runs [.ref 46, .int (nI len)] σ (jr_kv k) := wp_runs hr.1 hr.2.1 hr.2.2.1 hr.2.2.2.1 hr.2.2.2.2 hlen hk
theorem wp_rrt {G : jr_G} {d : Nat} {σ : jr_Sg} {k : Value → jr_Sg → Prop} {T : Nat → Nat → List Nat} {n lw nf nc : Nat} {kd se : Nat → Nat} (hr : rr_ok T n nf nc kd se lw σ) {f what : Nat} (hf : f < nf) (hw : what < 5) (hk : ∀ σ' : jr_Sg, jr_eqx iv_RX σ σ' → k (.int (tr_rt (sm_R T lw nf nc kd se σ f) (pr_rf kd se σ f) what)) σ') : jr_M G (d + 6) mi_X10_redTold [.ref 46, .int (nI f), .int (nI what)] σ (jr_k k) := wp_rRedTold hr.1 hr.2.1 hr.2.2.1 hr.2.2.2.1 hr.2.2.2.2 hf hw hk
theorem wp_diesNow {G : jr_G} {d : Nat} {σ : jr_Sg} {k : Value → jr_Sg → Prop} {T : Nat → Nat → List Nat} {n lw nf nc : Nat} {kd se : Nat → Nat} (hr : rr_ok T n nf nc kd se lw σ) {f : Nat} (hf : f < nf) (hk : ∀ σ' : jr_Sg, jr_eqx iv_RX σ σ' → k (.int (if tr_mo (sm_R T lw nf nc kd se σ f) = 400 then 2 else if pr_rf kd se σ f ≤ ((sm_R T lw nf nc kd se σ f) 40).1 then 1 else 0)) σ') : jr_M G (d + 6) mi_X10_diesNow [.ref 46, .int (nI f)] σ (jr_k k) := by
  refine jr_enter (L := [some (.ref 46), some (.int (nI f))]) (by decide) (Nat.le_of_ble_eq_true rfl) rfl ?_
  refine jr_aload_n 0 1 dX10_diesNow_0 rfl rfl rfl ?_
  refine jr_bipush (40) 3 dX10_diesNow_1 rfl rfl ?_
  refine cs_X10_253 6 dX10_diesNow_3 rfl rfl rfl (Nat.le_of_ble_eq_true rfl) (wp_rruns (len := 40) hr (by omega) (fun σ1 g1 g2 => ?_))
  have hsr1 := (rr_rx hr g1).1
  have h5 : nf ≤ 5 := hr.1.2.1
  have erf : ∀ f, pu_redf (kd f) (σ1 49 f) (σ1 47 (se f)) = pr_rf kd se σ f := fun f => pr_rf_rx g1
  have hrd : ∀ f, f < nf → rd σ1 f (σ1 50 f) (sm_R T lw nf nc kd se σ f) := fun f hf => ⟨by rw [g1 50 (by decide)]; rfl, (g2 f hf).1, (g2 f hf).2.2⟩
  refine jr_aload_n 0 7 dX10_diesNow_6 rfl rfl rfl ?_
  refine jr_iload_n 1 8 dX10_diesNow_7 rfl rfl rfl ?_
  refine cs_X10_260 11 dX10_diesNow_8 rfl rfl rfl (Nat.le_of_ble_eq_true rfl) (wp_mostWarm (by omega) ?_)
  refine jr_topi (y := tr_mo (sm_R T lw nf nc kd se σ f)) (rd_mo (hrd f hf)) ?_
  refine jr_sipush (400) 14 dX10_diesNow_11 rfl rfl ?_
  refine jr_icmp_ne 21 17 dX10_diesNow_14 rfl rfl (fun q14 => ?_) (fun q14 => ?_)
  · refine jr_aload_n 0 22 dX10_diesNow_21 rfl rfl rfl ?_
    refine jr_iload_n 1 23 dX10_diesNow_22 rfl rfl rfl ?_
    refine cs_X10_250 26 dX10_diesNow_23 rfl rfl rfl (Nat.le_of_ble_eq_true rfl) (wp_isRedNow hsr1 hf (fun qr => ?_) (fun qr => ?_))
    · refine jr_if_eq 33 29 dX10_diesNow_26 rfl rfl (fun q => absurd q (by decide)) (fun q26 => ?_)
      refine jr_iconst (1) 30 dX10_diesNow_29 rfl rfl ?_
      refine jr_goto 34 dX10_diesNow_30 rfl ?_
      refine jr_ireturn dX10_diesNow_34 rfl rfl ?_
      have hq := hk σ1 g1
      rw [if_neg q14, if_pos (by rw [erf, (g2 f hf).1] at qr; exact qr)] at hq
      exact hq
    · refine jr_if_eq 33 29 dX10_diesNow_26 rfl rfl (fun q26 => ?_) (fun q => absurd (by decide) q)
      refine jr_iconst (0) 34 dX10_diesNow_33 rfl rfl ?_
      refine jr_ireturn dX10_diesNow_34 rfl rfl ?_
      have hq := hk σ1 g1
      rw [if_neg q14, if_neg (by rw [erf, (g2 f hf).1] at qr; exact qr)] at hq
      exact hq
  · refine jr_iconst (2) 18 dX10_diesNow_17 rfl rfl ?_
    refine jr_goto 34 dX10_diesNow_18 rfl ?_
    refine jr_ireturn dX10_diesNow_34 rfl rfl ?_
    have hq := hk σ1 g1
    rw [if_pos q14] at hq
    exact hq
theorem wp_redOfAll_loop {G : jr_G} {d : Nat} {σ : jr_Sg} {k : Value → jr_Sg → Prop} {T : Nat → Nat → List Nat} {n lw nf nc : Nat} {kd se : Nat → Nat} (hr : rr_ok T n nf nc kd se lw σ)   (hk : ∀ σ' : jr_Sg, jr_eqx iv_RX σ σ' → k (.int (lp (fun f a => a + tr_rs (sm_R T lw nf nc kd se σ f) (pr_rf kd se σ f)) 0 nf)) σ') {σ1 : jr_Sg} (g1 : jr_eqx iv_RX σ σ1) (g2 : ∀ f, f < nf → σ1 65 f = ((sm_R T lw nf nc kd se σ f) 40).1 ∧ σ1 67 f = ((sm_R T lw nf nc kd se σ f) 40).2 ∧ ∀ t, t < 40 → σ1 69 (5 * t + f) = ((sm_R T lw nf nc kd se σ f) (t + 1)).1) : ∀ (m j : Nat) (acc : Int32), j + m = nf → acc = lp (fun f a => a + tr_rs (sm_R T lw nf nc kd se σ f) (pr_rf kd se σ f)) 0 j → jr_R G (d + 6) mi_X10_redOfAll (jr_k k) 10 [some (.ref 46), some (.int acc), some (.int (nI j))] [] σ1 := by
  intro m
  have hsr1 := (rr_rx hr g1).1
  have h5 : nf ≤ 5 := hr.1.2.1
  have erf : ∀ f, pu_redf (kd f) (σ1 49 f) (σ1 47 (se f)) = pr_rf kd se σ f := fun f => pr_rf_rx g1
  have hrd : ∀ f, f < nf → rd σ1 f (σ1 50 f) (sm_R T lw nf nc kd se σ f) := fun f hf => ⟨by rw [g1 50 (by decide)]; rfl, (g2 f hf).1, (g2 f hf).2.2⟩
  have hnf1 : σ1 46 1 = nI nf := hsr1.1
  induction m with
  | zero =>
    intro j acc hj hacc
    have ej : j = nf := hj
    subst ej
    subst hacc
    refine jr_iload_n 2 11 dX10_redOfAll_10 rfl rfl rfl ?_
    refine jr_aload_n 0 12 dX10_redOfAll_11 rfl rfl rfl ?_
    refine gf_X10_105 15 dX10_redOfAll_12 rfl rfl rfl rfl ?_
    rw [hnf1]
    refine jr_icmp_ge 32 18 dX10_redOfAll_15 rfl rfl (fun q15 => ?_) (fun z => absurd (Int32.le_refl _) z)
    refine jr_iload_n 1 33 dX10_redOfAll_32 rfl rfl rfl ?_
    refine jr_ireturn dX10_redOfAll_33 rfl rfl ?_
    exact hk σ1 g1
  | succ m ih =>
    intro j acc hj hacc
    refine jr_iload_n 2 11 dX10_redOfAll_10 rfl rfl rfl ?_
    refine jr_aload_n 0 12 dX10_redOfAll_11 rfl rfl rfl ?_
    refine gf_X10_105 15 dX10_redOfAll_12 rfl rfl rfl rfl ?_
    rw [hnf1]
    refine jr_icmp_ge 32 18 dX10_redOfAll_15 rfl rfl (fun z => absurd z (nI_ge (by omega) (by omega))) (fun q15 => ?_)
    refine jr_iload_n 1 19 dX10_redOfAll_18 rfl rfl rfl ?_
    refine jr_aload_n 0 20 dX10_redOfAll_19 rfl rfl rfl ?_
    refine jr_iload_n 2 21 dX10_redOfAll_20 rfl rfl rfl ?_
    refine cs_X10_263 24 dX10_redOfAll_21 rfl rfl rfl (Nat.le_of_ble_eq_true rfl) (wp_rredSeconds (f := j) hsr1 (by omega) ?_)
    refine jr_topi (y := tr_rs (sm_R T lw nf nc kd se σ j) (pr_rf kd se σ j)) (by rw [erf]; exact rd_rs (hrd j (by omega))) ?_
    refine jr_iadd 25 dX10_redOfAll_24 rfl ?_
    refine jr_istore_n 1 (L' := [_, _, _]) 26 dX10_redOfAll_25 rfl rfl (by decide) rfl ?_
    refine jr_iinc (v := nI (j + 1)) (L' := [_, _, _]) 29 dX10_redOfAll_26 rfl rfl (nI_1 j) (by decide) rfl ?_
    refine jr_goto 10 dX10_redOfAll_29 rfl ?_
    exact ih (j + 1) _ (by omega) (by rw [hacc]; rfl)
theorem wp_redOfAll {G : jr_G} {d : Nat} {σ : jr_Sg} {k : Value → jr_Sg → Prop} {T : Nat → Nat → List Nat} {n lw nf nc : Nat} {kd se : Nat → Nat} (hr : rr_ok T n nf nc kd se lw σ)   (hk : ∀ σ' : jr_Sg, jr_eqx iv_RX σ σ' → k (.int (lp (fun f a => a + tr_rs (sm_R T lw nf nc kd se σ f) (pr_rf kd se σ f)) 0 nf)) σ') : jr_M G (d + 6) mi_X10_redOfAll [.ref 46] σ (jr_k k) := by
  refine jr_enter (L := [some (.ref 46), none, none]) (by decide) (Nat.le_of_ble_eq_true rfl) rfl ?_
  refine jr_aload_n 0 1 dX10_redOfAll_0 rfl rfl rfl ?_
  refine jr_bipush (40) 3 dX10_redOfAll_1 rfl rfl ?_
  refine cs_X10_253 6 dX10_redOfAll_3 rfl rfl rfl (Nat.le_of_ble_eq_true rfl) (wp_rruns (len := 40) hr (by omega) (fun σ1 g1 g2 => ?_))
  refine jr_iconst (0) 7 dX10_redOfAll_6 rfl rfl ?_
  refine jr_istore_n 1 (L' := [_, _, _]) 8 dX10_redOfAll_7 rfl rfl (by decide) rfl ?_
  refine jr_iconst (0) 9 dX10_redOfAll_8 rfl rfl ?_
  refine jr_istore_n 2 (L' := [_, _, _]) 10 dX10_redOfAll_9 rfl rfl (by decide) rfl ?_
  exact wp_redOfAll_loop hr  hk g1 g2 nf 0 _ (Nat.zero_add _) rfl
theorem wp_everRed_loop {G : jr_G} {d : Nat} {σ : jr_Sg} {k : Value → jr_Sg → Prop} {T : Nat → Nat → List Nat} {n lw nf nc : Nat} {kd se : Nat → Nat} (hr : rr_ok T n nf nc kd se lw σ)   (hk : ∀ σ' : jr_Sg, jr_eqx iv_RX σ σ' → k (.int (lp (fun f a => a ||| if 0 < tr_rs (sm_R T lw nf nc kd se σ f) (pr_rf kd se σ f) then (1 : Int32) <<< (nI f &&& 31) else 0) 0 nf)) σ') {σ1 : jr_Sg} (g1 : jr_eqx iv_RX σ σ1) (g2 : ∀ f, f < nf → σ1 65 f = ((sm_R T lw nf nc kd se σ f) 40).1 ∧ σ1 67 f = ((sm_R T lw nf nc kd se σ f) 40).2 ∧ ∀ t, t < 40 → σ1 69 (5 * t + f) = ((sm_R T lw nf nc kd se σ f) (t + 1)).1) : ∀ (m j : Nat) (acc : Int32), j + m = nf → acc = lp (fun f a => a ||| if 0 < tr_rs (sm_R T lw nf nc kd se σ f) (pr_rf kd se σ f) then (1 : Int32) <<< (nI f &&& 31) else 0) 0 j → jr_R G (d + 6) mi_X10_everRed (jr_k k) 10 [some (.ref 46), some (.int acc), some (.int (nI j))] [] σ1 := by
  intro m
  have hsr1 := (rr_rx hr g1).1
  have h5 : nf ≤ 5 := hr.1.2.1
  have erf : ∀ f, pu_redf (kd f) (σ1 49 f) (σ1 47 (se f)) = pr_rf kd se σ f := fun f => pr_rf_rx g1
  have hrd : ∀ f, f < nf → rd σ1 f (σ1 50 f) (sm_R T lw nf nc kd se σ f) := fun f hf => ⟨by rw [g1 50 (by decide)]; rfl, (g2 f hf).1, (g2 f hf).2.2⟩
  have hnf1 : σ1 46 1 = nI nf := hsr1.1
  induction m with
  | zero =>
    intro j acc hj hacc
    have ej : j = nf := hj
    subst ej
    subst hacc
    refine jr_iload_n 2 11 dX10_everRed_10 rfl rfl rfl ?_
    refine jr_aload_n 0 12 dX10_everRed_11 rfl rfl rfl ?_
    refine gf_X10_105 15 dX10_everRed_12 rfl rfl rfl rfl ?_
    rw [hnf1]
    refine jr_icmp_ge 42 18 dX10_everRed_15 rfl rfl (fun q15 => ?_) (fun z => absurd (Int32.le_refl _) z)
    refine jr_iload_n 1 43 dX10_everRed_42 rfl rfl rfl ?_
    refine jr_ireturn dX10_everRed_43 rfl rfl ?_
    exact hk σ1 g1
  | succ m ih =>
    intro j acc hj hacc
    refine jr_iload_n 2 11 dX10_everRed_10 rfl rfl rfl ?_
    refine jr_aload_n 0 12 dX10_everRed_11 rfl rfl rfl ?_
    refine gf_X10_105 15 dX10_everRed_12 rfl rfl rfl rfl ?_
    rw [hnf1]
    refine jr_icmp_ge 42 18 dX10_everRed_15 rfl rfl (fun z => absurd z (nI_ge (by omega) (by omega))) (fun q15 => ?_)
    refine jr_iload_n 1 19 dX10_everRed_18 rfl rfl rfl ?_
    refine jr_aload_n 0 20 dX10_everRed_19 rfl rfl rfl ?_
    refine jr_iload_n 2 21 dX10_everRed_20 rfl rfl rfl ?_
    refine cs_X10_263 24 dX10_everRed_21 rfl rfl rfl (Nat.le_of_ble_eq_true rfl) (wp_rredSeconds (f := j) hsr1 (by omega) ?_)
    refine jr_topi (y := tr_rs (sm_R T lw nf nc kd se σ j) (pr_rf kd se σ j)) (by rw [erf]; exact rd_rs (hrd j (by omega))) ?_
    refine jr_if_le 33 27 dX10_everRed_24 rfl rfl (fun q24 => ?_) (fun q24 => ?_)
    · refine jr_iconst (0) 34 dX10_everRed_33 rfl rfl ?_
      refine jr_ior 35 dX10_everRed_34 rfl ?_
      refine jr_istore_n 1 (L' := [_, _, _]) 36 dX10_everRed_35 rfl rfl (by decide) rfl ?_
      refine jr_iinc (v := nI (j + 1)) (L' := [_, _, _]) 39 dX10_everRed_36 rfl rfl (nI_1 j) (by decide) rfl ?_
      refine jr_goto 10 dX10_everRed_39 rfl ?_
      exact ih (j + 1) _ (by omega) (by rw [hacc]; simp only [lp]; first | rw [if_neg (Int32.not_lt.mpr q24)] | rw [if_pos (Int32.not_le.mp q24)])
    · refine jr_iconst (1) 28 dX10_everRed_27 rfl rfl ?_
      refine jr_iload_n 2 29 dX10_everRed_28 rfl rfl rfl ?_
      refine jr_ishl 30 dX10_everRed_29 rfl ?_
      refine jr_goto 34 dX10_everRed_30 rfl ?_
      refine jr_ior 35 dX10_everRed_34 rfl ?_
      refine jr_istore_n 1 (L' := [_, _, _]) 36 dX10_everRed_35 rfl rfl (by decide) rfl ?_
      refine jr_iinc (v := nI (j + 1)) (L' := [_, _, _]) 39 dX10_everRed_36 rfl rfl (nI_1 j) (by decide) rfl ?_
      refine jr_goto 10 dX10_everRed_39 rfl ?_
      exact ih (j + 1) _ (by omega) (by rw [hacc]; simp only [lp]; first | rw [if_neg (Int32.not_lt.mpr q24)] | rw [if_pos (Int32.not_le.mp q24)])
theorem wp_everRed {G : jr_G} {d : Nat} {σ : jr_Sg} {k : Value → jr_Sg → Prop} {T : Nat → Nat → List Nat} {n lw nf nc : Nat} {kd se : Nat → Nat} (hr : rr_ok T n nf nc kd se lw σ)   (hk : ∀ σ' : jr_Sg, jr_eqx iv_RX σ σ' → k (.int (lp (fun f a => a ||| if 0 < tr_rs (sm_R T lw nf nc kd se σ f) (pr_rf kd se σ f) then (1 : Int32) <<< (nI f &&& 31) else 0) 0 nf)) σ') : jr_M G (d + 6) mi_X10_everRed [.ref 46] σ (jr_k k) := by
  refine jr_enter (L := [some (.ref 46), none, none]) (by decide) (Nat.le_of_ble_eq_true rfl) rfl ?_
  refine jr_aload_n 0 1 dX10_everRed_0 rfl rfl rfl ?_
  refine jr_bipush (40) 3 dX10_everRed_1 rfl rfl ?_
  refine cs_X10_253 6 dX10_everRed_3 rfl rfl rfl (Nat.le_of_ble_eq_true rfl) (wp_rruns (len := 40) hr (by omega) (fun σ1 g1 g2 => ?_))
  refine jr_iconst (0) 7 dX10_everRed_6 rfl rfl ?_
  refine jr_istore_n 1 (L' := [_, _, _]) 8 dX10_everRed_7 rfl rfl (by decide) rfl ?_
  refine jr_iconst (0) 9 dX10_everRed_8 rfl rfl ?_
  refine jr_istore_n 2 (L' := [_, _, _]) 10 dX10_everRed_9 rfl rfl (by decide) rfl ?_
  exact wp_everRed_loop hr  hk g1 g2 nf 0 _ (Nat.zero_add _) rfl
theorem wp_rfeltByOthers_loop {G : jr_G} {d : Nat} {σ : jr_Sg} {k : Value → jr_Sg → Prop} {T : Nat → Nat → List Nat} {n lw nf nc : Nat} {kd se : Nat → Nat} (hr : rr_ok T n nf nc kd se lw σ) {x : Nat} (hx : x < 5) (hk : ∀ σ' : jr_Sg, jr_eqx iv_RX σ σ' → k (.int (lp (fun f a => a + if f = x then 0 else tr_fe (sm_R T lw nf nc kd se σ f)) 0 nf)) σ') {σ1 : jr_Sg} (g1 : jr_eqx iv_RX σ σ1) (g2 : ∀ f, f < nf → σ1 65 f = ((sm_R T lw nf nc kd se σ f) 40).1 ∧ σ1 67 f = ((sm_R T lw nf nc kd se σ f) 40).2 ∧ ∀ t, t < 40 → σ1 69 (5 * t + f) = ((sm_R T lw nf nc kd se σ f) (t + 1)).1) : ∀ (m j : Nat) (acc : Int32), j + m = nf → acc = lp (fun f a => a + if f = x then 0 else tr_fe (sm_R T lw nf nc kd se σ f)) 0 j → jr_R G (d + 6) mi_X10_feltByOthers (jr_k k) 10 [some (.ref 46), some (.int (nI x)), some (.int acc), some (.int (nI j))] [] σ1 := by
  intro m
  have hsr1 := (rr_rx hr g1).1
  have h5 : nf ≤ 5 := hr.1.2.1
  have erf : ∀ f, pu_redf (kd f) (σ1 49 f) (σ1 47 (se f)) = pr_rf kd se σ f := fun f => pr_rf_rx g1
  have hrd : ∀ f, f < nf → rd σ1 f (σ1 50 f) (sm_R T lw nf nc kd se σ f) := fun f hf => ⟨by rw [g1 50 (by decide)]; rfl, (g2 f hf).1, (g2 f hf).2.2⟩
  have hnf1 : σ1 46 1 = nI nf := hsr1.1
  induction m with
  | zero =>
    intro j acc hj hacc
    have ej : j = nf := hj
    subst ej
    subst hacc
    refine jr_iload_n 3 11 dX10_feltByOthers_10 rfl rfl rfl ?_
    refine jr_aload_n 0 12 dX10_feltByOthers_11 rfl rfl rfl ?_
    refine gf_X10_105 15 dX10_feltByOthers_12 rfl rfl rfl rfl ?_
    rw [hnf1]
    refine jr_icmp_ge 41 18 dX10_feltByOthers_15 rfl rfl (fun q15 => ?_) (fun z => absurd (Int32.le_refl _) z)
    refine jr_iload_n 2 42 dX10_feltByOthers_41 rfl rfl rfl ?_
    refine jr_ireturn dX10_feltByOthers_42 rfl rfl ?_
    exact hk σ1 g1
  | succ m ih =>
    intro j acc hj hacc
    refine jr_iload_n 3 11 dX10_feltByOthers_10 rfl rfl rfl ?_
    refine jr_aload_n 0 12 dX10_feltByOthers_11 rfl rfl rfl ?_
    refine gf_X10_105 15 dX10_feltByOthers_12 rfl rfl rfl rfl ?_
    rw [hnf1]
    refine jr_icmp_ge 41 18 dX10_feltByOthers_15 rfl rfl (fun z => absurd z (nI_ge (by omega) (by omega))) (fun q15 => ?_)
    refine jr_iload_n 2 19 dX10_feltByOthers_18 rfl rfl rfl ?_
    refine jr_iload_n 3 20 dX10_feltByOthers_19 rfl rfl rfl ?_
    refine jr_iload_n 1 21 dX10_feltByOthers_20 rfl rfl rfl ?_
    refine jr_icmp_ne 28 24 dX10_feltByOthers_21 rfl rfl (fun q21 => ?_) (fun q21 => ?_)
    · refine jr_aload_n 0 29 dX10_feltByOthers_28 rfl rfl rfl ?_
      refine jr_iload_n 3 30 dX10_feltByOthers_29 rfl rfl rfl ?_
      refine cs_X10_272 33 dX10_feltByOthers_30 rfl rfl rfl (Nat.le_of_ble_eq_true rfl) (wp_feltBy (f := j) (by omega) ?_)
      refine jr_topi (y := tr_fe (sm_R T lw nf nc kd se σ j)) (rd_fe (hrd j (by omega))) ?_
      refine jr_iadd 34 dX10_feltByOthers_33 rfl ?_
      refine jr_istore_n 2 (L' := [_, _, _, _]) 35 dX10_feltByOthers_34 rfl rfl (by decide) rfl ?_
      refine jr_iinc (v := nI (j + 1)) (L' := [_, _, _, _]) 38 dX10_feltByOthers_35 rfl rfl (nI_1 j) (by decide) rfl ?_
      refine jr_goto 10 dX10_feltByOthers_38 rfl ?_
      exact ih (j + 1) _ (by omega) (by rw [hacc]; simp only [lp]; first | rw [if_pos (nI_inj (by omega) (by omega) (by assumption))] | rw [if_neg (by intro e; subst e; exact absurd rfl q21)])
    · refine jr_iconst (0) 25 dX10_feltByOthers_24 rfl rfl ?_
      refine jr_goto 33 dX10_feltByOthers_25 rfl ?_
      refine jr_iadd 34 dX10_feltByOthers_33 rfl ?_
      refine jr_istore_n 2 (L' := [_, _, _, _]) 35 dX10_feltByOthers_34 rfl rfl (by decide) rfl ?_
      refine jr_iinc (v := nI (j + 1)) (L' := [_, _, _, _]) 38 dX10_feltByOthers_35 rfl rfl (nI_1 j) (by decide) rfl ?_
      refine jr_goto 10 dX10_feltByOthers_38 rfl ?_
      exact ih (j + 1) _ (by omega) (by rw [hacc]; simp only [lp]; first | rw [if_pos (nI_inj (by omega) (by omega) (by assumption))] | rw [if_neg (by intro e; subst e; exact absurd rfl q21)])
theorem wp_rfeltByOthers {G : jr_G} {d : Nat} {σ : jr_Sg} {k : Value → jr_Sg → Prop} {T : Nat → Nat → List Nat} {n lw nf nc : Nat} {kd se : Nat → Nat} (hr : rr_ok T n nf nc kd se lw σ) {x : Nat} (hx : x < 5) (hk : ∀ σ' : jr_Sg, jr_eqx iv_RX σ σ' → k (.int (lp (fun f a => a + if f = x then 0 else tr_fe (sm_R T lw nf nc kd se σ f)) 0 nf)) σ') : jr_M G (d + 6) mi_X10_feltByOthers [.ref 46, .int (nI x)] σ (jr_k k) := by
  refine jr_enter (L := [some (.ref 46), some (.int (nI x)), none, none]) (by decide) (Nat.le_of_ble_eq_true rfl) rfl ?_
  refine jr_aload_n 0 1 dX10_feltByOthers_0 rfl rfl rfl ?_
  refine jr_bipush (40) 3 dX10_feltByOthers_1 rfl rfl ?_
  refine cs_X10_253 6 dX10_feltByOthers_3 rfl rfl rfl (Nat.le_of_ble_eq_true rfl) (wp_rruns (len := 40) hr (by omega) (fun σ1 g1 g2 => ?_))
  refine jr_iconst (0) 7 dX10_feltByOthers_6 rfl rfl ?_
  refine jr_istore_n 2 (L' := [_, _, _, _]) 8 dX10_feltByOthers_7 rfl rfl (by decide) rfl ?_
  refine jr_iconst (0) 9 dX10_feltByOthers_8 rfl rfl ?_
  refine jr_istore_n 3 (L' := [_, _, _, _]) 10 dX10_feltByOthers_9 rfl rfl (by decide) rfl ?_
  exact wp_rfeltByOthers_loop hr hx hk g1 g2 nf 0 _ (Nat.zero_add _) rfl
/-- ONE CAUSE MORE of y in SECOND sec -/
def md_c (σ : jr_Sg) (y : Nat) (sec much : Int32) : jr_Sg := jr_up (jr_up σ 70 y much) 46 45 sec
theorem cplay_all {G : jr_G} {d : Nat} {σ : jr_Sg} {k : jr_Sg → Prop} {T : Nat → Nat → List Nat} {n nf nc lw tp len : Nat} {kd se : Nat → Nat} {σ0 σR : jr_Sg} (h : iv T n nf nc kd se lw tp σ0) (hlen : len ≤ 40) (hC : jr_eqx iv_CX σ0 σ) (hp : ∀ f, f < nf → sm_par 15 nf nc f (se f) σ σR) (hk : ∀ σ' : jr_Sg, jr_eqx iv_CX σ0 σ' → σ' 9 6 = nI nf → (∀ f, f < nf → pd σ' len f (pr_rf kd se σR f) (sm_R T lw nf nc kd se σR f)) → k σ') : jr_M G (d + 5) mi_X4_play [.ref 9, .ref 15, .int (nI len)] σ (jr_kv k) := by
  have h1 := iv_mov (iv_cx hC) h
  refine wp_play_15 (len := len) h1.2.2.1.1 hlen h1.1 h1.2.2.1.2.2.2.2.1 h1.2.2.1.2.2.1 (fun σ' g1 g2 g3 => hk σ' (jr_eqx_tr hC (jr_eqx_w g1 (by decide))) (by rw [g2]; exact pk_us) (fun f hf => ⟨?_, fun t ht => ?_⟩))
  · rw [(g3 f hf).1]
    show pu_redf (kd f) (σ (15 + 2) f) (σ (15 + 5) (se f)) = _
    exact rf_eq hf (hp f hf)
  · rw [← sm_eq hf (hp f hf) t (by omega)]
    exact (g3 f hf).2 t ht
theorem wp_playAllNow {G : jr_G} {d : Nat} {σ : jr_Sg} {k : jr_Sg → Prop} {T : Nat → Nat → List Nat} {n nf nc lw tp len : Nat} {kd se : Nat → Nat} {σ0 : jr_Sg} (h : iv T n nf nc kd se lw tp σ0) (hlen : len ≤ 40) (hC : jr_eqx iv_CX σ0 σ) (hk : ∀ σ' : jr_Sg, jr_eqx iv_CX σ0 σ' → σ' 9 6 = nI nf → (∀ f, f < nf → pd σ' len f (pr_rf kd se σ0 f) (sm_R T lw nf nc kd se σ0 f)) → k σ') : jr_M G (d + 6) mi_X9_playAllNow [.ref 0, .int (nI len)] σ (jr_kv k) := by
  have h5 : nf ≤ 5 := h.2.2.1.2.1.2.1
  obtain ⟨r39, r42, r45, -, r70⟩ := h.2.2.2.2.2.2.1
  refine jr_enter (L := [some (.ref 0), some (.int (nI len))]) (by decide) (Nat.le_of_ble_eq_true rfl) rfl ?_
  refine jr_aload_n 0 1 dX9_playAllNow_0 rfl rfl rfl ?_
  refine gf_X9_28 4 dX9_playAllNow_1 rfl rfl rfl rfl ?_
  refine cs_X9_249 7 dX9_playAllNow_4 rfl rfl rfl (Nat.le_of_ble_eq_true rfl) (wp_clear ?_)
  refine jr_aload_n 0 8 dX9_playAllNow_7 rfl rfl rfl ?_
  refine gf_X9_37 11 dX9_playAllNow_8 rfl rfl rfl rfl ?_
  refine jr_aload_n 0 12 dX9_playAllNow_11 rfl rfl rfl ?_
  refine gf_X9_44 15 dX9_playAllNow_12 rfl rfl rfl rfl ?_
  refine jr_iload_n 1 16 dX9_playAllNow_15 rfl rfl rfl ?_
  refine cs_X9_255 19 dX9_playAllNow_16 rfl rfl rfl (Nat.le_of_ble_eq_true rfl) (cplay_all (σR := σ0) h hlen (jr_eqx_tr hC (jr_eqx_tr (jr_eqx_tr (jr_eqx_tr (jr_eqx_up _ _ _ (by decide)) (jr_eqx_up _ _ _ (by decide))) (jr_eqx_up _ _ _ (by decide))) (jr_eqx_up _ _ _ (by decide)))) (fun f hf => par_now h hf (jr_eqx_tr hC (jr_eqx_tr (jr_eqx_tr (jr_eqx_tr (jr_eqx_up _ _ _ (by decide)) (jr_eqx_up _ _ _ (by decide))) (jr_eqx_up _ _ _ (by decide))) (jr_eqx_up _ _ _ (by decide)))) rfl rfl rfl rfl (fun x hx => ⟨fun e => (jr_m1 (by omega) (Eq.symm e.1)).elim, fun e => (jr_m1 (by omega) (Eq.symm (e.1.trans r42))).elim⟩) (fun w t n => ⟨fun e => (do_none (by omega) rfl e).elim, fun e => (do_none (by omega) r39 e).elim⟩) (fun t ht => (pu_if_f (fun e => jr_m1 (by omega) (Eq.symm e.1))).trans (Eq.symm (pu_z (r70 f (by omega)).1))) (fun t ht => Eq.trans (pu_z rfl) (Eq.symm (pu_if_f (fun e => jr_m1 (by omega) ((r70 f (by omega)).2.symm.trans e)))))) (fun σ' g1 g2 g3 => ?_))
  refine jr_return dX9_playAllNow_19 rfl ?_
  exact hk σ' g1 g2 g3

theorem jr_eqx_upb {X : List Nat} {σ σ' : jr_Sg} (h : jr_eqx X σ σ') {i k : Nat} {v : Int32} (hi : i ∉ X) : jr_eqx X (jr_up σ i k v) (jr_up σ' i k v) := fun a ha => by
  unfold jr_up
  by_cases e : a = i
  · rw [if_pos e, if_pos e, h i hi]
  · rw [if_neg e, if_neg e, h a ha]
/-- agreement on cells C and on the reference's fields F -/
def jr_ag (C F : List Nat) (σ σ' : jr_Sg) : Prop := (∀ a, a ∈ C → σ' a = σ a) ∧ ∀ k, k ∈ F → σ' 46 k = σ 46 k
theorem sm_R_ag {T : Nat → Nat → List Nat} {lw nf nc f : Nat} {kd se : Nat → Nat} {σ σ' : jr_Sg} (h : jr_ag [47, 49, 50, 52, 70, 71] [39, 40, 41, 42, 43, 45, 46] σ σ') : sm_R T lw nf nc kd se σ' f = sm_R T lw nf nc kd se σ f := by
  obtain ⟨hc, hf⟩ := h
  have hbl : pr_bl σ' f = pr_bl σ f := by funext q; unfold pr_bl; rw [hf 42 (by decide), hf 43 (by decide)]
  have hca : pr_ca σ' nc f = pr_ca σ nc f := by funext q; unfold pr_ca; rw [hf 39 (by decide), hf 40 (by decide), hf 41 (by decide), hf 45 (by decide), hc 52 (by decide), hc 70 (by decide)]
  have hdr : pr_dr σ' f = pr_dr σ f := by funext q; unfold pr_dr; rw [hf 46 (by decide), hc 71 (by decide)]
  unfold sm_R
  rw [hbl, hca, hdr, hf 39 (by decide), hf 40 (by decide), hf 41 (by decide), hc 47 (by decide), hc 49 (by decide), hc 50 (by decide)]
theorem rr_ag {T : Nat → Nat → List Nat} {n nf nc lw : Nat} {kd se : Nat → Nat} {σ σ' : jr_Sg} (h : rr_ok T n nf nc kd se lw σ) (g : jr_ag [48, 49, 51, 54, 55] [1, 6, 12, 13, 46] σ σ') : rr_ok T n nf nc kd se lw σ' := rr_mod h (g.2 1 (by decide)) (g.2 6 (by decide)) (g.2 12 (by decide)) (g.2 13 (by decide)) (g.2 46 (by decide)) (g.1 48 (by decide)) (g.1 49 (by decide)) (g.1 51 (by decide)) (g.1 54 (by decide)) (g.1 55 (by decide))
/-- the reference's state but for its rows and its fields FX -/
def jr_eqs (FX : List Nat) (σ σ' : jr_Sg) : Prop := (∀ a, a ∉ iv_RX → a ≠ 46 → σ' a = σ a) ∧ ∀ k, k ∉ FX → σ' 46 k = σ 46 k
theorem eqs_rf (FX : List Nat) (σ : jr_Sg) : jr_eqs FX σ σ := ⟨fun _ _ _ => rfl, fun _ _ => rfl⟩
theorem eqs_tr {FX : List Nat} {a b c : jr_Sg} (h : jr_eqs FX a b) (h2 : jr_eqs FX b c) : jr_eqs FX a c := ⟨fun i hi h3 => (h2.1 i hi h3).trans (h.1 i hi h3), fun k hk => (h2.2 k hk).trans (h.2 k hk)⟩
theorem eqs_rx {FX : List Nat} {σ σ' : jr_Sg} (g : jr_eqx iv_RX σ σ') : jr_eqs FX σ σ' := ⟨fun a ha _ => g a ha, fun k _ => by rw [g 46 (by decide)]⟩
theorem eqs_up {FX : List Nat} (σ : jr_Sg) {k : Nat} (v : Int32) (hk : k ∈ FX) : jr_eqs FX σ (jr_up σ 46 k v) := ⟨fun a _ h => by unfold jr_up; rw [if_neg h], fun j hj => by show upd (σ 46) k v j = _; exact pk_un (fun e => hj (e ▸ hk))⟩
/-- TO STOP, by the reference -/
def md_s (σ : jr_Sg) (f a b : Int32) : jr_Sg := jr_up (jr_up (jr_up σ 46 39 f) 46 40 a) 46 41 b
theorem md_s_eqs (σ : jr_Sg) (f a b : Int32) : jr_eqs [39, 40, 41] σ (md_s σ f a b) := eqs_tr (eqs_tr (eqs_up _ _ (by decide)) (eqs_up _ _ (by decide))) (eqs_up _ _ (by decide))
theorem md_s_ag {σ σ' : jr_Sg} (h : jr_eqs [39, 40, 41] σ σ') (f a b : Int32) : jr_ag [47, 49, 50, 52, 70, 71] [39, 40, 41, 42, 43, 45, 46] (md_s σ f a b) (md_s σ' f a b) := by
  refine ⟨fun c hc => ?_, fun k hk => ?_⟩
  · have hc2 : c ∉ iv_RX ∧ c ≠ 46 := by revert c; decide
    have e : ∀ τ : jr_Sg, md_s τ f a b c = τ c := fun τ => by unfold md_s jr_up; rw [if_neg hc2.2, if_neg hc2.2, if_neg hc2.2]
    rw [e, e]
    exact h.1 c hc2.1 hc2.2
  · have e : ∀ τ : jr_Sg, md_s τ f a b 46 k = upd (upd (upd (τ 46) 39 f) 40 a) 41 b k := fun τ => rfl
    rw [e, e]
    unfold upd
    have h2 := h.2 k
    by_cases e1 : k = 41
    · rw [if_pos e1, if_pos e1]
    · rw [if_neg e1, if_neg e1]
      by_cases e2 : k = 40
      · rw [if_pos e2, if_pos e2]
      · rw [if_neg e2, if_neg e2]
        by_cases e3 : k = 39
        · rw [if_pos e3, if_pos e3]
        · rw [if_neg e3, if_neg e3]
          exact h2 (by simp; omega)
theorem rr_eqs {FX : List Nat} {T : Nat → Nat → List Nat} {n nf nc lw : Nat} {kd se : Nat → Nat} {σ σ' : jr_Sg} (h : rr_ok T n nf nc kd se lw σ) (g : jr_eqs FX σ σ') (hF : ∀ k, k ∈ [1, 6, 12, 13, 46] → k ∉ FX) : rr_ok T n nf nc kd se lw σ' := rr_ag h ⟨fun a ha => g.1 a (by revert a; decide) (by revert a; decide), fun k hk => g.2 k (hF k hk)⟩
/-- behind it all: the fields FX are as they were -/
theorem iv_eqs {FX : List Nat} {σ σ' : jr_Sg} (g : jr_eqs FX σ σ') (hF : ∀ k, k ∈ FX → k ∈ iv_flds → σ' 46 k = σ 46 k) : iv_same σ σ' := ⟨fun a ha => g.1 a (by revert a; decide) (by revert a; decide), fun k hk => by
  by_cases e : k ∈ FX
  · exact hF k e hk
  · exact g.2 k e⟩
theorem cx_eqs {σ σ' : jr_Sg} (g : jr_eqx iv_CX σ σ') (f a b : Int32) : jr_eqx iv_CX (md_s σ f a b) (md_s σ' f a b) := jr_eqx_upb (jr_eqx_upb (jr_eqx_upb g (by decide)) (by decide)) (by decide)
theorem wp_stopsBy {G : jr_G} {d : Nat} {σ : jr_Sg} {k : jr_Sg → Prop} {f a b : Int32} (h : k (md_s σ f a b)) : jr_M G d mi_X10_stopsBy [.ref 46, .int f, .int a, .int b] σ (jr_kv k) := by
  refine jr_enter (L := [some (.ref 46), some (.int f), some (.int a), some (.int b)]) (by decide) (Nat.le_of_ble_eq_true rfl) rfl ?_
  refine jr_aload_n 0 1 dX10_stopsBy_0 rfl rfl rfl ?_
  refine jr_iload_n 1 2 dX10_stopsBy_1 rfl rfl rfl ?_
  refine pf_X10_79 5 dX10_stopsBy_2 rfl rfl rfl rfl ?_
  refine jr_aload_n 0 6 dX10_stopsBy_5 rfl rfl rfl ?_
  refine jr_iload_n 2 7 dX10_stopsBy_6 rfl rfl rfl ?_
  refine pf_X10_213 10 dX10_stopsBy_7 rfl rfl rfl rfl ?_
  refine jr_aload_n 0 11 dX10_stopsBy_10 rfl rfl rfl ?_
  refine jr_iload_n 3 12 dX10_stopsBy_11 rfl rfl rfl ?_
  refine pf_X10_216 15 dX10_stopsBy_12 rfl rfl rfl rfl ?_
  refine jr_return dX10_stopsBy_15 rfl ?_
  exact h
theorem pu_min_le4 (x : Int32) : pu_min 400 x ≤ 400 := by
  unfold pu_min
  by_cases h : x < 400
  · rw [if_pos h]; exact Int32.le_of_lt h
  · rw [if_neg h]; exact Int32.le_refl _
theorem iv_50 {T : Nat → Nat → List Nat} {n nf nc lw tp f : Nat} {kd se : Nat → Nat} {σ : jr_Sg} (h : iv T n nf nc kd se lw tp σ) (hf : f < nf) : 0 ≤ σ 50 f := iv_w0 h hf
theorem lp_max_le {g : Nat → Int32} : ∀ (n : Nat) (a : Int32), a ≤ 400 → (∀ i, i < n → g i ≤ 400) → lp (fun i x => pu_max x (g i)) a n ≤ 400
  | 0, a, h, _ => h
  | n + 1, a, h, h2 => by
    have ih := lp_max_le n a h (fun i hi => h2 i (by omega))
    rw [lp]
    unfold pu_max
    split
    · exact h2 n (by omega)
    · exact ih
theorem sm_le {T : Nat → Nat → List Nat} {lw nf nc f : Nat} {kd se : Nat → Nat} {σ : jr_Sg} (h0 : σ 50 f ≤ 400) : ∀ t, (sm_R T lw nf nc kd se σ f t).1 ≤ 400
  | 0 => h0
  | t + 1 => by
    exact pu_min_le4 _
theorem tr_mo_le {T : Nat → Nat → List Nat} {lw nf nc f : Nat} {kd se : Nat → Nat} {σ : jr_Sg} (h0 : σ 50 f ≤ 400) : tr_mo (sm_R T lw nf nc kd se σ f) ≤ 400 := lp_max_le 40 _ (sm_le h0 0) (fun i _ => sm_le h0 (i + 1))
theorem iv_w4 {T : Nat → Nat → List Nat} {n nf nc lw tp f : Nat} {kd se : Nat → Nat} {σ : jr_Sg} (h : iv T n nf nc kd se lw tp σ) (hf : f < nf) : σ 50 f ≤ 400 := by
  obtain ⟨v, hv, e⟩ := (h.2.2.1.2.2.2.2.2.1 f hf).2.2
  rw [e]
  exact nI_le (b := 400) hv (by omega)
theorem pp_at {G : jr_G} {d : Nat} {σ : jr_Sg} {a f c : Int32} (h : IV σ) : jr_pair G (d + 20) mi_X9_at mi_X10_at [.int a, .int f, .int c] σ := by
  obtain ⟨T, n, nf, nc, kd, se, lw, tp, h⟩ := h
  have hh := h
  obtain ⟨hTC, hTR, ⟨hsc, hsr, hl1, hl2, hlw, hfc, hli, hca⟩, htp, himg, hsh, hrest, hwd⟩ := hh
  have hnf := hsc.1
  have h5 := hsc.2.1
  have hnc := hsc.2.2.1
  have h8 := hsc.2.2.2.1
  have rnf := hsr.1
  have rnc := hsr.2.2.1
  have hlm := hrest.2.2.2.1
  unfold jr_pair
  rcases jr_rg a (m := 40) (by decide) with qa | ⟨i, hi, rfl⟩
  · refine jr_enter (L := [some (.ref 0), some (.int a), some (.int f), some (.int c)]) (by decide) (Nat.le_of_ble_eq_true rfl) rfl ?_
    refine jr_iload_n 1 1 dX9_at_0 rfl rfl rfl ?_
    refine jr_bipush (40) 3 dX9_at_1 rfl rfl ?_
    refine cs_X9_104 6 dX9_at_3 rfl rfl (Nat.le_of_ble_eq_true rfl) (wp_wiF qa ?_)
    refine jr_if_eq 20 9 dX9_at_6 rfl rfl (fun q6 => ?_) (fun q => absurd (by decide) q)
    refine jr_bipush ((-5)) 22 dX9_at_20 rfl rfl ?_
    refine jr_ireturn dX9_at_22 rfl rfl ?_
    refine jr_enter (L := [some (.ref 46), some (.int a), some (.int f), some (.int c)]) (by decide) (Nat.le_of_ble_eq_true rfl) rfl ?_
    refine jr_iload_n 1 1 dX10_at_0 rfl rfl rfl ?_
    refine jr_iconst (0) 2 dX10_at_1 rfl rfl ?_
    refine jr_bipush (40) 4 dX10_at_2 rfl rfl ?_
    refine cs_X10_108 7 dX10_at_4 rfl rfl (Nat.le_of_ble_eq_true rfl) (wp_inF qa ?_)
    refine jr_if_eq 18 10 dX10_at_7 rfl rfl (fun q7 => ?_) (fun q => absurd (by decide) q)
    refine jr_bipush ((-5)) 20 dX10_at_18 rfl rfl ?_
    refine jr_ireturn dX10_at_20 rfl rfl ?_
    exact ⟨rfl, IV_mov (iv_same_x (jr_eqx_rf [] _) (by decide)) h⟩
  · rcases jr_fc f h5 with hf | ⟨j, hj, rfl⟩
    · refine jr_enter (L := [some (.ref 0), some (.int (nI i)), some (.int f), some (.int c)]) (by decide) (Nat.le_of_ble_eq_true rfl) rfl ?_
      refine jr_iload_n 1 1 dX9_at_0 rfl rfl rfl ?_
      refine jr_bipush (40) 3 dX9_at_1 rfl rfl ?_
      refine cs_X9_104 6 dX9_at_3 rfl rfl (Nat.le_of_ble_eq_true rfl) (wp_wiT hi (by decide) rfl ?_)
      refine jr_if_eq 20 9 dX9_at_6 rfl rfl (fun q => absurd q (by decide)) (fun q6 => ?_)
      refine jr_aload_n 0 10 dX9_at_9 rfl rfl rfl ?_
      refine gf_X9_44 13 dX9_at_10 rfl rfl rfl rfl ?_
      refine jr_iload_n 2 14 dX9_at_13 rfl rfl rfl ?_
      refine cs_X9_146 17 dX9_at_14 rfl rfl rfl (Nat.le_of_ble_eq_true rfl) (wp_has_15 hnf h5 (fun j hj e => absurd hf (by rw [e]; exact jr_fcn hj (by omega))) (fun _ => ?_))
      refine jr_if_ne 23 20 dX9_at_17 rfl rfl (fun q => absurd (by decide) q) (fun q17 => ?_)
      refine jr_bipush ((-5)) 22 dX9_at_20 rfl rfl ?_
      refine jr_ireturn dX9_at_22 rfl rfl ?_
      refine jr_enter (L := [some (.ref 46), some (.int (nI i)), some (.int f), some (.int c)]) (by decide) (Nat.le_of_ble_eq_true rfl) rfl ?_
      refine jr_iload_n 1 1 dX10_at_0 rfl rfl rfl ?_
      refine jr_iconst (0) 2 dX10_at_1 rfl rfl ?_
      refine jr_bipush (40) 4 dX10_at_2 rfl rfl ?_
      refine cs_X10_108 7 dX10_at_4 rfl rfl (Nat.le_of_ble_eq_true rfl) (wp_inT hi (by decide) rfl ?_)
      refine jr_if_eq 18 10 dX10_at_7 rfl rfl (fun q => absurd q (by decide)) (fun q7 => ?_)
      refine jr_aload_n 0 11 dX10_at_10 rfl rfl rfl ?_
      refine jr_iload_n 2 12 dX10_at_11 rfl rfl rfl ?_
      refine cs_X10_204 15 dX10_at_12 rfl rfl rfl (Nat.le_of_ble_eq_true rfl) (wp_isFace rnf h5 (fun j hj e => absurd hf (by rw [e]; exact jr_fcn hj (by omega))) (fun _ => ?_))
      refine jr_if_ne 21 18 dX10_at_15 rfl rfl (fun q => absurd (by decide) q) (fun q15 => ?_)
      refine jr_bipush ((-5)) 20 dX10_at_18 rfl rfl ?_
      refine jr_ireturn dX10_at_20 rfl rfl ?_
      exact ⟨rfl, IV_mov (iv_same_x (jr_eqx_rf [] _) (by decide)) h⟩
    · rcases jr_rg c (m := 2) (by decide) with qc2 | ⟨c2, hc2, rfl⟩
      · refine jr_enter (L := [some (.ref 0), some (.int (nI i)), some (.int (nI j)), some (.int c)]) (by decide) (Nat.le_of_ble_eq_true rfl) rfl ?_
        refine jr_iload_n 1 1 dX9_at_0 rfl rfl rfl ?_
        refine jr_bipush (40) 3 dX9_at_1 rfl rfl ?_
        refine cs_X9_104 6 dX9_at_3 rfl rfl (Nat.le_of_ble_eq_true rfl) (wp_wiT hi (by decide) rfl ?_)
        refine jr_if_eq 20 9 dX9_at_6 rfl rfl (fun q => absurd q (by decide)) (fun q6 => ?_)
        refine jr_aload_n 0 10 dX9_at_9 rfl rfl rfl ?_
        refine gf_X9_44 13 dX9_at_10 rfl rfl rfl rfl ?_
        refine jr_iload_n 2 14 dX9_at_13 rfl rfl rfl ?_
        refine cs_X9_146 17 dX9_at_14 rfl rfl rfl (Nat.le_of_ble_eq_true rfl) (wp_hasT_15 hnf h5 hj ?_)
        refine jr_if_ne 23 20 dX9_at_17 rfl rfl (fun q17 => ?_) (fun q => absurd q (by decide))
        refine jr_iload_n 3 24 dX9_at_23 rfl rfl rfl ?_
        refine jr_iconst (2) 25 dX9_at_24 rfl rfl ?_
        refine cs_X9_104 28 dX9_at_25 rfl rfl (Nat.le_of_ble_eq_true rfl) (wp_wiF qc2 ?_)
        refine jr_if_ne 34 31 dX9_at_28 rfl rfl (fun q => absurd (by decide) q) (fun q28 => ?_)
        refine jr_bipush ((-7)) 33 dX9_at_31 rfl rfl ?_
        refine jr_ireturn dX9_at_33 rfl rfl ?_
        refine jr_enter (L := [some (.ref 46), some (.int (nI i)), some (.int (nI j)), some (.int c)]) (by decide) (Nat.le_of_ble_eq_true rfl) rfl ?_
        refine jr_iload_n 1 1 dX10_at_0 rfl rfl rfl ?_
        refine jr_iconst (0) 2 dX10_at_1 rfl rfl ?_
        refine jr_bipush (40) 4 dX10_at_2 rfl rfl ?_
        refine cs_X10_108 7 dX10_at_4 rfl rfl (Nat.le_of_ble_eq_true rfl) (wp_inT hi (by decide) rfl ?_)
        refine jr_if_eq 18 10 dX10_at_7 rfl rfl (fun q => absurd q (by decide)) (fun q7 => ?_)
        refine jr_aload_n 0 11 dX10_at_10 rfl rfl rfl ?_
        refine jr_iload_n 2 12 dX10_at_11 rfl rfl rfl ?_
        refine cs_X10_204 15 dX10_at_12 rfl rfl rfl (Nat.le_of_ble_eq_true rfl) (wp_isFace rnf h5 (fun _ _ _ => ?_) (fun q => absurd q (jr_fcn hj (by omega))))
        refine jr_if_ne 21 18 dX10_at_15 rfl rfl (fun q15 => ?_) (fun q => absurd q (by decide))
        refine jr_iload_n 3 22 dX10_at_21 rfl rfl rfl ?_
        refine jr_iconst (0) 23 dX10_at_22 rfl rfl ?_
        refine jr_iconst (2) 24 dX10_at_23 rfl rfl ?_
        refine cs_X10_108 27 dX10_at_24 rfl rfl (Nat.le_of_ble_eq_true rfl) (wp_inF qc2 ?_)
        refine jr_if_ne 33 30 dX10_at_27 rfl rfl (fun q => absurd (by decide) q) (fun q27 => ?_)
        refine jr_bipush ((-7)) 32 dX10_at_30 rfl rfl ?_
        refine jr_ireturn dX10_at_32 rfl rfl ?_
        exact ⟨rfl, IV_mov (iv_same_x (jr_eqx_rf [] _) (by decide)) h⟩
      · rcases (by omega : c2 = 0 ∨ c2 = 1 ∨ c2 = 2) with rfl | rfl | rfl
        · refine jr_enter (L := [some (.ref 0), some (.int (nI i)), some (.int (nI j)), some (.int (nI 0))]) (by decide) (Nat.le_of_ble_eq_true rfl) rfl ?_
          refine jr_iload_n 1 1 dX9_at_0 rfl rfl rfl ?_
          refine jr_bipush (40) 3 dX9_at_1 rfl rfl ?_
          refine cs_X9_104 6 dX9_at_3 rfl rfl (Nat.le_of_ble_eq_true rfl) (wp_wiT hi (by decide) rfl ?_)
          refine jr_if_eq 20 9 dX9_at_6 rfl rfl (fun q => absurd q (by decide)) (fun q6 => ?_)
          refine jr_aload_n 0 10 dX9_at_9 rfl rfl rfl ?_
          refine gf_X9_44 13 dX9_at_10 rfl rfl rfl rfl ?_
          refine jr_iload_n 2 14 dX9_at_13 rfl rfl rfl ?_
          refine cs_X9_146 17 dX9_at_14 rfl rfl rfl (Nat.le_of_ble_eq_true rfl) (wp_hasT_15 hnf h5 hj ?_)
          refine jr_if_ne 23 20 dX9_at_17 rfl rfl (fun q17 => ?_) (fun q => absurd q (by decide))
          refine jr_iload_n 3 24 dX9_at_23 rfl rfl rfl ?_
          refine jr_iconst (2) 25 dX9_at_24 rfl rfl ?_
          refine cs_X9_104 28 dX9_at_25 rfl rfl (Nat.le_of_ble_eq_true rfl) (wp_wiT hc2 (by decide) rfl ?_)
          refine jr_if_ne 34 31 dX9_at_28 rfl rfl (fun q28 => ?_) (fun q => absurd q (by decide))
          refine jr_aload_n 0 35 dX9_at_34 rfl rfl rfl ?_
          refine jr_iload_n 2 36 dX9_at_35 rfl rfl rfl ?_
          refine jr_iload_n 1 37 dX9_at_36 rfl rfl rfl ?_
          refine cs_X9_189 40 dX9_at_37 rfl rfl rfl (Nat.le_of_ble_eq_true rfl) (wp_playNow (len := i) hi h hj (jr_eqx_rf _ _) (fun σ1 g1 g2 => ?_))
          refine jr_iload_n 3 41 dX9_at_40 rfl rfl rfl ?_
          refine jr_lookup (off := 27) 68 dX9_at_41 (by decide) (by decide) rfl ?_
          refine jr_aload_n 0 69 dX9_at_68 rfl rfl rfl ?_
          refine gf_X9_37 72 dX9_at_69 rfl rfl rfl rfl ?_
          refine jr_iload_n 1 73 dX9_at_72 rfl rfl rfl ?_
          refine jr_iload_n 2 74 dX9_at_73 rfl rfl rfl ?_
          refine cs_X9_192 77 dX9_at_74 rfl rfl rfl (Nat.le_of_ble_eq_true rfl) (wp_warmthBehind (t := i) (f := j) hi (by omega) ?_)
          refine jr_topi (y := (sm_R T lw nf nc kd se σ j i).1) (g2.2 i (Nat.le_refl _)).1 ?_
          refine jr_ireturn dX9_at_77 rfl rfl ?_
          refine jr_enter (L := [some (.ref 46), some (.int (nI i)), some (.int (nI j)), some (.int (nI 0))]) (by decide) (Nat.le_of_ble_eq_true rfl) rfl ?_
          have h1 := iv_mov (iv_cx g1) h
          have r1 := rr_of h1
          refine jr_iload_n 1 1 dX10_at_0 rfl rfl rfl ?_
          refine jr_iconst (0) 2 dX10_at_1 rfl rfl ?_
          refine jr_bipush (40) 4 dX10_at_2 rfl rfl ?_
          refine cs_X10_108 7 dX10_at_4 rfl rfl (Nat.le_of_ble_eq_true rfl) (wp_inT hi (by decide) rfl ?_)
          refine jr_if_eq 18 10 dX10_at_7 rfl rfl (fun q => absurd q (by decide)) (fun q7 => ?_)
          refine jr_aload_n 0 11 dX10_at_10 rfl rfl rfl ?_
          refine jr_iload_n 2 12 dX10_at_11 rfl rfl rfl ?_
          refine cs_X10_204 15 dX10_at_12 rfl rfl rfl (Nat.le_of_ble_eq_true rfl) (wp_isFace r1.1.1 h5 (fun _ _ _ => ?_) (fun q => absurd q (jr_fcn hj (by omega))))
          refine jr_if_ne 21 18 dX10_at_15 rfl rfl (fun q15 => ?_) (fun q => absurd q (by decide))
          refine jr_iload_n 3 22 dX10_at_21 rfl rfl rfl ?_
          refine jr_iconst (0) 23 dX10_at_22 rfl rfl ?_
          refine jr_iconst (2) 24 dX10_at_23 rfl rfl ?_
          refine cs_X10_108 27 dX10_at_24 rfl rfl (Nat.le_of_ble_eq_true rfl) (wp_inT hc2 (by decide) rfl ?_)
          refine jr_if_ne 33 30 dX10_at_27 rfl rfl (fun q27 => ?_) (fun q => absurd q (by decide))
          refine jr_aload_n 0 34 dX10_at_33 rfl rfl rfl ?_
          refine jr_iload_n 1 35 dX10_at_34 rfl rfl rfl ?_
          refine cs_X10_253 38 dX10_at_35 rfl rfl rfl (Nat.le_of_ble_eq_true rfl) (wp_rruns (len := i) r1 hi (fun σ2 g3 g4 => ?_))
          have e1 : pr_rf kd se σ1 j = pr_rf kd se σ j := pr_rf_of g1
          have e2 : pu_redf (kd j) (σ2 49 j) (σ2 47 (se j)) = pr_rf kd se σ j := (pr_rf_rx g3).trans e1
          have e3 : σ2 65 j = σ1 12 (5 * i + j) := by rw [(g4 j hj).1, sm_R_of g1, (g2.2 i (Nat.le_refl _)).1]
          have e4 : σ1 14 j = pr_rf kd se σ j := g2.1
          refine jr_iload_n 3 39 dX10_at_38 rfl rfl rfl ?_
          refine jr_if_ne 51 42 dX10_at_39 rfl rfl (fun q => absurd (by decide) q) (fun q39 => ?_)
          refine jr_aload_n 0 43 dX10_at_42 rfl rfl rfl ?_
          refine gf_X10_64 46 dX10_at_43 rfl rfl rfl rfl ?_
          refine jr_iload_n 2 47 dX10_at_46 rfl rfl rfl ?_
          refine jr_iald rfl rfl (by omega) 48 dX10_at_47 rfl ?_
          refine jr_goto 78 dX10_at_48 rfl ?_
          refine jr_ireturn dX10_at_78 rfl rfl ?_
          exact ⟨congrArg Value.int (by rw [(g4 j hj).1, sm_R_of g1]), IV_mov (iv_same_tr (iv_cx g1) (iv_rx g3)) h⟩
        · refine jr_enter (L := [some (.ref 0), some (.int (nI i)), some (.int (nI j)), some (.int (nI 1))]) (by decide) (Nat.le_of_ble_eq_true rfl) rfl ?_
          refine jr_iload_n 1 1 dX9_at_0 rfl rfl rfl ?_
          refine jr_bipush (40) 3 dX9_at_1 rfl rfl ?_
          refine cs_X9_104 6 dX9_at_3 rfl rfl (Nat.le_of_ble_eq_true rfl) (wp_wiT hi (by decide) rfl ?_)
          refine jr_if_eq 20 9 dX9_at_6 rfl rfl (fun q => absurd q (by decide)) (fun q6 => ?_)
          refine jr_aload_n 0 10 dX9_at_9 rfl rfl rfl ?_
          refine gf_X9_44 13 dX9_at_10 rfl rfl rfl rfl ?_
          refine jr_iload_n 2 14 dX9_at_13 rfl rfl rfl ?_
          refine cs_X9_146 17 dX9_at_14 rfl rfl rfl (Nat.le_of_ble_eq_true rfl) (wp_hasT_15 hnf h5 hj ?_)
          refine jr_if_ne 23 20 dX9_at_17 rfl rfl (fun q17 => ?_) (fun q => absurd q (by decide))
          refine jr_iload_n 3 24 dX9_at_23 rfl rfl rfl ?_
          refine jr_iconst (2) 25 dX9_at_24 rfl rfl ?_
          refine cs_X9_104 28 dX9_at_25 rfl rfl (Nat.le_of_ble_eq_true rfl) (wp_wiT hc2 (by decide) rfl ?_)
          refine jr_if_ne 34 31 dX9_at_28 rfl rfl (fun q28 => ?_) (fun q => absurd q (by decide))
          refine jr_aload_n 0 35 dX9_at_34 rfl rfl rfl ?_
          refine jr_iload_n 2 36 dX9_at_35 rfl rfl rfl ?_
          refine jr_iload_n 1 37 dX9_at_36 rfl rfl rfl ?_
          refine cs_X9_189 40 dX9_at_37 rfl rfl rfl (Nat.le_of_ble_eq_true rfl) (wp_playNow (len := i) hi h hj (jr_eqx_rf _ _) (fun σ1 g1 g2 => ?_))
          refine jr_iload_n 3 41 dX9_at_40 rfl rfl rfl ?_
          refine jr_lookup (off := 37) 78 dX9_at_41 (by decide) (by decide) rfl ?_
          refine jr_aload_n 0 79 dX9_at_78 rfl rfl rfl ?_
          refine gf_X9_37 82 dX9_at_79 rfl rfl rfl rfl ?_
          refine jr_iload_n 1 83 dX9_at_82 rfl rfl rfl ?_
          refine jr_iload_n 2 84 dX9_at_83 rfl rfl rfl ?_
          refine cs_X9_196 87 dX9_at_84 rfl rfl rfl (Nat.le_of_ble_eq_true rfl) (wp_isRedBehind (t := i) (f := j) hi (by omega) (fun qr => ?_) (fun qr => ?_))
          · refine jr_if_eq 94 90 dX9_at_87 rfl rfl (fun q => absurd q (by decide)) (fun q87 => ?_)
            refine jr_iconst (1) 91 dX9_at_90 rfl rfl ?_
            refine jr_goto 95 dX9_at_91 rfl ?_
            refine jr_ireturn dX9_at_95 rfl rfl ?_
            refine jr_enter (L := [some (.ref 46), some (.int (nI i)), some (.int (nI j)), some (.int (nI 1))]) (by decide) (Nat.le_of_ble_eq_true rfl) rfl ?_
            have h1 := iv_mov (iv_cx g1) h
            have r1 := rr_of h1
            refine jr_iload_n 1 1 dX10_at_0 rfl rfl rfl ?_
            refine jr_iconst (0) 2 dX10_at_1 rfl rfl ?_
            refine jr_bipush (40) 4 dX10_at_2 rfl rfl ?_
            refine cs_X10_108 7 dX10_at_4 rfl rfl (Nat.le_of_ble_eq_true rfl) (wp_inT hi (by decide) rfl ?_)
            refine jr_if_eq 18 10 dX10_at_7 rfl rfl (fun q => absurd q (by decide)) (fun q7 => ?_)
            refine jr_aload_n 0 11 dX10_at_10 rfl rfl rfl ?_
            refine jr_iload_n 2 12 dX10_at_11 rfl rfl rfl ?_
            refine cs_X10_204 15 dX10_at_12 rfl rfl rfl (Nat.le_of_ble_eq_true rfl) (wp_isFace r1.1.1 h5 (fun _ _ _ => ?_) (fun q => absurd q (jr_fcn hj (by omega))))
            refine jr_if_ne 21 18 dX10_at_15 rfl rfl (fun q15 => ?_) (fun q => absurd q (by decide))
            refine jr_iload_n 3 22 dX10_at_21 rfl rfl rfl ?_
            refine jr_iconst (0) 23 dX10_at_22 rfl rfl ?_
            refine jr_iconst (2) 24 dX10_at_23 rfl rfl ?_
            refine cs_X10_108 27 dX10_at_24 rfl rfl (Nat.le_of_ble_eq_true rfl) (wp_inT hc2 (by decide) rfl ?_)
            refine jr_if_ne 33 30 dX10_at_27 rfl rfl (fun q27 => ?_) (fun q => absurd q (by decide))
            refine jr_aload_n 0 34 dX10_at_33 rfl rfl rfl ?_
            refine jr_iload_n 1 35 dX10_at_34 rfl rfl rfl ?_
            refine cs_X10_253 38 dX10_at_35 rfl rfl rfl (Nat.le_of_ble_eq_true rfl) (wp_rruns (len := i) r1 hi (fun σ2 g3 g4 => ?_))
            have e1 : pr_rf kd se σ1 j = pr_rf kd se σ j := pr_rf_of g1
            have e2 : pu_redf (kd j) (σ2 49 j) (σ2 47 (se j)) = pr_rf kd se σ j := (pr_rf_rx g3).trans e1
            have e3 : σ2 65 j = σ1 12 (5 * i + j) := by rw [(g4 j hj).1, sm_R_of g1, (g2.2 i (Nat.le_refl _)).1]
            have e4 : σ1 14 j = pr_rf kd se σ j := g2.1
            refine jr_iload_n 3 39 dX10_at_38 rfl rfl rfl ?_
            refine jr_if_ne 51 42 dX10_at_39 rfl rfl (fun q39 => ?_) (fun q => absurd q (by decide))
            refine jr_iload_n 3 52 dX10_at_51 rfl rfl rfl ?_
            refine jr_iconst (1) 53 dX10_at_52 rfl rfl ?_
            refine jr_icmp_ne 72 56 dX10_at_53 rfl rfl (fun q => absurd (by decide) q) (fun q53 => ?_)
            refine jr_aload_n 0 57 dX10_at_56 rfl rfl rfl ?_
            refine jr_iload_n 2 58 dX10_at_57 rfl rfl rfl ?_
            refine cs_X10_250 61 dX10_at_58 rfl rfl rfl (Nat.le_of_ble_eq_true rfl) (wp_isRedNow (f := j) (rr_rx r1 g3).1 hj (fun _ => ?_) (fun q => absurd (by rw [e2, e3, ← e4]; exact qr) q))
            refine jr_if_eq 68 64 dX10_at_61 rfl rfl (fun q => absurd q (by decide)) (fun q61 => ?_)
            refine jr_iconst (1) 65 dX10_at_64 rfl rfl ?_
            refine jr_goto 78 dX10_at_65 rfl ?_
            refine jr_ireturn dX10_at_78 rfl rfl ?_
            exact ⟨rfl, IV_mov (iv_same_tr (iv_cx g1) (iv_rx g3)) h⟩
          · refine jr_if_eq 94 90 dX9_at_87 rfl rfl (fun q87 => ?_) (fun q => absurd (by decide) q)
            refine jr_iconst (0) 95 dX9_at_94 rfl rfl ?_
            refine jr_ireturn dX9_at_95 rfl rfl ?_
            refine jr_enter (L := [some (.ref 46), some (.int (nI i)), some (.int (nI j)), some (.int (nI 1))]) (by decide) (Nat.le_of_ble_eq_true rfl) rfl ?_
            have h1 := iv_mov (iv_cx g1) h
            have r1 := rr_of h1
            refine jr_iload_n 1 1 dX10_at_0 rfl rfl rfl ?_
            refine jr_iconst (0) 2 dX10_at_1 rfl rfl ?_
            refine jr_bipush (40) 4 dX10_at_2 rfl rfl ?_
            refine cs_X10_108 7 dX10_at_4 rfl rfl (Nat.le_of_ble_eq_true rfl) (wp_inT hi (by decide) rfl ?_)
            refine jr_if_eq 18 10 dX10_at_7 rfl rfl (fun q => absurd q (by decide)) (fun q7 => ?_)
            refine jr_aload_n 0 11 dX10_at_10 rfl rfl rfl ?_
            refine jr_iload_n 2 12 dX10_at_11 rfl rfl rfl ?_
            refine cs_X10_204 15 dX10_at_12 rfl rfl rfl (Nat.le_of_ble_eq_true rfl) (wp_isFace r1.1.1 h5 (fun _ _ _ => ?_) (fun q => absurd q (jr_fcn hj (by omega))))
            refine jr_if_ne 21 18 dX10_at_15 rfl rfl (fun q15 => ?_) (fun q => absurd q (by decide))
            refine jr_iload_n 3 22 dX10_at_21 rfl rfl rfl ?_
            refine jr_iconst (0) 23 dX10_at_22 rfl rfl ?_
            refine jr_iconst (2) 24 dX10_at_23 rfl rfl ?_
            refine cs_X10_108 27 dX10_at_24 rfl rfl (Nat.le_of_ble_eq_true rfl) (wp_inT hc2 (by decide) rfl ?_)
            refine jr_if_ne 33 30 dX10_at_27 rfl rfl (fun q27 => ?_) (fun q => absurd q (by decide))
            refine jr_aload_n 0 34 dX10_at_33 rfl rfl rfl ?_
            refine jr_iload_n 1 35 dX10_at_34 rfl rfl rfl ?_
            refine cs_X10_253 38 dX10_at_35 rfl rfl rfl (Nat.le_of_ble_eq_true rfl) (wp_rruns (len := i) r1 hi (fun σ2 g3 g4 => ?_))
            have e1 : pr_rf kd se σ1 j = pr_rf kd se σ j := pr_rf_of g1
            have e2 : pu_redf (kd j) (σ2 49 j) (σ2 47 (se j)) = pr_rf kd se σ j := (pr_rf_rx g3).trans e1
            have e3 : σ2 65 j = σ1 12 (5 * i + j) := by rw [(g4 j hj).1, sm_R_of g1, (g2.2 i (Nat.le_refl _)).1]
            have e4 : σ1 14 j = pr_rf kd se σ j := g2.1
            refine jr_iload_n 3 39 dX10_at_38 rfl rfl rfl ?_
            refine jr_if_ne 51 42 dX10_at_39 rfl rfl (fun q39 => ?_) (fun q => absurd q (by decide))
            refine jr_iload_n 3 52 dX10_at_51 rfl rfl rfl ?_
            refine jr_iconst (1) 53 dX10_at_52 rfl rfl ?_
            refine jr_icmp_ne 72 56 dX10_at_53 rfl rfl (fun q => absurd (by decide) q) (fun q53 => ?_)
            refine jr_aload_n 0 57 dX10_at_56 rfl rfl rfl ?_
            refine jr_iload_n 2 58 dX10_at_57 rfl rfl rfl ?_
            refine cs_X10_250 61 dX10_at_58 rfl rfl rfl (Nat.le_of_ble_eq_true rfl) (wp_isRedNow (f := j) (rr_rx r1 g3).1 hj (fun q => absurd (by rw [e2, e3, ← e4] at q; exact q) qr) (fun _ => ?_))
            refine jr_if_eq 68 64 dX10_at_61 rfl rfl (fun q61 => ?_) (fun q => absurd (by decide) q)
            refine jr_iconst (0) 69 dX10_at_68 rfl rfl ?_
            refine jr_goto 78 dX10_at_69 rfl ?_
            refine jr_ireturn dX10_at_78 rfl rfl ?_
            exact ⟨rfl, IV_mov (iv_same_tr (iv_cx g1) (iv_rx g3)) h⟩
        · refine jr_enter (L := [some (.ref 0), some (.int (nI i)), some (.int (nI j)), some (.int (nI 2))]) (by decide) (Nat.le_of_ble_eq_true rfl) rfl ?_
          refine jr_iload_n 1 1 dX9_at_0 rfl rfl rfl ?_
          refine jr_bipush (40) 3 dX9_at_1 rfl rfl ?_
          refine cs_X9_104 6 dX9_at_3 rfl rfl (Nat.le_of_ble_eq_true rfl) (wp_wiT hi (by decide) rfl ?_)
          refine jr_if_eq 20 9 dX9_at_6 rfl rfl (fun q => absurd q (by decide)) (fun q6 => ?_)
          refine jr_aload_n 0 10 dX9_at_9 rfl rfl rfl ?_
          refine gf_X9_44 13 dX9_at_10 rfl rfl rfl rfl ?_
          refine jr_iload_n 2 14 dX9_at_13 rfl rfl rfl ?_
          refine cs_X9_146 17 dX9_at_14 rfl rfl rfl (Nat.le_of_ble_eq_true rfl) (wp_hasT_15 hnf h5 hj ?_)
          refine jr_if_ne 23 20 dX9_at_17 rfl rfl (fun q17 => ?_) (fun q => absurd q (by decide))
          refine jr_iload_n 3 24 dX9_at_23 rfl rfl rfl ?_
          refine jr_iconst (2) 25 dX9_at_24 rfl rfl ?_
          refine cs_X9_104 28 dX9_at_25 rfl rfl (Nat.le_of_ble_eq_true rfl) (wp_wiT hc2 (by decide) rfl ?_)
          refine jr_if_ne 34 31 dX9_at_28 rfl rfl (fun q28 => ?_) (fun q => absurd q (by decide))
          refine jr_aload_n 0 35 dX9_at_34 rfl rfl rfl ?_
          refine jr_iload_n 2 36 dX9_at_35 rfl rfl rfl ?_
          refine jr_iload_n 1 37 dX9_at_36 rfl rfl rfl ?_
          refine cs_X9_189 40 dX9_at_37 rfl rfl rfl (Nat.le_of_ble_eq_true rfl) (wp_playNow (len := i) hi h hj (jr_eqx_rf _ _) (fun σ1 g1 g2 => ?_))
          refine jr_iload_n 3 41 dX9_at_40 rfl rfl rfl ?_
          refine jr_lookup (off := 55) 96 dX9_at_41 (by decide) (by decide) rfl ?_
          refine jr_aload_n 0 97 dX9_at_96 rfl rfl rfl ?_
          refine gf_X9_37 100 dX9_at_97 rfl rfl rfl rfl ?_
          refine jr_iload_n 1 101 dX9_at_100 rfl rfl rfl ?_
          refine jr_iload_n 2 102 dX9_at_101 rfl rfl rfl ?_
          refine cs_X9_199 105 dX9_at_102 rfl rfl rfl (Nat.le_of_ble_eq_true rfl) (wp_lookedBehind (t := i) (f := j) hi (by omega) ?_)
          refine jr_topi (y := (sm_R T lw nf nc kd se σ j i).2) (g2.2 i (Nat.le_refl _)).2 ?_
          refine jr_ireturn dX9_at_105 rfl rfl ?_
          refine jr_enter (L := [some (.ref 46), some (.int (nI i)), some (.int (nI j)), some (.int (nI 2))]) (by decide) (Nat.le_of_ble_eq_true rfl) rfl ?_
          have h1 := iv_mov (iv_cx g1) h
          have r1 := rr_of h1
          refine jr_iload_n 1 1 dX10_at_0 rfl rfl rfl ?_
          refine jr_iconst (0) 2 dX10_at_1 rfl rfl ?_
          refine jr_bipush (40) 4 dX10_at_2 rfl rfl ?_
          refine cs_X10_108 7 dX10_at_4 rfl rfl (Nat.le_of_ble_eq_true rfl) (wp_inT hi (by decide) rfl ?_)
          refine jr_if_eq 18 10 dX10_at_7 rfl rfl (fun q => absurd q (by decide)) (fun q7 => ?_)
          refine jr_aload_n 0 11 dX10_at_10 rfl rfl rfl ?_
          refine jr_iload_n 2 12 dX10_at_11 rfl rfl rfl ?_
          refine cs_X10_204 15 dX10_at_12 rfl rfl rfl (Nat.le_of_ble_eq_true rfl) (wp_isFace r1.1.1 h5 (fun _ _ _ => ?_) (fun q => absurd q (jr_fcn hj (by omega))))
          refine jr_if_ne 21 18 dX10_at_15 rfl rfl (fun q15 => ?_) (fun q => absurd q (by decide))
          refine jr_iload_n 3 22 dX10_at_21 rfl rfl rfl ?_
          refine jr_iconst (0) 23 dX10_at_22 rfl rfl ?_
          refine jr_iconst (2) 24 dX10_at_23 rfl rfl ?_
          refine cs_X10_108 27 dX10_at_24 rfl rfl (Nat.le_of_ble_eq_true rfl) (wp_inT hc2 (by decide) rfl ?_)
          refine jr_if_ne 33 30 dX10_at_27 rfl rfl (fun q27 => ?_) (fun q => absurd q (by decide))
          refine jr_aload_n 0 34 dX10_at_33 rfl rfl rfl ?_
          refine jr_iload_n 1 35 dX10_at_34 rfl rfl rfl ?_
          refine cs_X10_253 38 dX10_at_35 rfl rfl rfl (Nat.le_of_ble_eq_true rfl) (wp_rruns (len := i) r1 hi (fun σ2 g3 g4 => ?_))
          have e1 : pr_rf kd se σ1 j = pr_rf kd se σ j := pr_rf_of g1
          have e2 : pu_redf (kd j) (σ2 49 j) (σ2 47 (se j)) = pr_rf kd se σ j := (pr_rf_rx g3).trans e1
          have e3 : σ2 65 j = σ1 12 (5 * i + j) := by rw [(g4 j hj).1, sm_R_of g1, (g2.2 i (Nat.le_refl _)).1]
          have e4 : σ1 14 j = pr_rf kd se σ j := g2.1
          refine jr_iload_n 3 39 dX10_at_38 rfl rfl rfl ?_
          refine jr_if_ne 51 42 dX10_at_39 rfl rfl (fun q39 => ?_) (fun q => absurd q (by decide))
          refine jr_iload_n 3 52 dX10_at_51 rfl rfl rfl ?_
          refine jr_iconst (1) 53 dX10_at_52 rfl rfl ?_
          refine jr_icmp_ne 72 56 dX10_at_53 rfl rfl (fun q53 => ?_) (fun q => absurd q (by decide))
          refine jr_aload_n 0 73 dX10_at_72 rfl rfl rfl ?_
          refine gf_X10_70 76 dX10_at_73 rfl rfl rfl rfl ?_
          refine jr_iload_n 2 77 dX10_at_76 rfl rfl rfl ?_
          refine jr_iald rfl rfl (by omega) 78 dX10_at_77 rfl ?_
          refine jr_ireturn dX10_at_78 rfl rfl ?_
          exact ⟨congrArg Value.int (by rw [(g4 j hj).2.1, sm_R_of g1]), IV_mov (iv_same_tr (iv_cx g1) (iv_rx g3)) h⟩
theorem pp_dies {G : jr_G} {d : Nat} {σ : jr_Sg} {f : Int32} (h : IV σ) : jr_pair G (d + 20) mi_X9_dies mi_X10_dies [.int f] σ := by
  obtain ⟨T, n, nf, nc, kd, se, lw, tp, h⟩ := h
  have hh := h
  obtain ⟨hTC, hTR, ⟨hsc, hsr, hl1, hl2, hlw, hfc, hli, hca⟩, htp, himg, hsh, hrest, hwd⟩ := hh
  have hnf := hsc.1
  have h5 := hsc.2.1
  have hnc := hsc.2.2.1
  have h8 := hsc.2.2.2.1
  have rnf := hsr.1
  have rnc := hsr.2.2.1
  have hlm := hrest.2.2.2.1
  unfold jr_pair
  rcases jr_fc f h5 with hf | ⟨j, hj, rfl⟩
  · refine jr_enter (L := [some (.ref 0), some (.int f)]) (by decide) (Nat.le_of_ble_eq_true rfl) rfl ?_
    refine jr_aload_n 0 1 dX9_dies_0 rfl rfl rfl ?_
    refine gf_X9_44 4 dX9_dies_1 rfl rfl rfl rfl ?_
    refine jr_iload_n 1 5 dX9_dies_4 rfl rfl rfl ?_
    refine cs_X9_146 8 dX9_dies_5 rfl rfl rfl (Nat.le_of_ble_eq_true rfl) (wp_has_15 hnf h5 (fun j hj e => absurd hf (by rw [e]; exact jr_fcn hj (by omega))) (fun _ => ?_))
    refine jr_if_ne 14 11 dX9_dies_8 rfl rfl (fun q => absurd (by decide) q) (fun q8 => ?_)
    refine jr_bipush ((-5)) 13 dX9_dies_11 rfl rfl ?_
    refine jr_ireturn dX9_dies_13 rfl rfl ?_
    refine jr_enter (L := [some (.ref 46), some (.int f)]) (by decide) (Nat.le_of_ble_eq_true rfl) rfl ?_
    refine jr_aload_n 0 1 dX10_dies_0 rfl rfl rfl ?_
    refine jr_iload_n 1 2 dX10_dies_1 rfl rfl rfl ?_
    refine cs_X10_204 5 dX10_dies_2 rfl rfl rfl (Nat.le_of_ble_eq_true rfl) (wp_isFace rnf h5 (fun j hj e => absurd hf (by rw [e]; exact jr_fcn hj (by omega))) (fun _ => ?_))
    refine jr_if_eq 16 8 dX10_dies_5 rfl rfl (fun q5 => ?_) (fun q => absurd (by decide) q)
    refine jr_bipush ((-5)) 18 dX10_dies_16 rfl rfl ?_
    refine jr_ireturn dX10_dies_18 rfl rfl ?_
    exact ⟨rfl, IV_mov (iv_same_x (jr_eqx_rf [] _) (by decide)) h⟩
  · refine jr_enter (L := [some (.ref 0), some (.int (nI j))]) (by decide) (Nat.le_of_ble_eq_true rfl) rfl ?_
    refine jr_aload_n 0 1 dX9_dies_0 rfl rfl rfl ?_
    refine gf_X9_44 4 dX9_dies_1 rfl rfl rfl rfl ?_
    refine jr_iload_n 1 5 dX9_dies_4 rfl rfl rfl ?_
    refine cs_X9_146 8 dX9_dies_5 rfl rfl rfl (Nat.le_of_ble_eq_true rfl) (wp_hasT_15 hnf h5 hj ?_)
    refine jr_if_ne 14 11 dX9_dies_8 rfl rfl (fun q8 => ?_) (fun q => absurd q (by decide))
    refine jr_aload_n 0 15 dX9_dies_14 rfl rfl rfl ?_
    refine jr_iload_n 1 16 dX9_dies_15 rfl rfl rfl ?_
    refine jr_bipush (40) 18 dX9_dies_16 rfl rfl ?_
    refine cs_X9_189 21 dX9_dies_18 rfl rfl rfl (Nat.le_of_ble_eq_true rfl) (wp_playNow (len := 40) (by omega) h hj (jr_eqx_rf _ _) (fun σ1 g1 g2 => ?_))
    refine jr_aload_n 0 22 dX9_dies_21 rfl rfl rfl ?_
    refine gf_X9_37 25 dX9_dies_22 rfl rfl rfl rfl ?_
    refine jr_iload_n 1 26 dX9_dies_25 rfl rfl rfl ?_
    refine cs_X9_222 29 dX9_dies_26 rfl rfl rfl (Nat.le_of_ble_eq_true rfl) (wp_mostWarmth (by omega) ?_)
    refine jr_topi (y := tr_mo (sm_R T lw nf nc kd se σ j)) (pd_mo g2 (iv_w0 h hj)) ?_
    refine jr_sipush (400) 32 dX9_dies_29 rfl rfl ?_
    refine jr_icmp_lt 37 35 dX9_dies_32 rfl rfl (fun q32 => ?_) (fun q32 => ?_)
    · have e9 : ¬ tr_mo (sm_R T lw nf nc kd se σ j) = 400 := fun e => absurd q32 (by rw [e]; decide)
      refine jr_aload_n 0 38 dX9_dies_37 rfl rfl rfl ?_
      refine gf_X9_37 41 dX9_dies_38 rfl rfl rfl rfl ?_
      refine jr_bipush (40) 43 dX9_dies_41 rfl rfl ?_
      refine jr_iload_n 1 44 dX9_dies_43 rfl rfl rfl ?_
      refine cs_X9_196 47 dX9_dies_44 rfl rfl rfl (Nat.le_of_ble_eq_true rfl) (wp_isRedBehind (t := 40) (f := j) (by omega) (by omega) (fun qr => ?_) (fun qr => ?_))
      · refine jr_if_eq 54 50 dX9_dies_47 rfl rfl (fun q => absurd q (by decide)) (fun q47 => ?_)
        have e8 : pr_rf kd se σ j ≤ (sm_R T lw nf nc kd se σ j 40).1 := by rw [← g2.1, ← (g2.2 40 (Nat.le_refl _)).1]; exact qr
        refine jr_iconst (1) 51 dX9_dies_50 rfl rfl ?_
        refine jr_goto 55 dX9_dies_51 rfl ?_
        refine jr_ireturn dX9_dies_55 rfl rfl ?_
        refine jr_enter (L := [some (.ref 46), some (.int (nI j))]) (by decide) (Nat.le_of_ble_eq_true rfl) rfl ?_
        have h1 := iv_mov (iv_cx g1) h
        have r1 := rr_of h1
        refine jr_aload_n 0 1 dX10_dies_0 rfl rfl rfl ?_
        refine jr_iload_n 1 2 dX10_dies_1 rfl rfl rfl ?_
        refine cs_X10_204 5 dX10_dies_2 rfl rfl rfl (Nat.le_of_ble_eq_true rfl) (wp_isFace r1.1.1 h5 (fun _ _ _ => ?_) (fun q => absurd q (jr_fcn hj (by omega))))
        refine jr_if_eq 16 8 dX10_dies_5 rfl rfl (fun q => absurd q (by decide)) (fun q5 => ?_)
        refine jr_aload_n 0 9 dX10_dies_8 rfl rfl rfl ?_
        refine jr_iload_n 1 10 dX10_dies_9 rfl rfl rfl ?_
        refine cs_X10_284 13 dX10_dies_10 rfl rfl rfl (Nat.le_of_ble_eq_true rfl) (wp_diesNow r1 hj (fun σ2 g3 => ?_))
        refine jr_goto 18 dX10_dies_13 rfl ?_
        refine jr_ireturn dX10_dies_18 rfl rfl ?_
        exact ⟨congrArg Value.int (by rw [sm_R_of g1, pr_rf_of g1, if_neg e9, if_pos e8]), IV_mov (iv_same_tr (iv_cx g1) (iv_rx g3)) h⟩
      · refine jr_if_eq 54 50 dX9_dies_47 rfl rfl (fun q47 => ?_) (fun q => absurd (by decide) q)
        have e8 : ¬ pr_rf kd se σ j ≤ (sm_R T lw nf nc kd se σ j 40).1 := by rw [← g2.1, ← (g2.2 40 (Nat.le_refl _)).1]; exact qr
        refine jr_iconst (0) 55 dX9_dies_54 rfl rfl ?_
        refine jr_ireturn dX9_dies_55 rfl rfl ?_
        refine jr_enter (L := [some (.ref 46), some (.int (nI j))]) (by decide) (Nat.le_of_ble_eq_true rfl) rfl ?_
        have h1 := iv_mov (iv_cx g1) h
        have r1 := rr_of h1
        refine jr_aload_n 0 1 dX10_dies_0 rfl rfl rfl ?_
        refine jr_iload_n 1 2 dX10_dies_1 rfl rfl rfl ?_
        refine cs_X10_204 5 dX10_dies_2 rfl rfl rfl (Nat.le_of_ble_eq_true rfl) (wp_isFace r1.1.1 h5 (fun _ _ _ => ?_) (fun q => absurd q (jr_fcn hj (by omega))))
        refine jr_if_eq 16 8 dX10_dies_5 rfl rfl (fun q => absurd q (by decide)) (fun q5 => ?_)
        refine jr_aload_n 0 9 dX10_dies_8 rfl rfl rfl ?_
        refine jr_iload_n 1 10 dX10_dies_9 rfl rfl rfl ?_
        refine cs_X10_284 13 dX10_dies_10 rfl rfl rfl (Nat.le_of_ble_eq_true rfl) (wp_diesNow r1 hj (fun σ2 g3 => ?_))
        refine jr_goto 18 dX10_dies_13 rfl ?_
        refine jr_ireturn dX10_dies_18 rfl rfl ?_
        exact ⟨congrArg Value.int (by rw [sm_R_of g1, pr_rf_of g1, if_neg e9, if_neg e8]), IV_mov (iv_same_tr (iv_cx g1) (iv_rx g3)) h⟩
    · have e9 : tr_mo (sm_R T lw nf nc kd se σ j) = 400 := Int32.le_antisymm (tr_mo_le (iv_w4 h hj)) (Int32.not_lt.mp q32)
      refine jr_iconst (2) 36 dX9_dies_35 rfl rfl ?_
      refine jr_ireturn dX9_dies_36 rfl rfl ?_
      refine jr_enter (L := [some (.ref 46), some (.int (nI j))]) (by decide) (Nat.le_of_ble_eq_true rfl) rfl ?_
      have h1 := iv_mov (iv_cx g1) h
      have r1 := rr_of h1
      refine jr_aload_n 0 1 dX10_dies_0 rfl rfl rfl ?_
      refine jr_iload_n 1 2 dX10_dies_1 rfl rfl rfl ?_
      refine cs_X10_204 5 dX10_dies_2 rfl rfl rfl (Nat.le_of_ble_eq_true rfl) (wp_isFace r1.1.1 h5 (fun _ _ _ => ?_) (fun q => absurd q (jr_fcn hj (by omega))))
      refine jr_if_eq 16 8 dX10_dies_5 rfl rfl (fun q => absurd q (by decide)) (fun q5 => ?_)
      refine jr_aload_n 0 9 dX10_dies_8 rfl rfl rfl ?_
      refine jr_iload_n 1 10 dX10_dies_9 rfl rfl rfl ?_
      refine cs_X10_284 13 dX10_dies_10 rfl rfl rfl (Nat.le_of_ble_eq_true rfl) (wp_diesNow r1 hj (fun σ2 g3 => ?_))
      refine jr_goto 18 dX10_dies_13 rfl ?_
      refine jr_ireturn dX10_dies_18 rfl rfl ?_
      exact ⟨congrArg Value.int (by rw [sm_R_of g1, pr_rf_of g1, if_pos e9]), IV_mov (iv_same_tr (iv_cx g1) (iv_rx g3)) h⟩
theorem pp_stops {G : jr_G} {d : Nat} {σ : jr_Sg} {f a c : Int32} (h : IV σ) : jr_pair G (d + 20) mi_X9_stops mi_X10_stops [.int f, .int a, .int c] σ := by
  obtain ⟨T, n, nf, nc, kd, se, lw, tp, h⟩ := h
  have hh := h
  obtain ⟨hTC, hTR, ⟨hsc, hsr, hl1, hl2, hlw, hfc, hli, hca⟩, htp, himg, hsh, hrest, hwd⟩ := hh
  have hnf := hsc.1
  have h5 := hsc.2.1
  have hnc := hsc.2.2.1
  have h8 := hsc.2.2.2.1
  have rnf := hsr.1
  have rnc := hsr.2.2.1
  have hlm := hrest.2.2.2.1
  unfold jr_pair
  rcases jr_fc f h5 with hf | ⟨j, hj, rfl⟩
  · refine jr_enter (L := [some (.ref 0), some (.int f), some (.int a), some (.int c), none]) (by decide) (Nat.le_of_ble_eq_true rfl) rfl ?_
    refine jr_aload_n 0 1 dX9_stops_0 rfl rfl rfl ?_
    refine gf_X9_44 4 dX9_stops_1 rfl rfl rfl rfl ?_
    refine jr_iload_n 1 5 dX9_stops_4 rfl rfl rfl ?_
    refine cs_X9_146 8 dX9_stops_5 rfl rfl rfl (Nat.le_of_ble_eq_true rfl) (wp_has_15 hnf h5 (fun j hj e => absurd hf (by rw [e]; exact jr_fcn hj (by omega))) (fun _ => ?_))
    refine jr_if_ne 14 11 dX9_stops_8 rfl rfl (fun q => absurd (by decide) q) (fun q8 => ?_)
    refine jr_bipush ((-5)) 13 dX9_stops_11 rfl rfl ?_
    refine jr_ireturn dX9_stops_13 rfl rfl ?_
    refine jr_enter (L := [some (.ref 46), some (.int f), some (.int a), some (.int c), none]) (by decide) (Nat.le_of_ble_eq_true rfl) rfl ?_
    refine jr_aload_n 0 1 dX10_stops_0 rfl rfl rfl ?_
    refine jr_iload_n 1 2 dX10_stops_1 rfl rfl rfl ?_
    refine cs_X10_204 5 dX10_stops_2 rfl rfl rfl (Nat.le_of_ble_eq_true rfl) (wp_isFace rnf h5 (fun j hj e => absurd hf (by rw [e]; exact jr_fcn hj (by omega))) (fun _ => ?_))
    refine jr_if_ne 11 8 dX10_stops_5 rfl rfl (fun q => absurd (by decide) q) (fun q5 => ?_)
    refine jr_bipush ((-5)) 10 dX10_stops_8 rfl rfl ?_
    refine jr_ireturn dX10_stops_10 rfl rfl ?_
    exact ⟨rfl, IV_mov (iv_same_x (jr_eqx_rf [] _) (by decide)) h⟩
  · by_cases ha : a < 0
    · refine jr_enter (L := [some (.ref 0), some (.int (nI j)), some (.int a), some (.int c), none]) (by decide) (Nat.le_of_ble_eq_true rfl) rfl ?_
      refine jr_aload_n 0 1 dX9_stops_0 rfl rfl rfl ?_
      refine gf_X9_44 4 dX9_stops_1 rfl rfl rfl rfl ?_
      refine jr_iload_n 1 5 dX9_stops_4 rfl rfl rfl ?_
      refine cs_X9_146 8 dX9_stops_5 rfl rfl rfl (Nat.le_of_ble_eq_true rfl) (wp_hasT_15 hnf h5 hj ?_)
      refine jr_if_ne 14 11 dX9_stops_8 rfl rfl (fun q8 => ?_) (fun q => absurd q (by decide))
      refine jr_iload_n 2 15 dX9_stops_14 rfl rfl rfl ?_
      refine jr_if_lt 39 18 dX9_stops_15 rfl rfl (fun q15 => ?_) (fun q => absurd ha q)
      refine jr_iconst (0) 40 dX9_stops_39 rfl rfl ?_
      refine jr_istore (L' := [_, _, _, _, _]) 42 dX9_stops_40 rfl (by decide) rfl ?_
      refine jr_iload 44 dX9_stops_42 rfl rfl ?_
      refine jr_if_eq 55 47 dX9_stops_44 rfl rfl (fun q44 => ?_) (fun q => absurd (by decide) q)
      refine jr_bipush ((-7)) 57 dX9_stops_55 rfl rfl ?_
      refine jr_ireturn dX9_stops_57 rfl rfl ?_
      refine jr_enter (L := [some (.ref 46), some (.int (nI j)), some (.int a), some (.int c), none]) (by decide) (Nat.le_of_ble_eq_true rfl) rfl ?_
      refine jr_aload_n 0 1 dX10_stops_0 rfl rfl rfl ?_
      refine jr_iload_n 1 2 dX10_stops_1 rfl rfl rfl ?_
      refine cs_X10_204 5 dX10_stops_2 rfl rfl rfl (Nat.le_of_ble_eq_true rfl) (wp_isFace rnf h5 (fun _ _ _ => ?_) (fun q => absurd q (jr_fcn hj (by omega))))
      refine jr_if_ne 11 8 dX10_stops_5 rfl rfl (fun q5 => ?_) (fun q => absurd q (by decide))
      refine jr_iload_n 2 12 dX10_stops_11 rfl rfl rfl ?_
      refine jr_iconst (0) 13 dX10_stops_12 rfl rfl ?_
      refine jr_sipush (319) 16 dX10_stops_13 rfl rfl ?_
      refine cs_X10_108 19 dX10_stops_16 rfl rfl (Nat.le_of_ble_eq_true rfl) (wp_inF (fun q => absurd ha (Int32.not_lt.mpr q.1)) ?_)
      refine jr_if_eq 40 22 dX10_stops_19 rfl rfl (fun q19 => ?_) (fun q => absurd (by decide) q)
      refine jr_bipush ((-7)) 42 dX10_stops_40 rfl rfl ?_
      refine jr_ireturn dX10_stops_42 rfl rfl ?_
      exact ⟨rfl, IV_mov (iv_same_x (jr_eqx_rf [] _) (by decide)) h⟩
    · obtain ⟨b, hb, rfl⟩ := nI_of ha
      have ediv : nI b / nI 100 = nI (b / 100) := pk_div hb (by omega) (by omega)
      have erem : nI b - nI b / nI 100 * nI 100 = nI (b % 100) := pk_rem hb (by omega) (by omega)
      by_cases hd : b / 100 < 4
      · by_cases hm : b % 100 < 20
        · have hb3 : b ≤ 319 := by omega
          rcases jr_rg c (m := 4) (by decide) with qc2 | ⟨c2, hc2, rfl⟩
          · refine jr_enter (L := [some (.ref 0), some (.int (nI j)), some (.int (nI b)), some (.int c), none]) (by decide) (Nat.le_of_ble_eq_true rfl) rfl ?_
            refine jr_aload_n 0 1 dX9_stops_0 rfl rfl rfl ?_
            refine gf_X9_44 4 dX9_stops_1 rfl rfl rfl rfl ?_
            refine jr_iload_n 1 5 dX9_stops_4 rfl rfl rfl ?_
            refine cs_X9_146 8 dX9_stops_5 rfl rfl rfl (Nat.le_of_ble_eq_true rfl) (wp_hasT_15 hnf h5 hj ?_)
            refine jr_if_ne 14 11 dX9_stops_8 rfl rfl (fun q8 => ?_) (fun q => absurd q (by decide))
            refine jr_iload_n 2 15 dX9_stops_14 rfl rfl rfl ?_
            refine jr_if_lt 39 18 dX9_stops_15 rfl rfl (fun q => absurd q ha) (fun q15 => ?_)
            refine jr_iload_n 2 19 dX9_stops_18 rfl rfl rfl ?_
            refine jr_bipush (nI 100) 21 dX9_stops_19 rfl rfl ?_
            refine jr_idiv 22 dX9_stops_21 rfl (by decide) ?_
            rw [ediv]
            refine jr_iconst (nI 4) 23 dX9_stops_22 rfl rfl ?_
            refine jr_icmp_ge 39 26 dX9_stops_23 rfl rfl (fun q => absurd q (nI_ge (b := 4) hd (by omega))) (fun q23 => ?_)
            refine jr_iload_n 2 27 dX9_stops_26 rfl rfl rfl ?_
            refine jr_bipush (nI 100) 29 dX9_stops_27 rfl rfl ?_
            refine jr_irem 30 dX9_stops_29 rfl (by decide) ?_
            rw [erem]
            refine jr_bipush (nI 20) 32 dX9_stops_30 rfl rfl ?_
            refine jr_icmp_ge 39 35 dX9_stops_32 rfl rfl (fun q => absurd q (nI_ge (b := 20) hm (by omega))) (fun q32 => ?_)
            refine jr_iconst (nI 1) 36 dX9_stops_35 rfl rfl ?_
            refine jr_goto 40 dX9_stops_36 rfl ?_
            refine jr_istore (L' := [_, _, _, _, _]) 42 dX9_stops_40 rfl (by decide) rfl ?_
            refine jr_iload 44 dX9_stops_42 rfl rfl ?_
            refine jr_if_eq 55 47 dX9_stops_44 rfl rfl (fun q => absurd q (by decide)) (fun q44 => ?_)
            refine jr_iload_n 3 48 dX9_stops_47 rfl rfl rfl ?_
            refine jr_iconst (nI 4) 49 dX9_stops_48 rfl rfl ?_
            refine cs_X9_104 52 dX9_stops_49 rfl rfl (Nat.le_of_ble_eq_true rfl) (wp_wiF qc2 ?_)
            refine jr_if_ne 58 55 dX9_stops_52 rfl rfl (fun q => absurd (by decide) q) (fun q52 => ?_)
            refine jr_bipush ((-7)) 57 dX9_stops_55 rfl rfl ?_
            refine jr_ireturn dX9_stops_57 rfl rfl ?_
            refine jr_enter (L := [some (.ref 46), some (.int (nI j)), some (.int (nI b)), some (.int c), none]) (by decide) (Nat.le_of_ble_eq_true rfl) rfl ?_
            refine jr_aload_n 0 1 dX10_stops_0 rfl rfl rfl ?_
            refine jr_iload_n 1 2 dX10_stops_1 rfl rfl rfl ?_
            refine cs_X10_204 5 dX10_stops_2 rfl rfl rfl (Nat.le_of_ble_eq_true rfl) (wp_isFace rnf h5 (fun _ _ _ => ?_) (fun q => absurd q (jr_fcn hj (by omega))))
            refine jr_if_ne 11 8 dX10_stops_5 rfl rfl (fun q5 => ?_) (fun q => absurd q (by decide))
            refine jr_iload_n 2 12 dX10_stops_11 rfl rfl rfl ?_
            refine jr_iconst (nI 0) 13 dX10_stops_12 rfl rfl ?_
            refine jr_sipush (nI 319) 16 dX10_stops_13 rfl rfl ?_
            refine cs_X10_108 19 dX10_stops_16 rfl rfl (Nat.le_of_ble_eq_true rfl) (wp_inT (M := 319) hb3 (by decide) rfl ?_)
            refine jr_if_eq 40 22 dX10_stops_19 rfl rfl (fun q => absurd q (by decide)) (fun q19 => ?_)
            refine jr_iload_n 2 23 dX10_stops_22 rfl rfl rfl ?_
            refine jr_bipush (nI 100) 25 dX10_stops_23 rfl rfl ?_
            refine jr_irem 26 dX10_stops_25 rfl (by decide) ?_
            rw [erem]
            refine jr_bipush (nI 19) 28 dX10_stops_26 rfl rfl ?_
            refine jr_icmp_gt 40 31 dX10_stops_28 rfl rfl (fun q => absurd q (nI_nlt (b := b % 100) (a := 19) (by omega) (by omega))) (fun q28 => ?_)
            refine jr_iload_n 3 32 dX10_stops_31 rfl rfl rfl ?_
            refine jr_iconst (nI 0) 33 dX10_stops_32 rfl rfl ?_
            refine jr_iconst (nI 4) 34 dX10_stops_33 rfl rfl ?_
            refine cs_X10_108 37 dX10_stops_34 rfl rfl (Nat.le_of_ble_eq_true rfl) (wp_inF qc2 ?_)
            refine jr_if_ne 43 40 dX10_stops_37 rfl rfl (fun q => absurd (by decide) q) (fun q37 => ?_)
            refine jr_bipush ((-7)) 42 dX10_stops_40 rfl rfl ?_
            refine jr_ireturn dX10_stops_42 rfl rfl ?_
            exact ⟨rfl, IV_mov (iv_same_x (jr_eqx_rf [] _) (by decide)) h⟩
          · refine jr_enter (L := [some (.ref 0), some (.int (nI j)), some (.int (nI b)), some (.int (nI c2)), none]) (by decide) (Nat.le_of_ble_eq_true rfl) rfl ?_
            refine jr_aload_n 0 1 dX9_stops_0 rfl rfl rfl ?_
            refine gf_X9_44 4 dX9_stops_1 rfl rfl rfl rfl ?_
            refine jr_iload_n 1 5 dX9_stops_4 rfl rfl rfl ?_
            refine cs_X9_146 8 dX9_stops_5 rfl rfl rfl (Nat.le_of_ble_eq_true rfl) (wp_hasT_15 hnf h5 hj ?_)
            refine jr_if_ne 14 11 dX9_stops_8 rfl rfl (fun q8 => ?_) (fun q => absurd q (by decide))
            refine jr_iload_n 2 15 dX9_stops_14 rfl rfl rfl ?_
            refine jr_if_lt 39 18 dX9_stops_15 rfl rfl (fun q => absurd q ha) (fun q15 => ?_)
            refine jr_iload_n 2 19 dX9_stops_18 rfl rfl rfl ?_
            refine jr_bipush (nI 100) 21 dX9_stops_19 rfl rfl ?_
            refine jr_idiv 22 dX9_stops_21 rfl (by decide) ?_
            rw [ediv]
            refine jr_iconst (nI 4) 23 dX9_stops_22 rfl rfl ?_
            refine jr_icmp_ge 39 26 dX9_stops_23 rfl rfl (fun q => absurd q (nI_ge (b := 4) hd (by omega))) (fun q23 => ?_)
            refine jr_iload_n 2 27 dX9_stops_26 rfl rfl rfl ?_
            refine jr_bipush (nI 100) 29 dX9_stops_27 rfl rfl ?_
            refine jr_irem 30 dX9_stops_29 rfl (by decide) ?_
            rw [erem]
            refine jr_bipush (nI 20) 32 dX9_stops_30 rfl rfl ?_
            refine jr_icmp_ge 39 35 dX9_stops_32 rfl rfl (fun q => absurd q (nI_ge (b := 20) hm (by omega))) (fun q32 => ?_)
            refine jr_iconst (nI 1) 36 dX9_stops_35 rfl rfl ?_
            refine jr_goto 40 dX9_stops_36 rfl ?_
            refine jr_istore (L' := [_, _, _, _, _]) 42 dX9_stops_40 rfl (by decide) rfl ?_
            refine jr_iload 44 dX9_stops_42 rfl rfl ?_
            refine jr_if_eq 55 47 dX9_stops_44 rfl rfl (fun q => absurd q (by decide)) (fun q44 => ?_)
            refine jr_iload_n 3 48 dX9_stops_47 rfl rfl rfl ?_
            refine jr_iconst (nI 4) 49 dX9_stops_48 rfl rfl ?_
            refine cs_X9_104 52 dX9_stops_49 rfl rfl (Nat.le_of_ble_eq_true rfl) (wp_wiT hc2 (by decide) rfl ?_)
            refine jr_if_ne 58 55 dX9_stops_52 rfl rfl (fun q52 => ?_) (fun q => absurd q (by decide))
            refine jr_aload_n 0 59 dX9_stops_58 rfl rfl rfl ?_
            refine jr_iload_n 1 60 dX9_stops_59 rfl rfl rfl ?_
            refine jr_iload_n 2 61 dX9_stops_60 rfl rfl rfl ?_
            refine jr_bipush (nI 100) 63 dX9_stops_61 rfl rfl ?_
            refine jr_idiv 64 dX9_stops_63 rfl (by decide) ?_
            rw [ediv]
            refine jr_iload_n 2 65 dX9_stops_64 rfl rfl rfl ?_
            refine jr_bipush (nI 100) 67 dX9_stops_65 rfl rfl ?_
            refine jr_irem 68 dX9_stops_67 rfl (by decide) ?_
            rw [erem]
            refine cs_X9_232 71 dX9_stops_68 rfl rfl rfl (Nat.le_of_ble_eq_true rfl) (wp_playStopped h hj (jr_eqx_rf _ _) (fun σ1 g1 g2 => ?_))
            refine jr_aload_n 0 72 dX9_stops_71 rfl rfl rfl ?_
            refine jr_iload_n 1 73 dX9_stops_72 rfl rfl rfl ?_
            refine jr_iload_n 3 74 dX9_stops_73 rfl rfl rfl ?_
            refine cs_X9_202 77 dX9_stops_74 rfl rfl rfl (Nat.le_of_ble_eq_true rfl) (wp_cRedTold (by omega) g2 (show 0 ≤ σ 50 j from iv_50 h hj) (by omega) ?_)
            refine jr_ireturn dX9_stops_77 rfl rfl ?_
            refine jr_enter (L := [some (.ref 46), some (.int (nI j)), some (.int (nI b)), some (.int (nI c2)), none]) (by decide) (Nat.le_of_ble_eq_true rfl) rfl ?_
            have h1 := iv_mov (iv_cx g1) h
            have r1 := rr_of h1
            refine jr_aload_n 0 1 dX10_stops_0 rfl rfl rfl ?_
            refine jr_iload_n 1 2 dX10_stops_1 rfl rfl rfl ?_
            refine cs_X10_204 5 dX10_stops_2 rfl rfl rfl (Nat.le_of_ble_eq_true rfl) (wp_isFace r1.1.1 h5 (fun _ _ _ => ?_) (fun q => absurd q (jr_fcn hj (by omega))))
            refine jr_if_ne 11 8 dX10_stops_5 rfl rfl (fun q5 => ?_) (fun q => absurd q (by decide))
            refine jr_iload_n 2 12 dX10_stops_11 rfl rfl rfl ?_
            refine jr_iconst (nI 0) 13 dX10_stops_12 rfl rfl ?_
            refine jr_sipush (nI 319) 16 dX10_stops_13 rfl rfl ?_
            refine cs_X10_108 19 dX10_stops_16 rfl rfl (Nat.le_of_ble_eq_true rfl) (wp_inT (M := 319) hb3 (by decide) rfl ?_)
            refine jr_if_eq 40 22 dX10_stops_19 rfl rfl (fun q => absurd q (by decide)) (fun q19 => ?_)
            refine jr_iload_n 2 23 dX10_stops_22 rfl rfl rfl ?_
            refine jr_bipush (nI 100) 25 dX10_stops_23 rfl rfl ?_
            refine jr_irem 26 dX10_stops_25 rfl (by decide) ?_
            rw [erem]
            refine jr_bipush (nI 19) 28 dX10_stops_26 rfl rfl ?_
            refine jr_icmp_gt 40 31 dX10_stops_28 rfl rfl (fun q => absurd q (nI_nlt (b := b % 100) (a := 19) (by omega) (by omega))) (fun q28 => ?_)
            refine jr_iload_n 3 32 dX10_stops_31 rfl rfl rfl ?_
            refine jr_iconst (nI 0) 33 dX10_stops_32 rfl rfl ?_
            refine jr_iconst (nI 4) 34 dX10_stops_33 rfl rfl ?_
            refine cs_X10_108 37 dX10_stops_34 rfl rfl (Nat.le_of_ble_eq_true rfl) (wp_inT hc2 (by decide) rfl ?_)
            refine jr_if_ne 43 40 dX10_stops_37 rfl rfl (fun q37 => ?_) (fun q => absurd q (by decide))
            refine jr_aload_n 0 44 dX10_stops_43 rfl rfl rfl ?_
            refine jr_iload_n 1 45 dX10_stops_44 rfl rfl rfl ?_
            refine jr_iload_n 2 46 dX10_stops_45 rfl rfl rfl ?_
            refine jr_bipush (nI 100) 48 dX10_stops_46 rfl rfl ?_
            refine jr_idiv 49 dX10_stops_48 rfl (by decide) ?_
            rw [ediv]
            refine jr_iload_n 2 50 dX10_stops_49 rfl rfl rfl ?_
            refine jr_bipush (nI 100) 52 dX10_stops_50 rfl rfl ?_
            refine jr_irem 53 dX10_stops_52 rfl (by decide) ?_
            rw [erem]
            refine cs_X10_287 56 dX10_stops_53 rfl rfl rfl (Nat.le_of_ble_eq_true rfl) (wp_stopsBy ?_)
            refine jr_aload_n 0 57 dX10_stops_56 rfl rfl rfl ?_
            refine jr_iload_n 1 58 dX10_stops_57 rfl rfl rfl ?_
            refine jr_iload_n 3 59 dX10_stops_58 rfl rfl rfl ?_
            refine cs_X10_275 62 dX10_stops_59 rfl rfl rfl (Nat.le_of_ble_eq_true rfl) (wp_rrt (what := c2) (rr_eqs r1 (md_s_eqs _ _ _ _) (by decide)) hj (by omega) (fun σ2 g3 => ?_))
            refine jr_istore (L' := [_, _, _, _, _]) 64 dX10_stops_62 rfl (by decide) rfl ?_
            refine jr_aload_n 0 65 dX10_stops_64 rfl rfl rfl ?_
            refine jr_iconst ((-1)) 66 dX10_stops_65 rfl rfl ?_
            refine pf_X10_79 69 dX10_stops_66 rfl rfl rfl rfl ?_
            refine jr_iload 71 dX10_stops_69 rfl rfl ?_
            refine jr_ireturn dX10_stops_71 rfl rfl ?_
            refine ⟨congrArg Value.int ?_, IV_mov (iv_same_tr (iv_cx g1) (iv_eqs (FX := [39, 40, 41]) (eqs_tr (eqs_tr (md_s_eqs _ _ _ _) (eqs_rx g3)) (eqs_up _ _ (by decide))) (fun k hk hk2 => ?_))) h⟩
            · rw [sm_R_of (σ := (md_s σ (nI j) (nI (b / 100)) (nI (b % 100)))) (cx_eqs g1 _ _ _), pr_rf_of (σ := (md_s σ (nI j) (nI (b / 100)) (nI (b % 100)))) (cx_eqs g1 _ _ _)]
              rfl
            · rcases (by simpa using hk : k = 39 ∨ k = 40 ∨ k = 41) with rfl | rfl | rfl
              · exact (h1.2.2.2.2.2.2.1.1).symm
              · exact absurd hk2 (by decide)
              · exact absurd hk2 (by decide)
        · by_cases hb3 : b ≤ 319
          · refine jr_enter (L := [some (.ref 0), some (.int (nI j)), some (.int (nI b)), some (.int c), none]) (by decide) (Nat.le_of_ble_eq_true rfl) rfl ?_
            refine jr_aload_n 0 1 dX9_stops_0 rfl rfl rfl ?_
            refine gf_X9_44 4 dX9_stops_1 rfl rfl rfl rfl ?_
            refine jr_iload_n 1 5 dX9_stops_4 rfl rfl rfl ?_
            refine cs_X9_146 8 dX9_stops_5 rfl rfl rfl (Nat.le_of_ble_eq_true rfl) (wp_hasT_15 hnf h5 hj ?_)
            refine jr_if_ne 14 11 dX9_stops_8 rfl rfl (fun q8 => ?_) (fun q => absurd q (by decide))
            refine jr_iload_n 2 15 dX9_stops_14 rfl rfl rfl ?_
            refine jr_if_lt 39 18 dX9_stops_15 rfl rfl (fun q => absurd q ha) (fun q15 => ?_)
            refine jr_iload_n 2 19 dX9_stops_18 rfl rfl rfl ?_
            refine jr_bipush (nI 100) 21 dX9_stops_19 rfl rfl ?_
            refine jr_idiv 22 dX9_stops_21 rfl (by decide) ?_
            rw [ediv]
            refine jr_iconst (nI 4) 23 dX9_stops_22 rfl rfl ?_
            refine jr_icmp_ge 39 26 dX9_stops_23 rfl rfl (fun q => absurd q (nI_ge (b := 4) hd (by omega))) (fun q23 => ?_)
            refine jr_iload_n 2 27 dX9_stops_26 rfl rfl rfl ?_
            refine jr_bipush (nI 100) 29 dX9_stops_27 rfl rfl ?_
            refine jr_irem 30 dX9_stops_29 rfl (by decide) ?_
            rw [erem]
            refine jr_bipush (nI 20) 32 dX9_stops_30 rfl rfl ?_
            refine jr_icmp_ge 39 35 dX9_stops_32 rfl rfl (fun q32 => ?_) (fun q => absurd (nI_le (a := 20) (by omega) (by omega)) q)
            refine jr_iconst (nI 0) 40 dX9_stops_39 rfl rfl ?_
            refine jr_istore (L' := [_, _, _, _, _]) 42 dX9_stops_40 rfl (by decide) rfl ?_
            refine jr_iload 44 dX9_stops_42 rfl rfl ?_
            refine jr_if_eq 55 47 dX9_stops_44 rfl rfl (fun q44 => ?_) (fun q => absurd (by decide) q)
            refine jr_bipush ((-7)) 57 dX9_stops_55 rfl rfl ?_
            refine jr_ireturn dX9_stops_57 rfl rfl ?_
            refine jr_enter (L := [some (.ref 46), some (.int (nI j)), some (.int (nI b)), some (.int c), none]) (by decide) (Nat.le_of_ble_eq_true rfl) rfl ?_
            refine jr_aload_n 0 1 dX10_stops_0 rfl rfl rfl ?_
            refine jr_iload_n 1 2 dX10_stops_1 rfl rfl rfl ?_
            refine cs_X10_204 5 dX10_stops_2 rfl rfl rfl (Nat.le_of_ble_eq_true rfl) (wp_isFace rnf h5 (fun _ _ _ => ?_) (fun q => absurd q (jr_fcn hj (by omega))))
            refine jr_if_ne 11 8 dX10_stops_5 rfl rfl (fun q5 => ?_) (fun q => absurd q (by decide))
            refine jr_iload_n 2 12 dX10_stops_11 rfl rfl rfl ?_
            refine jr_iconst (nI 0) 13 dX10_stops_12 rfl rfl ?_
            refine jr_sipush (nI 319) 16 dX10_stops_13 rfl rfl ?_
            refine cs_X10_108 19 dX10_stops_16 rfl rfl (Nat.le_of_ble_eq_true rfl) (wp_inT (M := 319) hb3 (by decide) rfl ?_)
            refine jr_if_eq 40 22 dX10_stops_19 rfl rfl (fun q => absurd q (by decide)) (fun q19 => ?_)
            refine jr_iload_n 2 23 dX10_stops_22 rfl rfl rfl ?_
            refine jr_bipush (nI 100) 25 dX10_stops_23 rfl rfl ?_
            refine jr_irem 26 dX10_stops_25 rfl (by decide) ?_
            rw [erem]
            refine jr_bipush (nI 19) 28 dX10_stops_26 rfl rfl ?_
            refine jr_icmp_gt 40 31 dX10_stops_28 rfl rfl (fun q28 => ?_) (fun q => absurd (nI_lt (a := 19) (by omega) (by omega)) q)
            refine jr_bipush ((-7)) 42 dX10_stops_40 rfl rfl ?_
            refine jr_ireturn dX10_stops_42 rfl rfl ?_
            exact ⟨rfl, IV_mov (iv_same_x (jr_eqx_rf [] _) (by decide)) h⟩
          · refine jr_enter (L := [some (.ref 0), some (.int (nI j)), some (.int (nI b)), some (.int c), none]) (by decide) (Nat.le_of_ble_eq_true rfl) rfl ?_
            refine jr_aload_n 0 1 dX9_stops_0 rfl rfl rfl ?_
            refine gf_X9_44 4 dX9_stops_1 rfl rfl rfl rfl ?_
            refine jr_iload_n 1 5 dX9_stops_4 rfl rfl rfl ?_
            refine cs_X9_146 8 dX9_stops_5 rfl rfl rfl (Nat.le_of_ble_eq_true rfl) (wp_hasT_15 hnf h5 hj ?_)
            refine jr_if_ne 14 11 dX9_stops_8 rfl rfl (fun q8 => ?_) (fun q => absurd q (by decide))
            refine jr_iload_n 2 15 dX9_stops_14 rfl rfl rfl ?_
            refine jr_if_lt 39 18 dX9_stops_15 rfl rfl (fun q => absurd q ha) (fun q15 => ?_)
            refine jr_iload_n 2 19 dX9_stops_18 rfl rfl rfl ?_
            refine jr_bipush (nI 100) 21 dX9_stops_19 rfl rfl ?_
            refine jr_idiv 22 dX9_stops_21 rfl (by decide) ?_
            rw [ediv]
            refine jr_iconst (nI 4) 23 dX9_stops_22 rfl rfl ?_
            refine jr_icmp_ge 39 26 dX9_stops_23 rfl rfl (fun q => absurd q (nI_ge (b := 4) hd (by omega))) (fun q23 => ?_)
            refine jr_iload_n 2 27 dX9_stops_26 rfl rfl rfl ?_
            refine jr_bipush (nI 100) 29 dX9_stops_27 rfl rfl ?_
            refine jr_irem 30 dX9_stops_29 rfl (by decide) ?_
            rw [erem]
            refine jr_bipush (nI 20) 32 dX9_stops_30 rfl rfl ?_
            refine jr_icmp_ge 39 35 dX9_stops_32 rfl rfl (fun q32 => ?_) (fun q => absurd (nI_le (a := 20) (by omega) (by omega)) q)
            refine jr_iconst (nI 0) 40 dX9_stops_39 rfl rfl ?_
            refine jr_istore (L' := [_, _, _, _, _]) 42 dX9_stops_40 rfl (by decide) rfl ?_
            refine jr_iload 44 dX9_stops_42 rfl rfl ?_
            refine jr_if_eq 55 47 dX9_stops_44 rfl rfl (fun q44 => ?_) (fun q => absurd (by decide) q)
            refine jr_bipush ((-7)) 57 dX9_stops_55 rfl rfl ?_
            refine jr_ireturn dX9_stops_57 rfl rfl ?_
            refine jr_enter (L := [some (.ref 46), some (.int (nI j)), some (.int (nI b)), some (.int c), none]) (by decide) (Nat.le_of_ble_eq_true rfl) rfl ?_
            refine jr_aload_n 0 1 dX10_stops_0 rfl rfl rfl ?_
            refine jr_iload_n 1 2 dX10_stops_1 rfl rfl rfl ?_
            refine cs_X10_204 5 dX10_stops_2 rfl rfl rfl (Nat.le_of_ble_eq_true rfl) (wp_isFace rnf h5 (fun _ _ _ => ?_) (fun q => absurd q (jr_fcn hj (by omega))))
            refine jr_if_ne 11 8 dX10_stops_5 rfl rfl (fun q5 => ?_) (fun q => absurd q (by decide))
            refine jr_iload_n 2 12 dX10_stops_11 rfl rfl rfl ?_
            refine jr_iconst (nI 0) 13 dX10_stops_12 rfl rfl ?_
            refine jr_sipush (nI 319) 16 dX10_stops_13 rfl rfl ?_
            refine cs_X10_108 19 dX10_stops_16 rfl rfl (Nat.le_of_ble_eq_true rfl) (wp_inF (M := 319) (fun q => absurd q.2 (nI_ge (a := 319) (by omega) (by omega))) ?_)
            refine jr_if_eq 40 22 dX10_stops_19 rfl rfl (fun q19 => ?_) (fun q => absurd (by decide) q)
            refine jr_bipush ((-7)) 42 dX10_stops_40 rfl rfl ?_
            refine jr_ireturn dX10_stops_42 rfl rfl ?_
            exact ⟨rfl, IV_mov (iv_same_x (jr_eqx_rf [] _) (by decide)) h⟩
      · refine jr_enter (L := [some (.ref 0), some (.int (nI j)), some (.int (nI b)), some (.int c), none]) (by decide) (Nat.le_of_ble_eq_true rfl) rfl ?_
        refine jr_aload_n 0 1 dX9_stops_0 rfl rfl rfl ?_
        refine gf_X9_44 4 dX9_stops_1 rfl rfl rfl rfl ?_
        refine jr_iload_n 1 5 dX9_stops_4 rfl rfl rfl ?_
        refine cs_X9_146 8 dX9_stops_5 rfl rfl rfl (Nat.le_of_ble_eq_true rfl) (wp_hasT_15 hnf h5 hj ?_)
        refine jr_if_ne 14 11 dX9_stops_8 rfl rfl (fun q8 => ?_) (fun q => absurd q (by decide))
        refine jr_iload_n 2 15 dX9_stops_14 rfl rfl rfl ?_
        refine jr_if_lt 39 18 dX9_stops_15 rfl rfl (fun q => absurd q ha) (fun q15 => ?_)
        refine jr_iload_n 2 19 dX9_stops_18 rfl rfl rfl ?_
        refine jr_bipush (nI 100) 21 dX9_stops_19 rfl rfl ?_
        refine jr_idiv 22 dX9_stops_21 rfl (by decide) ?_
        rw [ediv]
        refine jr_iconst (nI 4) 23 dX9_stops_22 rfl rfl ?_
        refine jr_icmp_ge 39 26 dX9_stops_23 rfl rfl (fun q23 => ?_) (fun q => absurd (nI_le (a := 4) (by omega) (by omega)) q)
        refine jr_iconst (nI 0) 40 dX9_stops_39 rfl rfl ?_
        refine jr_istore (L' := [_, _, _, _, _]) 42 dX9_stops_40 rfl (by decide) rfl ?_
        refine jr_iload 44 dX9_stops_42 rfl rfl ?_
        refine jr_if_eq 55 47 dX9_stops_44 rfl rfl (fun q44 => ?_) (fun q => absurd (by decide) q)
        refine jr_bipush ((-7)) 57 dX9_stops_55 rfl rfl ?_
        refine jr_ireturn dX9_stops_57 rfl rfl ?_
        refine jr_enter (L := [some (.ref 46), some (.int (nI j)), some (.int (nI b)), some (.int c), none]) (by decide) (Nat.le_of_ble_eq_true rfl) rfl ?_
        refine jr_aload_n 0 1 dX10_stops_0 rfl rfl rfl ?_
        refine jr_iload_n 1 2 dX10_stops_1 rfl rfl rfl ?_
        refine cs_X10_204 5 dX10_stops_2 rfl rfl rfl (Nat.le_of_ble_eq_true rfl) (wp_isFace rnf h5 (fun _ _ _ => ?_) (fun q => absurd q (jr_fcn hj (by omega))))
        refine jr_if_ne 11 8 dX10_stops_5 rfl rfl (fun q5 => ?_) (fun q => absurd q (by decide))
        refine jr_iload_n 2 12 dX10_stops_11 rfl rfl rfl ?_
        refine jr_iconst (nI 0) 13 dX10_stops_12 rfl rfl ?_
        refine jr_sipush (nI 319) 16 dX10_stops_13 rfl rfl ?_
        refine cs_X10_108 19 dX10_stops_16 rfl rfl (Nat.le_of_ble_eq_true rfl) (wp_inF (M := 319) (fun q => absurd q.2 (nI_ge (a := 319) (by omega) (by omega))) ?_)
        refine jr_if_eq 40 22 dX10_stops_19 rfl rfl (fun q19 => ?_) (fun q => absurd (by decide) q)
        refine jr_bipush ((-7)) 42 dX10_stops_40 rfl rfl ?_
        refine jr_ireturn dX10_stops_42 rfl rfl ?_
        exact ⟨rfl, IV_mov (iv_same_x (jr_eqx_rf [] _) (by decide)) h⟩

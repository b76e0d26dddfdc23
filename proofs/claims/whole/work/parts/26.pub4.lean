/-- WHO looks AT none, by the reference -/
def md_b (σ : jr_Sg) (a b : Int32) : jr_Sg := jr_up (jr_up σ 46 42 a) 46 43 b
theorem md_b_eqs (σ : jr_Sg) (a b : Int32) : jr_eqs [42, 43] σ (md_b σ a b) := eqs_tr (eqs_up _ _ (by decide)) (eqs_up _ _ (by decide))
theorem md_b_ag {σ σ' : jr_Sg} (h : jr_eqs [42, 43] σ σ') (a b : Int32) : jr_ag [47, 49, 50, 52, 70, 71] [39, 40, 41, 42, 43, 45, 46] (md_b σ a b) (md_b σ' a b) := by
  refine ⟨fun c hc => ?_, fun k hk => ?_⟩
  · have hc2 : c ∉ iv_RX ∧ c ≠ 46 := by revert c; decide
    have e : ∀ τ : jr_Sg, md_b τ a b c = τ c := fun τ => by unfold md_b jr_up; rw [if_neg hc2.2, if_neg hc2.2]
    rw [e, e]
    exact h.1 c hc2.1 hc2.2
  · have e : ∀ τ : jr_Sg, md_b τ a b 46 k = upd (upd (τ 46) 42 a) 43 b k := fun τ => rfl
    rw [e, e]
    unfold upd
    have h2 := h.2 k
    by_cases e1 : k = 43
    · rw [if_pos e1, if_pos e1]
    · rw [if_neg e1, if_neg e1]
      by_cases e2 : k = 42
      · rw [if_pos e2, if_pos e2]
      · rw [if_neg e2, if_neg e2]
        exact h2 (by simp; omega)
theorem cx_eqsb {σ σ' : jr_Sg} (g : jr_eqx iv_CX σ σ') (a b : Int32) : jr_eqx iv_CX (md_b σ a b) (md_b σ' a b) := jr_eqx_upb (jr_eqx_upb g (by decide)) (by decide)
theorem tr_fe_congr {W W' : Nat → Int32 × Int32} (h : ∀ t, t ≤ 40 → W' t = W t) : tr_fe W' = tr_fe W := lp_congr (fun i hi x => by rw [h (i + 1) (by omega)])
theorem sm_R_nb {T : Nat → Nat → List Nat} {lw nf nc f : Nat} {kd se : Nat → Nat} {σ σ' : jr_Sg} (hf : f < nf) (h5 : nf ≤ 5) (h : jr_eqs [42, 43] σ σ') (e1 : σ 46 42 = -1) (e2 : σ' 46 42 = -1) : ∀ t, t ≤ 40 → sm_R T lw nf nc kd se σ' f t = sm_R T lw nf nc kd se σ f t := by
  have hca : pr_ca σ' nc f = pr_ca σ nc f := by funext q; unfold pr_ca; rw [h.2 39 (by decide), h.2 40 (by decide), h.2 41 (by decide), h.2 45 (by decide), h.1 52 (by decide) (by decide), h.1 70 (by decide) (by decide)]
  have hdr : pr_dr σ' f = pr_dr σ f := by funext q; unfold pr_dr; rw [h.2 46 (by decide), h.1 71 (by decide) (by decide)]
  unfold sm_R
  rw [hca, hdr, h.2 39 (by decide), h.2 40 (by decide), h.2 41 (by decide), h.1 47 (by decide) (by decide), h.1 49 (by decide) (by decide), h.1 50 (by decide) (by decide)]
  exact sm_tr_congr hf (fun _ _ => rfl) (fun x hx => ⟨fun e => (jr_m1 (by omega) (Eq.symm (e.1.trans e2))).elim, fun e => (jr_m1 (by omega) (Eq.symm (e.1.trans e1))).elim⟩) (fun _ _ _ => Iff.rfl) (fun _ _ => rfl) (fun _ _ => rfl)
theorem wp_feltUnseen {G : jr_G} {d : Nat} {σ : jr_Sg} {k : Value → jr_Sg → Prop} {y : Nat} {T : Nat → Nat → List Nat} {n nf nc lw tp f : Nat} {kd se : Nat → Nat} {σ0 : jr_Sg} (h : iv T n nf nc kd se lw tp σ0) (hf : f < nf) (hC : jr_eqx iv_CX σ0 σ) (hk : ∀ σ' : jr_Sg, jr_eqx iv_CX σ0 σ' → k (.int (tr_fe (sm_R T lw nf nc kd se (md_b σ0 (nI y) (nI f)) f))) σ') : jr_M G (d + 5) mi_X9_feltUnseenBy [.ref 0, .int (nI f), .int (nI y)] σ (jr_k k) := by
  have hf5 : f < 5 := by have := h.2.2.1.2.1.2.1; omega
  have h5 : nf ≤ 5 := h.2.2.1.2.1.2.1
  obtain ⟨r39, r42, r45, -, r70⟩ := h.2.2.2.2.2.2.1
  obtain ⟨r70f, r71f⟩ := r70 f hf5
  refine jr_enter (L := [some (.ref 0), some (.int (nI f)), some (.int (nI y))]) (by decide) (Nat.le_of_ble_eq_true rfl) rfl ?_
  refine jr_aload_n 0 1 dX9_feltUnseenBy_0 rfl rfl rfl ?_
  refine gf_X9_28 4 dX9_feltUnseenBy_1 rfl rfl rfl rfl ?_
  refine cs_X9_249 7 dX9_feltUnseenBy_4 rfl rfl rfl (Nat.le_of_ble_eq_true rfl) (wp_clear ?_)
  refine jr_aload_n 0 8 dX9_feltUnseenBy_7 rfl rfl rfl ?_
  refine gf_X9_28 11 dX9_feltUnseenBy_8 rfl rfl rfl rfl ?_
  refine jr_iload_n 2 12 dX9_feltUnseenBy_11 rfl rfl rfl ?_
  refine jr_iload_n 1 13 dX9_feltUnseenBy_12 rfl rfl rfl ?_
  refine cs_X9_252 16 dX9_feltUnseenBy_13 rfl rfl rfl (Nat.le_of_ble_eq_true rfl) (wp_blind ?_)
  refine jr_aload_n 0 17 dX9_feltUnseenBy_16 rfl rfl rfl ?_
  refine gf_X9_37 20 dX9_feltUnseenBy_17 rfl rfl rfl rfl ?_
  refine jr_aload_n 0 21 dX9_feltUnseenBy_20 rfl rfl rfl ?_
  refine gf_X9_44 24 dX9_feltUnseenBy_21 rfl rfl rfl rfl ?_
  refine jr_iload_n 1 25 dX9_feltUnseenBy_24 rfl rfl rfl ?_
  refine jr_bipush (40) 27 dX9_feltUnseenBy_25 rfl rfl ?_
  refine cs_X9_308 30 dX9_feltUnseenBy_27 rfl rfl rfl (Nat.le_of_ble_eq_true rfl) (cplay_now (len := 40) (σR := md_b σ0 (nI y) (nI f)) h hf (by omega) (jr_eqx_tr hC (by repeat (first | exact jr_eqx_rf _ _ | refine jr_eqx_tr ?_ (jr_eqx_up _ _ _ (by decide))))) (par_now h hf (jr_eqx_tr hC (by repeat (first | exact jr_eqx_rf _ _ | refine jr_eqx_tr ?_ (jr_eqx_up _ _ _ (by decide))))) rfl rfl rfl rfl (fun x hx => ⟨fun e => ⟨e.1, Or.inr rfl⟩, fun e => ⟨e.1, Or.inr rfl⟩⟩) (fun w t n => ⟨fun e => (do_none (by omega) rfl e).elim, fun e => (do_none (by omega) r39 e).elim⟩) (fun t ht => (pu_if_f (fun e => jr_m1 (by omega) (Eq.symm e.1))).trans (Eq.symm (pu_z r70f))) (fun t ht => Eq.trans (pu_z rfl) (Eq.symm (pu_if_f (fun e => jr_m1 (by omega) (r71f.symm.trans e)))))) rfl rfl (fun σ' g1 g2 => ?_))
  refine jr_aload_n 0 31 dX9_feltUnseenBy_30 rfl rfl rfl ?_
  refine gf_X9_37 34 dX9_feltUnseenBy_31 rfl rfl rfl rfl ?_
  refine jr_iload_n 1 35 dX9_feltUnseenBy_34 rfl rfl rfl ?_
  refine cs_X9_240 38 dX9_feltUnseenBy_35 rfl rfl rfl (Nat.le_of_ble_eq_true rfl) (wp_felt hf5 ?_)
  rw [pd_fe g2]
  refine jr_ireturn dX9_feltUnseenBy_38 rfl rfl ?_
  exact hk σ' g1
theorem wp_addsBy {G : jr_G} {d : Nat} {σ : jr_Sg} {k : Value → jr_Sg → Prop} {T : Nat → Nat → List Nat} {n lw nf nc : Nat} {kd se : Nat → Nat} (hr : rr_ok T n nf nc kd se lw σ) {f : Nat} {y : Int32} (hf : f < nf) (hk : ∀ σ' : jr_Sg, jr_eqs [42, 43] σ σ' → σ' 46 42 = -1 → k (.int (tr_fe (sm_R T lw nf nc kd se σ f) - tr_fe (sm_R T lw nf nc kd se (md_b σ y (nI f)) f))) σ') : jr_M G (d + 7) mi_X10_addsBy [.ref 46, .int (nI f), .int y] σ (jr_k k) := by
  refine jr_enter (L := [some (.ref 46), some (.int (nI f)), some (.int y), none, none]) (by decide) (Nat.le_of_ble_eq_true rfl) rfl ?_
  refine jr_aload_n 0 1 dX10_addsBy_0 rfl rfl rfl ?_
  refine jr_iload_n 1 2 dX10_addsBy_1 rfl rfl rfl ?_
  refine jr_iconst (nI 4) 3 dX10_addsBy_2 rfl rfl ?_
  refine cs_X10_275 6 dX10_addsBy_3 rfl rfl rfl (Nat.le_of_ble_eq_true rfl) (wp_rrt (what := 4) hr hf (by omega) (fun σ1 g1 => ?_))
  refine jr_istore_n 3 (L' := [_, _, _, _, _]) 7 dX10_addsBy_6 rfl rfl (by decide) rfl ?_
  refine jr_aload_n 0 8 dX10_addsBy_7 rfl rfl rfl ?_
  refine jr_iload_n 2 9 dX10_addsBy_8 rfl rfl rfl ?_
  refine pf_X10_83 12 dX10_addsBy_9 rfl rfl rfl rfl ?_
  refine jr_aload_n 0 13 dX10_addsBy_12 rfl rfl rfl ?_
  refine jr_iload_n 1 14 dX10_addsBy_13 rfl rfl rfl ?_
  refine pf_X10_86 17 dX10_addsBy_14 rfl rfl rfl rfl ?_
  refine jr_aload_n 0 18 dX10_addsBy_17 rfl rfl rfl ?_
  refine jr_iload_n 1 19 dX10_addsBy_18 rfl rfl rfl ?_
  refine jr_iconst (nI 4) 20 dX10_addsBy_19 rfl rfl ?_
  refine cs_X10_275 23 dX10_addsBy_20 rfl rfl rfl (Nat.le_of_ble_eq_true rfl) (wp_rrt (what := 4) (rr_eqs hr (eqs_tr (eqs_rx g1) (md_b_eqs σ1 y (nI f))) (by decide)) hf (by omega) (fun σ2 g2 => ?_))
  have ew : sm_R T lw nf nc kd se (md_b σ1 y (nI f)) f = sm_R T lw nf nc kd se (md_b σ y (nI f)) f := sm_R_ag (md_b_ag (eqs_rx g1) _ _)
  refine jr_istore (L' := [_, _, _, _, _]) 25 dX10_addsBy_23 rfl (by decide) rfl ?_
  refine jr_aload_n 0 26 dX10_addsBy_25 rfl rfl rfl ?_
  refine jr_iconst ((-1)) 27 dX10_addsBy_26 rfl rfl ?_
  refine pf_X10_83 30 dX10_addsBy_27 rfl rfl rfl rfl ?_
  refine jr_iload_n 3 31 dX10_addsBy_30 rfl rfl rfl ?_
  refine jr_iload 33 dX10_addsBy_31 rfl rfl ?_
  refine jr_isub 34 dX10_addsBy_33 rfl ?_
  refine jr_ireturn dX10_addsBy_34 rfl rfl ?_
  have hq := hk (jr_up σ2 46 42 (-1)) (eqs_tr (eqs_tr (eqs_tr (eqs_rx g1) (md_b_eqs σ1 y (nI f))) (eqs_rx g2)) (eqs_up _ _ (by decide))) rfl
  rw [← ew] at hq
  exact hq
theorem pp_adds {G : jr_G} {d : Nat} {σ : jr_Sg} {f b : Int32} (h : IV σ) : jr_pair G (d + 20) mi_X9_adds mi_X10_adds [.int f, .int b] σ := by
  obtain ⟨T, n, nf, nc, kd, se, lw, tp, h⟩ := h
  have hh := h
  obtain ⟨hTC, hTR, ⟨hsc, hsr, hl1, hl2, hlw, hfc, hli, hca⟩, htp, himg, hsh, hrest, hwd⟩ := hh
  have hnf := hsc.1
  have h5 := hsc.2.1
  have hnc := hsc.2.2.1
  have h8 := hsc.2.2.2.1
  have rnf := hsr.1
  have rnc := hsr.2.2.1
  have hlm := hrest.2.2.2.1
  unfold jr_pair
  rcases jr_fc f h5 with hf | ⟨j, hj, rfl⟩
  · refine jr_enter (L := [some (.ref 0), some (.int f), some (.int b)]) (by decide) (Nat.le_of_ble_eq_true rfl) rfl ?_
    refine jr_aload_n 0 1 dX9_adds_0 rfl rfl rfl ?_
    refine gf_X9_44 4 dX9_adds_1 rfl rfl rfl rfl ?_
    refine jr_iload_n 1 5 dX9_adds_4 rfl rfl rfl ?_
    refine cs_X9_146 8 dX9_adds_5 rfl rfl rfl (Nat.le_of_ble_eq_true rfl) (wp_has_15 hnf h5 (fun j hj e => absurd hf (by rw [e]; exact jr_fcn hj (by omega))) (fun _ => ?_))
    refine jr_if_eq 27 11 dX9_adds_8 rfl rfl (fun q8 => ?_) (fun q => absurd (by decide) q)
    refine jr_ldc kc_X9_239 29 dX9_adds_27 rfl ?_
    refine jr_ireturn dX9_adds_29 rfl rfl ?_
    refine jr_enter (L := [some (.ref 46), some (.int f), some (.int b)]) (by decide) (Nat.le_of_ble_eq_true rfl) rfl ?_
    refine jr_aload_n 0 1 dX10_adds_0 rfl rfl rfl ?_
    refine jr_iload_n 1 2 dX10_adds_1 rfl rfl rfl ?_
    refine cs_X10_204 5 dX10_adds_2 rfl rfl rfl (Nat.le_of_ble_eq_true rfl) (wp_isFace rnf h5 (fun j hj e => absurd hf (by rw [e]; exact jr_fcn hj (by omega))) (fun _ => ?_))
    refine jr_if_eq 30 8 dX10_adds_5 rfl rfl (fun q5 => ?_) (fun q => absurd (by decide) q)
    refine jr_ldcw kc_X10_294 33 dX10_adds_30 rfl ?_
    refine jr_ireturn dX10_adds_33 rfl rfl ?_
    exact ⟨rfl, IV_mov (iv_same_x (jr_eqx_rf [] _) (by decide)) h⟩
  · rcases jr_fc b h5 with hb | ⟨i, hi, rfl⟩
    · refine jr_enter (L := [some (.ref 0), some (.int (nI j)), some (.int b)]) (by decide) (Nat.le_of_ble_eq_true rfl) rfl ?_
      refine jr_aload_n 0 1 dX9_adds_0 rfl rfl rfl ?_
      refine gf_X9_44 4 dX9_adds_1 rfl rfl rfl rfl ?_
      refine jr_iload_n 1 5 dX9_adds_4 rfl rfl rfl ?_
      refine cs_X9_146 8 dX9_adds_5 rfl rfl rfl (Nat.le_of_ble_eq_true rfl) (wp_hasT_15 hnf h5 hj ?_)
      refine jr_if_eq 27 11 dX9_adds_8 rfl rfl (fun q => absurd q (by decide)) (fun q8 => ?_)
      refine jr_aload_n 0 12 dX9_adds_11 rfl rfl rfl ?_
      refine gf_X9_44 15 dX9_adds_12 rfl rfl rfl rfl ?_
      refine jr_iload_n 2 16 dX9_adds_15 rfl rfl rfl ?_
      refine cs_X9_146 19 dX9_adds_16 rfl rfl rfl (Nat.le_of_ble_eq_true rfl) (wp_has_15 hnf h5 (fun j hj e => absurd hb (by rw [e]; exact jr_fcn hj (by omega))) (fun _ => ?_))
      refine jr_if_eq 27 22 dX9_adds_19 rfl rfl (fun q19 => ?_) (fun q => absurd (by decide) q)
      refine jr_ldc kc_X9_239 29 dX9_adds_27 rfl ?_
      refine jr_ireturn dX9_adds_29 rfl rfl ?_
      refine jr_enter (L := [some (.ref 46), some (.int (nI j)), some (.int b)]) (by decide) (Nat.le_of_ble_eq_true rfl) rfl ?_
      refine jr_aload_n 0 1 dX10_adds_0 rfl rfl rfl ?_
      refine jr_iload_n 1 2 dX10_adds_1 rfl rfl rfl ?_
      refine cs_X10_204 5 dX10_adds_2 rfl rfl rfl (Nat.le_of_ble_eq_true rfl) (wp_isFace rnf h5 (fun _ _ _ => ?_) (fun q => absurd q (jr_fcn hj (by omega))))
      refine jr_if_eq 30 8 dX10_adds_5 rfl rfl (fun q => absurd q (by decide)) (fun q5 => ?_)
      refine jr_aload_n 0 9 dX10_adds_8 rfl rfl rfl ?_
      refine jr_iload_n 2 10 dX10_adds_9 rfl rfl rfl ?_
      refine cs_X10_204 13 dX10_adds_10 rfl rfl rfl (Nat.le_of_ble_eq_true rfl) (wp_isFace rnf h5 (fun j hj e => absurd hb (by rw [e]; exact jr_fcn hj (by omega))) (fun _ => ?_))
      refine jr_if_eq 30 16 dX10_adds_13 rfl rfl (fun q13 => ?_) (fun q => absurd (by decide) q)
      refine jr_ldcw kc_X10_294 33 dX10_adds_30 rfl ?_
      refine jr_ireturn dX10_adds_33 rfl rfl ?_
      exact ⟨rfl, IV_mov (iv_same_x (jr_eqx_rf [] _) (by decide)) h⟩
    · by_cases e : j = i
      · subst e
        refine jr_enter (L := [some (.ref 0), some (.int (nI j)), some (.int (nI j))]) (by decide) (Nat.le_of_ble_eq_true rfl) rfl ?_
        refine jr_aload_n 0 1 dX9_adds_0 rfl rfl rfl ?_
        refine gf_X9_44 4 dX9_adds_1 rfl rfl rfl rfl ?_
        refine jr_iload_n 1 5 dX9_adds_4 rfl rfl rfl ?_
        refine cs_X9_146 8 dX9_adds_5 rfl rfl rfl (Nat.le_of_ble_eq_true rfl) (wp_hasT_15 hnf h5 hj ?_)
        refine jr_if_eq 27 11 dX9_adds_8 rfl rfl (fun q => absurd q (by decide)) (fun q8 => ?_)
        refine jr_aload_n 0 12 dX9_adds_11 rfl rfl rfl ?_
        refine gf_X9_44 15 dX9_adds_12 rfl rfl rfl rfl ?_
        refine jr_iload_n 2 16 dX9_adds_15 rfl rfl rfl ?_
        refine cs_X9_146 19 dX9_adds_16 rfl rfl rfl (Nat.le_of_ble_eq_true rfl) (wp_hasT_15 hnf h5 hi ?_)
        refine jr_if_eq 27 22 dX9_adds_19 rfl rfl (fun q => absurd q (by decide)) (fun q19 => ?_)
        refine jr_iload_n 1 23 dX9_adds_22 rfl rfl rfl ?_
        refine jr_iload_n 2 24 dX9_adds_23 rfl rfl rfl ?_
        refine jr_icmp_ne 30 27 dX9_adds_24 rfl rfl (fun q => absurd rfl q) (fun q24 => ?_)
        refine jr_ldc kc_X9_239 29 dX9_adds_27 rfl ?_
        refine jr_ireturn dX9_adds_29 rfl rfl ?_
        refine jr_enter (L := [some (.ref 46), some (.int (nI j)), some (.int (nI j))]) (by decide) (Nat.le_of_ble_eq_true rfl) rfl ?_
        refine jr_aload_n 0 1 dX10_adds_0 rfl rfl rfl ?_
        refine jr_iload_n 1 2 dX10_adds_1 rfl rfl rfl ?_
        refine cs_X10_204 5 dX10_adds_2 rfl rfl rfl (Nat.le_of_ble_eq_true rfl) (wp_isFace rnf h5 (fun _ _ _ => ?_) (fun q => absurd q (jr_fcn hj (by omega))))
        refine jr_if_eq 30 8 dX10_adds_5 rfl rfl (fun q => absurd q (by decide)) (fun q5 => ?_)
        refine jr_aload_n 0 9 dX10_adds_8 rfl rfl rfl ?_
        refine jr_iload_n 2 10 dX10_adds_9 rfl rfl rfl ?_
        refine cs_X10_204 13 dX10_adds_10 rfl rfl rfl (Nat.le_of_ble_eq_true rfl) (wp_isFace rnf h5 (fun _ _ _ => ?_) (fun q => absurd q (jr_fcn hi (by omega))))
        refine jr_if_eq 30 16 dX10_adds_13 rfl rfl (fun q => absurd q (by decide)) (fun q13 => ?_)
        refine jr_iload_n 1 17 dX10_adds_16 rfl rfl rfl ?_
        refine jr_iload_n 2 18 dX10_adds_17 rfl rfl rfl ?_
        refine jr_icmp_eq 30 21 dX10_adds_18 rfl rfl (fun q18 => ?_) (fun q => absurd rfl q)
        refine jr_ldcw kc_X10_294 33 dX10_adds_30 rfl ?_
        refine jr_ireturn dX10_adds_33 rfl rfl ?_
        exact ⟨rfl, IV_mov (iv_same_x (jr_eqx_rf [] _) (by decide)) h⟩
      · refine jr_enter (L := [some (.ref 0), some (.int (nI j)), some (.int (nI i))]) (by decide) (Nat.le_of_ble_eq_true rfl) rfl ?_
        refine jr_aload_n 0 1 dX9_adds_0 rfl rfl rfl ?_
        refine gf_X9_44 4 dX9_adds_1 rfl rfl rfl rfl ?_
        refine jr_iload_n 1 5 dX9_adds_4 rfl rfl rfl ?_
        refine cs_X9_146 8 dX9_adds_5 rfl rfl rfl (Nat.le_of_ble_eq_true rfl) (wp_hasT_15 hnf h5 hj ?_)
        refine jr_if_eq 27 11 dX9_adds_8 rfl rfl (fun q => absurd q (by decide)) (fun q8 => ?_)
        refine jr_aload_n 0 12 dX9_adds_11 rfl rfl rfl ?_
        refine gf_X9_44 15 dX9_adds_12 rfl rfl rfl rfl ?_
        refine jr_iload_n 2 16 dX9_adds_15 rfl rfl rfl ?_
        refine cs_X9_146 19 dX9_adds_16 rfl rfl rfl (Nat.le_of_ble_eq_true rfl) (wp_hasT_15 hnf h5 hi ?_)
        refine jr_if_eq 27 22 dX9_adds_19 rfl rfl (fun q => absurd q (by decide)) (fun q19 => ?_)
        refine jr_iload_n 1 23 dX9_adds_22 rfl rfl rfl ?_
        refine jr_iload_n 2 24 dX9_adds_23 rfl rfl rfl ?_
        refine jr_icmp_ne 30 27 dX9_adds_24 rfl rfl (fun q24 => ?_) (fun q => absurd (nI_inj (by omega) (by omega) q) e)
        refine jr_aload_n 0 31 dX9_adds_30 rfl rfl rfl ?_
        refine jr_iload_n 1 32 dX9_adds_31 rfl rfl rfl ?_
        refine jr_bipush (nI 40) 34 dX9_adds_32 rfl rfl ?_
        refine cs_X9_189 37 dX9_adds_34 rfl rfl rfl (Nat.le_of_ble_eq_true rfl) (wp_playNow (len := 40) (by omega) h hj (jr_eqx_rf _ _) (fun σ1 g1 g2 => ?_))
        refine jr_aload_n 0 38 dX9_adds_37 rfl rfl rfl ?_
        refine gf_X9_37 41 dX9_adds_38 rfl rfl rfl rfl ?_
        refine jr_iload_n 1 42 dX9_adds_41 rfl rfl rfl ?_
        refine cs_X9_240 45 dX9_adds_42 rfl rfl rfl (Nat.le_of_ble_eq_true rfl) (wp_felt (by omega) ?_)
        rw [pd_fe g2]
        refine jr_aload_n 0 46 dX9_adds_45 rfl rfl rfl ?_
        refine jr_iload_n 1 47 dX9_adds_46 rfl rfl rfl ?_
        refine jr_iload_n 2 48 dX9_adds_47 rfl rfl rfl ?_
        refine cs_X9_243 51 dX9_adds_48 rfl rfl rfl (Nat.le_of_ble_eq_true rfl) (wp_feltUnseen (y := i) h hj g1 (fun σ2 g3 => ?_))
        refine jr_isub 52 dX9_adds_51 rfl ?_
        refine jr_ireturn dX9_adds_52 rfl rfl ?_
        refine jr_enter (L := [some (.ref 46), some (.int (nI j)), some (.int (nI i))]) (by decide) (Nat.le_of_ble_eq_true rfl) rfl ?_
        have h1 := iv_mov (iv_cx g3) h
        have r1 := rr_of h1
        refine jr_aload_n 0 1 dX10_adds_0 rfl rfl rfl ?_
        refine jr_iload_n 1 2 dX10_adds_1 rfl rfl rfl ?_
        refine cs_X10_204 5 dX10_adds_2 rfl rfl rfl (Nat.le_of_ble_eq_true rfl) (wp_isFace r1.1.1 h5 (fun _ _ _ => ?_) (fun q => absurd q (jr_fcn hj (by omega))))
        refine jr_if_eq 30 8 dX10_adds_5 rfl rfl (fun q => absurd q (by decide)) (fun q5 => ?_)
        refine jr_aload_n 0 9 dX10_adds_8 rfl rfl rfl ?_
        refine jr_iload_n 2 10 dX10_adds_9 rfl rfl rfl ?_
        refine cs_X10_204 13 dX10_adds_10 rfl rfl rfl (Nat.le_of_ble_eq_true rfl) (wp_isFace r1.1.1 h5 (fun _ _ _ => ?_) (fun q => absurd q (jr_fcn hi (by omega))))
        refine jr_if_eq 30 16 dX10_adds_13 rfl rfl (fun q => absurd q (by decide)) (fun q13 => ?_)
        refine jr_iload_n 1 17 dX10_adds_16 rfl rfl rfl ?_
        refine jr_iload_n 2 18 dX10_adds_17 rfl rfl rfl ?_
        refine jr_icmp_eq 30 21 dX10_adds_18 rfl rfl (fun q => absurd (nI_inj (by omega) (by omega) q) e) (fun q18 => ?_)
        refine jr_aload_n 0 22 dX10_adds_21 rfl rfl rfl ?_
        refine jr_iload_n 1 23 dX10_adds_22 rfl rfl rfl ?_
        refine jr_iload_n 2 24 dX10_adds_23 rfl rfl rfl ?_
        refine cs_X10_291 27 dX10_adds_24 rfl rfl rfl (Nat.le_of_ble_eq_true rfl) (wp_addsBy r1 hj (fun σ4 g4 g5 => ?_))
        refine jr_goto 33 dX10_adds_27 rfl ?_
        refine jr_ireturn dX10_adds_33 rfl rfl ?_
        exact ⟨congrArg Value.int (by rw [sm_R_of g3, sm_R_of (cx_eqsb g3 _ _)]), IV_mov (iv_same_tr (iv_cx g3) (iv_eqs (FX := [42, 43]) g4 (fun k hk hk2 => by
            rcases (by simpa using hk : k = 42 ∨ k = 43) with rfl | rfl
            · exact g5.trans h1.2.2.2.2.2.2.1.2.1.symm
            · exact absurd hk2 (by decide)))) h⟩
/-- the first most of A, f left out -/
def tn (f : Nat) (A : Nat → Int32) : Nat → Int32 × Int32
  | 0 => (-1, 0)
  | n + 1 => if n = f then tn f A n else if (tn f A n).1 = -1 ∨ (tn f A n).2 < A n then (nI n, A n) else tn f A n
theorem tn_s {f j : Nat} {A : Nat → Int32} {x y : Int32} (e : (x, y) = tn f A j) (h : j = f) : (x, y) = tn f A (j + 1) := by rw [tn, if_pos h, e]
theorem tn_t {f j : Nat} {A : Nat → Int32} {x y : Int32} (e : (x, y) = tn f A j) (h : ¬ j = f) (h2 : x = -1 ∨ y < A j) : (nI j, A j) = tn f A (j + 1) := by rw [tn, if_neg h, ← e, if_pos h2]
theorem tn_k {f j : Nat} {A : Nat → Int32} {x y : Int32} (e : (x, y) = tn f A j) (h : ¬ j = f) (h2 : ¬ x = -1) (h3 : ¬ y < A j) : (x, y) = tn f A (j + 1) := by rw [tn, if_neg h, ← e, if_neg (fun q => q.elim h2 h3)]
noncomputable def ad_A (T : Nat → Nat → List Nat) (lw nf nc : Nat) (kd se : Nat → Nat) (σ : jr_Sg) (f i : Nat) : Int32 := tr_fe (sm_R T lw nf nc kd se σ f) - tr_fe (sm_R T lw nf nc kd se (md_b σ (nI i) (nI f)) f)
theorem turn_x {G : jr_G} {d : Nat} {σ : jr_Sg} {k : Value → jr_Sg → Prop} {T : Nat → Nat → List Nat} {n nf nc lw tp j : Nat} {kd se : Nat → Nat} {c2 : Int32} (h : iv T n nf nc kd se lw tp σ) (hj : j < nf) (fin : ∀ (σ1 : jr_Sg) (x y : Int32) (x6 x7 : Option Value), (x, y) = tn j (ad_A T lw nf nc kd se σ j) nf → jr_eqx iv_CX σ σ1 → jr_R G (d + 19) mi_X9_turn (jr_k k) 103 [some (.ref 0), some (.int (nI j)), some (.int c2), some (.int (tr_fe (sm_R T lw nf nc kd se σ j))), some (.int x), some (.int y), x6, x7] [] σ1) : ∀ (m i : Nat) (σ1 : jr_Sg) (x y : Int32) (x7 : Option Value), i + m = nf → (x, y) = tn j (ad_A T lw nf nc kd se σ j) i → jr_eqx iv_CX σ σ1 → jr_R G (d + 19) mi_X9_turn (jr_k k) 47 [some (.ref 0), some (.int (nI j)), some (.int c2), some (.int (tr_fe (sm_R T lw nf nc kd se σ j))), some (.int x), some (.int y), some (.int (nI i)), x7] [] σ1 := by
  have h5 : nf ≤ 5 := h.2.2.1.2.1.2.1
  intro m
  induction m with
  | zero =>
    intro i σ1 x y x7 hi e g
    have ei : i = nf := hi
    subst ei
    have hnf1 : σ1 15 8 = nI i := by rw [g 15 (by decide)]; exact h.2.2.1.1.1
    refine jr_iload 49 dX9_turn_47 rfl rfl ?_
    refine jr_aload_n 0 50 dX9_turn_49 rfl rfl rfl ?_
    refine gf_X9_44 53 dX9_turn_50 rfl rfl rfl rfl ?_
    refine gf_X9_84 56 dX9_turn_53 rfl rfl rfl rfl ?_
    rw [hnf1]
    refine jr_icmp_ge 103 59 dX9_turn_56 rfl rfl (fun q56 => ?_) (fun z => absurd (Int32.le_refl _) z)
    exact fin σ1 _ _ _ _ e g
  | succ m ih =>
    intro i σ1 x y x7 hi e g
    have hnf1 : σ1 15 8 = nI nf := by rw [g 15 (by decide)]; exact h.2.2.1.1.1
    by_cases hij : i = j
    · refine jr_iload 49 dX9_turn_47 rfl rfl ?_
      refine jr_aload_n 0 50 dX9_turn_49 rfl rfl rfl ?_
      refine gf_X9_44 53 dX9_turn_50 rfl rfl rfl rfl ?_
      refine gf_X9_84 56 dX9_turn_53 rfl rfl rfl rfl ?_
      rw [hnf1]
      refine jr_icmp_ge 103 59 dX9_turn_56 rfl rfl (fun z => absurd z (nI_ge (by omega) (by omega))) (fun q56 => ?_)
      refine jr_iload 61 dX9_turn_59 rfl rfl ?_
      refine jr_iload_n 1 62 dX9_turn_61 rfl rfl rfl ?_
      refine jr_icmp_eq 97 65 dX9_turn_62 rfl rfl (fun q62 => ?_) (fun z => absurd (by rw [hij]) z)
      refine jr_iinc (v := nI (i + 1)) (L' := [_, _, _, _, _, _, _, _]) 100 dX9_turn_97 rfl rfl (nI_1 i) (by decide) rfl ?_
      refine jr_goto 47 dX9_turn_100 rfl ?_
      exact ih (i + 1) σ1 _ _ _ (by omega) (tn_s e hij) g
    · refine jr_iload 49 dX9_turn_47 rfl rfl ?_
      refine jr_aload_n 0 50 dX9_turn_49 rfl rfl rfl ?_
      refine gf_X9_44 53 dX9_turn_50 rfl rfl rfl rfl ?_
      refine gf_X9_84 56 dX9_turn_53 rfl rfl rfl rfl ?_
      rw [hnf1]
      refine jr_icmp_ge 103 59 dX9_turn_56 rfl rfl (fun z => absurd z (nI_ge (by omega) (by omega))) (fun q56 => ?_)
      refine jr_iload 61 dX9_turn_59 rfl rfl ?_
      refine jr_iload_n 1 62 dX9_turn_61 rfl rfl rfl ?_
      refine jr_icmp_eq 97 65 dX9_turn_62 rfl rfl (fun z => absurd (nI_inj (by omega) (by omega) z) hij) (fun q62 => ?_)
      refine jr_iload_n 3 66 dX9_turn_65 rfl rfl rfl ?_
      refine jr_aload_n 0 67 dX9_turn_66 rfl rfl rfl ?_
      refine jr_iload_n 1 68 dX9_turn_67 rfl rfl rfl ?_
      refine jr_iload 70 dX9_turn_68 rfl rfl ?_
      refine cs_X9_243 73 dX9_turn_70 rfl rfl rfl (Nat.le_of_ble_eq_true rfl) (wp_feltUnseen (y := i) h hj g (fun σ2 g2 => ?_))
      refine jr_isub 74 dX9_turn_73 rfl ?_
      refine jr_istore (L' := [_, _, _, _, _, _, _, _]) 76 dX9_turn_74 rfl (by decide) rfl ?_
      refine jr_iload 78 dX9_turn_76 rfl rfl ?_
      refine jr_iconst ((-1)) 79 dX9_turn_78 rfl rfl ?_
      refine jr_icmp_eq 89 82 dX9_turn_79 rfl rfl (fun q79 => ?_) (fun q79 => ?_)
      · refine jr_iload 91 dX9_turn_89 rfl rfl ?_
        refine jr_istore (L' := [_, _, _, _, _, _, _, _]) 93 dX9_turn_91 rfl (by decide) rfl ?_
        refine jr_iload 95 dX9_turn_93 rfl rfl ?_
        refine jr_istore (L' := [_, _, _, _, _, _, _, _]) 97 dX9_turn_95 rfl (by decide) rfl ?_
        refine jr_iinc (v := nI (i + 1)) (L' := [_, _, _, _, _, _, _, _]) 100 dX9_turn_97 rfl rfl (nI_1 i) (by decide) rfl ?_
        refine jr_goto 47 dX9_turn_100 rfl ?_
        exact ih (i + 1) σ2 _ _ _ (by omega) (tn_t (A := (ad_A T lw nf nc kd se σ j)) e hij (Or.inl q79)) g2
      · refine jr_iload 84 dX9_turn_82 rfl rfl ?_
        refine jr_iload 86 dX9_turn_84 rfl rfl ?_
        refine jr_icmp_le 97 89 dX9_turn_86 rfl rfl (fun q86 => ?_) (fun q86 => ?_)
        · refine jr_iinc (v := nI (i + 1)) (L' := [_, _, _, _, _, _, _, _]) 100 dX9_turn_97 rfl rfl (nI_1 i) (by decide) rfl ?_
          refine jr_goto 47 dX9_turn_100 rfl ?_
          exact ih (i + 1) σ2 _ _ _ (by omega) (tn_k (A := (ad_A T lw nf nc kd se σ j)) e hij q79 (Int32.not_lt.mpr q86)) g2
        · refine jr_iload 91 dX9_turn_89 rfl rfl ?_
          refine jr_istore (L' := [_, _, _, _, _, _, _, _]) 93 dX9_turn_91 rfl (by decide) rfl ?_
          refine jr_iload 95 dX9_turn_93 rfl rfl ?_
          refine jr_istore (L' := [_, _, _, _, _, _, _, _]) 97 dX9_turn_95 rfl (by decide) rfl ?_
          refine jr_iinc (v := nI (i + 1)) (L' := [_, _, _, _, _, _, _, _]) 100 dX9_turn_97 rfl rfl (nI_1 i) (by decide) rfl ?_
          refine jr_goto 47 dX9_turn_100 rfl ?_
          exact ih (i + 1) σ2 _ _ _ (by omega) (tn_t (A := (ad_A T lw nf nc kd se σ j)) e hij (Or.inr (Int32.not_le.mp q86))) g2
theorem turn_r {G : jr_G} {d : Nat} {σ : jr_Sg} {k : Value → jr_Sg → Prop} {T : Nat → Nat → List Nat} {n nf nc lw tp j : Nat} {kd se : Nat → Nat} {c2 : Int32} (h : iv T n nf nc kd se lw tp σ) (hj : j < nf) {σ1 : jr_Sg} (g1 : jr_eqx iv_CX σ σ1) (fin : ∀ (σ2 : jr_Sg) (x y : Int32) (x5 x6 x7 : Option Value), (x, y) = tn j (ad_A T lw nf nc kd se σ j) nf → jr_eqs [42, 43] σ1 σ2 → σ2 46 42 = -1 → jr_R G (d + 20) mi_X10_turn (jr_k k) 104 [some (.ref 46), some (.int (nI j)), some (.int c2), some (.int x), some (.int y), x5, x6, x7] [] σ2) : ∀ (m i : Nat) (σ2 : jr_Sg) (x y : Int32) (x6 x7 : Option Value), i + m = nf → (x, y) = tn j (ad_A T lw nf nc kd se σ j) i → jr_eqs [42, 43] σ1 σ2 → σ2 46 42 = -1 → jr_R G (d + 20) mi_X10_turn (jr_k k) 29 [some (.ref 46), some (.int (nI j)), some (.int c2), some (.int x), some (.int y), some (.int (nI i)), x6, x7] [] σ2 := by
  have h1 := iv_mov (iv_cx g1) h
  have r1 := rr_of h1
  have h42 : σ1 46 42 = -1 := h1.2.2.2.2.2.2.1.2.1
  have h5 : nf ≤ 5 := r1.1.2.1
  intro m
  induction m with
  | zero =>
    intro i σ2 x y x6 x7 hi e g g42
    have ei : i = nf := hi
    subst ei
    have hnf1 : σ2 46 1 = nI i := by rw [g.2 1 (by decide)]; exact r1.1.1
    refine jr_iload 31 dX10_turn_29 rfl rfl ?_
    refine jr_aload_n 0 32 dX10_turn_31 rfl rfl rfl ?_
    refine gf_X10_105 35 dX10_turn_32 rfl rfl rfl rfl ?_
    rw [hnf1]
    refine jr_icmp_ge 104 38 dX10_turn_35 rfl rfl (fun q35 => ?_) (fun z => absurd (Int32.le_refl _) z)
    exact fin σ2 _ _ _ _ _ e g g42
  | succ m ih =>
    intro i σ2 x y x6 x7 hi e g g42
    have hnf1 : σ2 46 1 = nI nf := by rw [g.2 1 (by decide)]; exact r1.1.1
    have r2 := rr_eqs r1 g (by decide)
    have eA : tr_fe (sm_R T lw nf nc kd se σ2 j) - tr_fe (sm_R T lw nf nc kd se (md_b σ2 (nI i) (nI j)) j) = ad_A T lw nf nc kd se σ j i := by
      unfold ad_A
      rw [tr_fe_congr (sm_R_nb hj h5 g h42 g42), sm_R_of g1, sm_R_ag (md_b_ag g _ _), sm_R_of (cx_eqsb g1 _ _)]
    by_cases hij : i = j
    · refine jr_iload 31 dX10_turn_29 rfl rfl ?_
      refine jr_aload_n 0 32 dX10_turn_31 rfl rfl rfl ?_
      refine gf_X10_105 35 dX10_turn_32 rfl rfl rfl rfl ?_
      rw [hnf1]
      refine jr_icmp_ge 104 38 dX10_turn_35 rfl rfl (fun z => absurd z (nI_ge (by omega) (by omega))) (fun q35 => ?_)
      refine jr_iload 40 dX10_turn_38 rfl rfl ?_
      refine jr_iload_n 1 41 dX10_turn_40 rfl rfl rfl ?_
      refine jr_icmp_eq 98 44 dX10_turn_41 rfl rfl (fun q41 => ?_) (fun z => absurd (by rw [hij]) z)
      refine jr_iinc (v := nI (i + 1)) (L' := [_, _, _, _, _, _, _, _]) 101 dX10_turn_98 rfl rfl (nI_1 i) (by decide) rfl ?_
      refine jr_goto 29 dX10_turn_101 rfl ?_
      exact ih (i + 1) σ2 _ _ _ _ (by omega) (tn_s e hij) g g42
    · refine jr_iload 31 dX10_turn_29 rfl rfl ?_
      refine jr_aload_n 0 32 dX10_turn_31 rfl rfl rfl ?_
      refine gf_X10_105 35 dX10_turn_32 rfl rfl rfl rfl ?_
      rw [hnf1]
      refine jr_icmp_ge 104 38 dX10_turn_35 rfl rfl (fun z => absurd z (nI_ge (by omega) (by omega))) (fun q35 => ?_)
      refine jr_iload 40 dX10_turn_38 rfl rfl ?_
      refine jr_iload_n 1 41 dX10_turn_40 rfl rfl rfl ?_
      refine jr_icmp_eq 98 44 dX10_turn_41 rfl rfl (fun z => absurd (nI_inj (by omega) (by omega) z) hij) (fun q41 => ?_)
      refine jr_aload_n 0 45 dX10_turn_44 rfl rfl rfl ?_
      refine jr_iload_n 1 46 dX10_turn_45 rfl rfl rfl ?_
      refine jr_iload 48 dX10_turn_46 rfl rfl ?_
      refine cs_X10_291 51 dX10_turn_48 rfl rfl rfl (Nat.le_of_ble_eq_true rfl) (wp_addsBy r2 hj (fun σ3 g3 g4 => ?_))
      rw [eA]
      refine jr_istore (L' := [_, _, _, _, _, _, _, _]) 53 dX10_turn_51 rfl (by decide) rfl ?_
      refine jr_iload_n 3 54 dX10_turn_53 rfl rfl rfl ?_
      refine jr_iconst ((-1)) 55 dX10_turn_54 rfl rfl ?_
      refine jr_icmp_eq 65 58 dX10_turn_55 rfl rfl (fun q55 => ?_) (fun q55 => ?_)
      · refine jr_iconst (1) 66 dX10_turn_65 rfl rfl ?_
        refine jr_goto 70 dX10_turn_66 rfl ?_
        refine jr_istore (L' := [_, _, _, _, _, _, _, _]) 72 dX10_turn_70 rfl (by decide) rfl ?_
        refine jr_iload 74 dX10_turn_72 rfl rfl ?_
        refine jr_if_eq 82 77 dX10_turn_74 rfl rfl (fun q => absurd q (by decide)) (fun q74 => ?_)
        refine jr_iload 79 dX10_turn_77 rfl rfl ?_
        refine jr_goto 83 dX10_turn_79 rfl ?_
        refine jr_istore_n 3 (L' := [_, _, _, _, _, _, _, _]) 84 dX10_turn_83 rfl rfl (by decide) rfl ?_
        refine jr_iload 86 dX10_turn_84 rfl rfl ?_
        refine jr_if_eq 94 89 dX10_turn_86 rfl rfl (fun q => absurd q (by decide)) (fun q86 => ?_)
        refine jr_iload 91 dX10_turn_89 rfl rfl ?_
        refine jr_goto 96 dX10_turn_91 rfl ?_
        refine jr_istore (L' := [_, _, _, _, _, _, _, _]) 98 dX10_turn_96 rfl (by decide) rfl ?_
        refine jr_iinc (v := nI (i + 1)) (L' := [_, _, _, _, _, _, _, _]) 101 dX10_turn_98 rfl rfl (nI_1 i) (by decide) rfl ?_
        refine jr_goto 29 dX10_turn_101 rfl ?_
        exact ih (i + 1) σ3 _ _ _ _ (by omega) (tn_t (A := (ad_A T lw nf nc kd se σ j)) e hij (Or.inl q55)) (eqs_tr g g3) g4
      · refine jr_iload 60 dX10_turn_58 rfl rfl ?_
        refine jr_iload 62 dX10_turn_60 rfl rfl ?_
        refine jr_icmp_le 69 65 dX10_turn_62 rfl rfl (fun q62 => ?_) (fun q62 => ?_)
        · refine jr_iconst (0) 70 dX10_turn_69 rfl rfl ?_
          refine jr_istore (L' := [_, _, _, _, _, _, _, _]) 72 dX10_turn_70 rfl (by decide) rfl ?_
          refine jr_iload 74 dX10_turn_72 rfl rfl ?_
          refine jr_if_eq 82 77 dX10_turn_74 rfl rfl (fun q74 => ?_) (fun q => absurd (by decide) q)
          refine jr_iload_n 3 83 dX10_turn_82 rfl rfl rfl ?_
          refine jr_istore_n 3 (L' := [_, _, _, _, _, _, _, _]) 84 dX10_turn_83 rfl rfl (by decide) rfl ?_
          refine jr_iload 86 dX10_turn_84 rfl rfl ?_
          refine jr_if_eq 94 89 dX10_turn_86 rfl rfl (fun q86 => ?_) (fun q => absurd (by decide) q)
          refine jr_iload 96 dX10_turn_94 rfl rfl ?_
          refine jr_istore (L' := [_, _, _, _, _, _, _, _]) 98 dX10_turn_96 rfl (by decide) rfl ?_
          refine jr_iinc (v := nI (i + 1)) (L' := [_, _, _, _, _, _, _, _]) 101 dX10_turn_98 rfl rfl (nI_1 i) (by decide) rfl ?_
          refine jr_goto 29 dX10_turn_101 rfl ?_
          exact ih (i + 1) σ3 _ _ _ _ (by omega) (tn_k (A := (ad_A T lw nf nc kd se σ j)) e hij q55 (Int32.not_lt.mpr q62)) (eqs_tr g g3) g4
        · refine jr_iconst (1) 66 dX10_turn_65 rfl rfl ?_
          refine jr_goto 70 dX10_turn_66 rfl ?_
          refine jr_istore (L' := [_, _, _, _, _, _, _, _]) 72 dX10_turn_70 rfl (by decide) rfl ?_
          refine jr_iload 74 dX10_turn_72 rfl rfl ?_
          refine jr_if_eq 82 77 dX10_turn_74 rfl rfl (fun q => absurd q (by decide)) (fun q74 => ?_)
          refine jr_iload 79 dX10_turn_77 rfl rfl ?_
          refine jr_goto 83 dX10_turn_79 rfl ?_
          refine jr_istore_n 3 (L' := [_, _, _, _, _, _, _, _]) 84 dX10_turn_83 rfl rfl (by decide) rfl ?_
          refine jr_iload 86 dX10_turn_84 rfl rfl ?_
          refine jr_if_eq 94 89 dX10_turn_86 rfl rfl (fun q => absurd q (by decide)) (fun q86 => ?_)
          refine jr_iload 91 dX10_turn_89 rfl rfl ?_
          refine jr_goto 96 dX10_turn_91 rfl ?_
          refine jr_istore (L' := [_, _, _, _, _, _, _, _]) 98 dX10_turn_96 rfl (by decide) rfl ?_
          refine jr_iinc (v := nI (i + 1)) (L' := [_, _, _, _, _, _, _, _]) 101 dX10_turn_98 rfl rfl (nI_1 i) (by decide) rfl ?_
          refine jr_goto 29 dX10_turn_101 rfl ?_
          exact ih (i + 1) σ3 _ _ _ _ (by omega) (tn_t (A := (ad_A T lw nf nc kd se σ j)) e hij (Or.inr (Int32.not_le.mp q62))) (eqs_tr g g3) g4
theorem pp_turn {G : jr_G} {d : Nat} {σ : jr_Sg} {f c : Int32} (h : IV σ) : jr_pair G (d + 20) mi_X9_turn mi_X10_turn [.int f, .int c] σ := by
  obtain ⟨T, n, nf, nc, kd, se, lw, tp, h⟩ := h
  have hh := h
  obtain ⟨hTC, hTR, ⟨hsc, hsr, hl1, hl2, hlw, hfc, hli, hca⟩, htp, himg, hsh, hrest, hwd⟩ := hh
  have hnf := hsc.1
  have h5 := hsc.2.1
  have hnc := hsc.2.2.1
  have h8 := hsc.2.2.2.1
  have rnf := hsr.1
  have rnc := hsr.2.2.1
  have hlm := hrest.2.2.2.1
  unfold jr_pair
  rcases jr_fc f h5 with hf | ⟨j, hj, rfl⟩
  · refine jr_enter (L := [some (.ref 0), some (.int f), some (.int c), none, none, none, none, none]) (by decide) (Nat.le_of_ble_eq_true rfl) rfl ?_
    refine jr_aload_n 0 1 dX9_turn_0 rfl rfl rfl ?_
    refine gf_X9_44 4 dX9_turn_1 rfl rfl rfl rfl ?_
    refine jr_iload_n 1 5 dX9_turn_4 rfl rfl rfl ?_
    refine cs_X9_146 8 dX9_turn_5 rfl rfl rfl (Nat.le_of_ble_eq_true rfl) (wp_has_15 hnf h5 (fun j hj e => absurd hf (by rw [e]; exact jr_fcn hj (by omega))) (fun _ => ?_))
    refine jr_if_eq 19 11 dX9_turn_8 rfl rfl (fun q8 => ?_) (fun q => absurd (by decide) q)
    refine jr_ldc kc_X9_239 21 dX9_turn_19 rfl ?_
    refine jr_ireturn dX9_turn_21 rfl rfl ?_
    refine jr_enter (L := [some (.ref 46), some (.int f), some (.int c), none, none, none, none, none]) (by decide) (Nat.le_of_ble_eq_true rfl) rfl ?_
    refine jr_aload_n 0 1 dX10_turn_0 rfl rfl rfl ?_
    refine jr_iload_n 1 2 dX10_turn_1 rfl rfl rfl ?_
    refine cs_X10_204 5 dX10_turn_2 rfl rfl rfl (Nat.le_of_ble_eq_true rfl) (wp_isFace rnf h5 (fun j hj e => absurd hf (by rw [e]; exact jr_fcn hj (by omega))) (fun _ => ?_))
    refine jr_if_eq 17 8 dX10_turn_5 rfl rfl (fun q5 => ?_) (fun q => absurd (by decide) q)
    refine jr_ldcw kc_X10_294 20 dX10_turn_17 rfl ?_
    refine jr_ireturn dX10_turn_20 rfl rfl ?_
    exact ⟨rfl, IV_mov (iv_same_x (jr_eqx_rf [] _) (by decide)) h⟩
  · rcases jr_rg c (m := 1) (by decide) with qc2 | ⟨c2, hc2, rfl⟩
    · refine jr_enter (L := [some (.ref 0), some (.int (nI j)), some (.int c), none, none, none, none, none]) (by decide) (Nat.le_of_ble_eq_true rfl) rfl ?_
      refine jr_aload_n 0 1 dX9_turn_0 rfl rfl rfl ?_
      refine gf_X9_44 4 dX9_turn_1 rfl rfl rfl rfl ?_
      refine jr_iload_n 1 5 dX9_turn_4 rfl rfl rfl ?_
      refine cs_X9_146 8 dX9_turn_5 rfl rfl rfl (Nat.le_of_ble_eq_true rfl) (wp_hasT_15 hnf h5 hj ?_)
      refine jr_if_eq 19 11 dX9_turn_8 rfl rfl (fun q => absurd q (by decide)) (fun q8 => ?_)
      refine jr_iload_n 2 12 dX9_turn_11 rfl rfl rfl ?_
      refine jr_iconst (1) 13 dX9_turn_12 rfl rfl ?_
      refine cs_X9_104 16 dX9_turn_13 rfl rfl (Nat.le_of_ble_eq_true rfl) (wp_wiF qc2 ?_)
      refine jr_if_ne 22 19 dX9_turn_16 rfl rfl (fun q => absurd (by decide) q) (fun q16 => ?_)
      refine jr_ldc kc_X9_239 21 dX9_turn_19 rfl ?_
      refine jr_ireturn dX9_turn_21 rfl rfl ?_
      refine jr_enter (L := [some (.ref 46), some (.int (nI j)), some (.int c), none, none, none, none, none]) (by decide) (Nat.le_of_ble_eq_true rfl) rfl ?_
      refine jr_aload_n 0 1 dX10_turn_0 rfl rfl rfl ?_
      refine jr_iload_n 1 2 dX10_turn_1 rfl rfl rfl ?_
      refine cs_X10_204 5 dX10_turn_2 rfl rfl rfl (Nat.le_of_ble_eq_true rfl) (wp_isFace rnf h5 (fun _ _ _ => ?_) (fun q => absurd q (jr_fcn hj (by omega))))
      refine jr_if_eq 17 8 dX10_turn_5 rfl rfl (fun q => absurd q (by decide)) (fun q5 => ?_)
      refine jr_iload_n 2 9 dX10_turn_8 rfl rfl rfl ?_
      refine jr_iconst (0) 10 dX10_turn_9 rfl rfl ?_
      refine jr_iconst (1) 11 dX10_turn_10 rfl rfl ?_
      refine cs_X10_108 14 dX10_turn_11 rfl rfl (Nat.le_of_ble_eq_true rfl) (wp_inF qc2 ?_)
      refine jr_if_ne 21 17 dX10_turn_14 rfl rfl (fun q => absurd (by decide) q) (fun q14 => ?_)
      refine jr_ldcw kc_X10_294 20 dX10_turn_17 rfl ?_
      refine jr_ireturn dX10_turn_20 rfl rfl ?_
      exact ⟨rfl, IV_mov (iv_same_x (jr_eqx_rf [] _) (by decide)) h⟩
    · rcases (by omega : c2 = 0 ∨ c2 = 1) with rfl | rfl
      · refine jr_enter (L := [some (.ref 0), some (.int (nI j)), some (.int (nI 0)), none, none, none, none, none]) (by decide) (Nat.le_of_ble_eq_true rfl) rfl ?_
        refine jr_aload_n 0 1 dX9_turn_0 rfl rfl rfl ?_
        refine gf_X9_44 4 dX9_turn_1 rfl rfl rfl rfl ?_
        refine jr_iload_n 1 5 dX9_turn_4 rfl rfl rfl ?_
        refine cs_X9_146 8 dX9_turn_5 rfl rfl rfl (Nat.le_of_ble_eq_true rfl) (wp_hasT_15 hnf h5 hj ?_)
        refine jr_if_eq 19 11 dX9_turn_8 rfl rfl (fun q => absurd q (by decide)) (fun q8 => ?_)
        refine jr_iload_n 2 12 dX9_turn_11 rfl rfl rfl ?_
        refine jr_iconst (1) 13 dX9_turn_12 rfl rfl ?_
        refine cs_X9_104 16 dX9_turn_13 rfl rfl (Nat.le_of_ble_eq_true rfl) (wp_wiT hc2 (by decide) rfl ?_)
        refine jr_if_ne 22 19 dX9_turn_16 rfl rfl (fun q16 => ?_) (fun q => absurd q (by decide))
        refine jr_aload_n 0 23 dX9_turn_22 rfl rfl rfl ?_
        refine jr_iload_n 1 24 dX9_turn_23 rfl rfl rfl ?_
        refine jr_bipush (40) 26 dX9_turn_24 rfl rfl ?_
        refine cs_X9_189 29 dX9_turn_26 rfl rfl rfl (Nat.le_of_ble_eq_true rfl) (wp_playNow (len := 40) (by omega) h hj (jr_eqx_rf _ _) (fun σ1 g1 g2 => ?_))
        refine jr_aload_n 0 30 dX9_turn_29 rfl rfl rfl ?_
        refine gf_X9_37 33 dX9_turn_30 rfl rfl rfl rfl ?_
        refine jr_iload_n 1 34 dX9_turn_33 rfl rfl rfl ?_
        refine cs_X9_240 37 dX9_turn_34 rfl rfl rfl (Nat.le_of_ble_eq_true rfl) (wp_felt (by omega) ?_)
        rw [pd_fe g2]
        refine jr_istore_n 3 (L' := [_, _, _, _, _, _, _, _]) 38 dX9_turn_37 rfl rfl (by decide) rfl ?_
        refine jr_iconst ((-1)) 39 dX9_turn_38 rfl rfl ?_
        refine jr_istore (L' := [_, _, _, _, _, _, _, _]) 41 dX9_turn_39 rfl (by decide) rfl ?_
        refine jr_iconst (0) 42 dX9_turn_41 rfl rfl ?_
        refine jr_istore (L' := [_, _, _, _, _, _, _, _]) 44 dX9_turn_42 rfl (by decide) rfl ?_
        refine jr_iconst (0) 45 dX9_turn_44 rfl rfl ?_
        refine jr_istore (L' := [_, _, _, _, _, _, _, _]) 47 dX9_turn_45 rfl (by decide) rfl ?_
        refine turn_x h hj (fun σ1 x y x6 x7 e1 g1 => ?_) nf 0 _ _ _ _ (Nat.zero_add _) rfl g1
        refine jr_iload_n 2 104 dX9_turn_103 rfl rfl rfl ?_
        refine jr_if_ne 112 107 dX9_turn_104 rfl rfl (fun q => absurd (by decide) q) (fun q104 => ?_)
        refine jr_iload 109 dX9_turn_107 rfl rfl ?_
        refine jr_goto 114 dX9_turn_109 rfl ?_
        refine jr_ireturn dX9_turn_114 rfl rfl ?_
        have h1 := iv_mov (iv_cx g1) h
        have r1 := rr_of h1
        refine jr_enter (L := [some (.ref 46), some (.int (nI j)), some (.int (nI 0)), none, none, none, none, none]) (by decide) (Nat.le_of_ble_eq_true rfl) rfl ?_
        refine jr_aload_n 0 1 dX10_turn_0 rfl rfl rfl ?_
        refine jr_iload_n 1 2 dX10_turn_1 rfl rfl rfl ?_
        refine cs_X10_204 5 dX10_turn_2 rfl rfl rfl (Nat.le_of_ble_eq_true rfl) (wp_isFace r1.1.1 h5 (fun _ _ _ => ?_) (fun q => absurd q (jr_fcn hj (by omega))))
        refine jr_if_eq 17 8 dX10_turn_5 rfl rfl (fun q => absurd q (by decide)) (fun q5 => ?_)
        refine jr_iload_n 2 9 dX10_turn_8 rfl rfl rfl ?_
        refine jr_iconst (0) 10 dX10_turn_9 rfl rfl ?_
        refine jr_iconst (1) 11 dX10_turn_10 rfl rfl ?_
        refine cs_X10_108 14 dX10_turn_11 rfl rfl (Nat.le_of_ble_eq_true rfl) (wp_inT hc2 (by decide) rfl ?_)
        refine jr_if_ne 21 17 dX10_turn_14 rfl rfl (fun q14 => ?_) (fun q => absurd q (by decide))
        refine jr_iconst ((-1)) 22 dX10_turn_21 rfl rfl ?_
        refine jr_istore_n 3 (L' := [_, _, _, _, _, _, _, _]) 23 dX10_turn_22 rfl rfl (by decide) rfl ?_
        refine jr_iconst (0) 24 dX10_turn_23 rfl rfl ?_
        refine jr_istore (L' := [_, _, _, _, _, _, _, _]) 26 dX10_turn_24 rfl (by decide) rfl ?_
        refine jr_iconst (0) 27 dX10_turn_26 rfl rfl ?_
        refine jr_istore (L' := [_, _, _, _, _, _, _, _]) 29 dX10_turn_27 rfl (by decide) rfl ?_
        refine turn_r h hj g1 (fun σ2 x2 y2 x5 x6 x7 e2 g2 g42 => ?_) nf 0 σ1 _ _ _ _ (Nat.zero_add _) rfl (eqs_rf _ _) h1.2.2.2.2.2.2.1.2.1
        refine jr_iload_n 2 105 dX10_turn_104 rfl rfl rfl ?_
        refine jr_if_ne 112 108 dX10_turn_105 rfl rfl (fun q => absurd (by decide) q) (fun q105 => ?_)
        refine jr_iload_n 3 109 dX10_turn_108 rfl rfl rfl ?_
        refine jr_goto 114 dX10_turn_109 rfl ?_
        refine jr_ireturn dX10_turn_114 rfl rfl ?_
        have exy := Prod.mk.inj (e2.trans e1.symm)
        exact ⟨congrArg Value.int exy.1, IV_mov (iv_same_tr (iv_cx g1) (iv_eqs (FX := [42, 43]) g2 (fun k hk hk2 => by
            rcases (by simpa using hk : k = 42 ∨ k = 43) with rfl | rfl
            · exact g42.trans h1.2.2.2.2.2.2.1.2.1.symm
            · exact absurd hk2 (by decide)))) h⟩
      · refine jr_enter (L := [some (.ref 0), some (.int (nI j)), some (.int (nI 1)), none, none, none, none, none]) (by decide) (Nat.le_of_ble_eq_true rfl) rfl ?_
        refine jr_aload_n 0 1 dX9_turn_0 rfl rfl rfl ?_
        refine gf_X9_44 4 dX9_turn_1 rfl rfl rfl rfl ?_
        refine jr_iload_n 1 5 dX9_turn_4 rfl rfl rfl ?_
        refine cs_X9_146 8 dX9_turn_5 rfl rfl rfl (Nat.le_of_ble_eq_true rfl) (wp_hasT_15 hnf h5 hj ?_)
        refine jr_if_eq 19 11 dX9_turn_8 rfl rfl (fun q => absurd q (by decide)) (fun q8 => ?_)
        refine jr_iload_n 2 12 dX9_turn_11 rfl rfl rfl ?_
        refine jr_iconst (1) 13 dX9_turn_12 rfl rfl ?_
        refine cs_X9_104 16 dX9_turn_13 rfl rfl (Nat.le_of_ble_eq_true rfl) (wp_wiT hc2 (by decide) rfl ?_)
        refine jr_if_ne 22 19 dX9_turn_16 rfl rfl (fun q16 => ?_) (fun q => absurd q (by decide))
        refine jr_aload_n 0 23 dX9_turn_22 rfl rfl rfl ?_
        refine jr_iload_n 1 24 dX9_turn_23 rfl rfl rfl ?_
        refine jr_bipush (40) 26 dX9_turn_24 rfl rfl ?_
        refine cs_X9_189 29 dX9_turn_26 rfl rfl rfl (Nat.le_of_ble_eq_true rfl) (wp_playNow (len := 40) (by omega) h hj (jr_eqx_rf _ _) (fun σ1 g1 g2 => ?_))
        refine jr_aload_n 0 30 dX9_turn_29 rfl rfl rfl ?_
        refine gf_X9_37 33 dX9_turn_30 rfl rfl rfl rfl ?_
        refine jr_iload_n 1 34 dX9_turn_33 rfl rfl rfl ?_
        refine cs_X9_240 37 dX9_turn_34 rfl rfl rfl (Nat.le_of_ble_eq_true rfl) (wp_felt (by omega) ?_)
        rw [pd_fe g2]
        refine jr_istore_n 3 (L' := [_, _, _, _, _, _, _, _]) 38 dX9_turn_37 rfl rfl (by decide) rfl ?_
        refine jr_iconst ((-1)) 39 dX9_turn_38 rfl rfl ?_
        refine jr_istore (L' := [_, _, _, _, _, _, _, _]) 41 dX9_turn_39 rfl (by decide) rfl ?_
        refine jr_iconst (0) 42 dX9_turn_41 rfl rfl ?_
        refine jr_istore (L' := [_, _, _, _, _, _, _, _]) 44 dX9_turn_42 rfl (by decide) rfl ?_
        refine jr_iconst (0) 45 dX9_turn_44 rfl rfl ?_
        refine jr_istore (L' := [_, _, _, _, _, _, _, _]) 47 dX9_turn_45 rfl (by decide) rfl ?_
        refine turn_x h hj (fun σ1 x y x6 x7 e1 g1 => ?_) nf 0 _ _ _ _ (Nat.zero_add _) rfl g1
        refine jr_iload_n 2 104 dX9_turn_103 rfl rfl rfl ?_
        refine jr_if_ne 112 107 dX9_turn_104 rfl rfl (fun q104 => ?_) (fun q => absurd q (by decide))
        refine jr_iload 114 dX9_turn_112 rfl rfl ?_
        refine jr_ireturn dX9_turn_114 rfl rfl ?_
        have h1 := iv_mov (iv_cx g1) h
        have r1 := rr_of h1
        refine jr_enter (L := [some (.ref 46), some (.int (nI j)), some (.int (nI 1)), none, none, none, none, none]) (by decide) (Nat.le_of_ble_eq_true rfl) rfl ?_
        refine jr_aload_n 0 1 dX10_turn_0 rfl rfl rfl ?_
        refine jr_iload_n 1 2 dX10_turn_1 rfl rfl rfl ?_
        refine cs_X10_204 5 dX10_turn_2 rfl rfl rfl (Nat.le_of_ble_eq_true rfl) (wp_isFace r1.1.1 h5 (fun _ _ _ => ?_) (fun q => absurd q (jr_fcn hj (by omega))))
        refine jr_if_eq 17 8 dX10_turn_5 rfl rfl (fun q => absurd q (by decide)) (fun q5 => ?_)
        refine jr_iload_n 2 9 dX10_turn_8 rfl rfl rfl ?_
        refine jr_iconst (0) 10 dX10_turn_9 rfl rfl ?_
        refine jr_iconst (1) 11 dX10_turn_10 rfl rfl ?_
        refine cs_X10_108 14 dX10_turn_11 rfl rfl (Nat.le_of_ble_eq_true rfl) (wp_inT hc2 (by decide) rfl ?_)
        refine jr_if_ne 21 17 dX10_turn_14 rfl rfl (fun q14 => ?_) (fun q => absurd q (by decide))
        refine jr_iconst ((-1)) 22 dX10_turn_21 rfl rfl ?_
        refine jr_istore_n 3 (L' := [_, _, _, _, _, _, _, _]) 23 dX10_turn_22 rfl rfl (by decide) rfl ?_
        refine jr_iconst (0) 24 dX10_turn_23 rfl rfl ?_
        refine jr_istore (L' := [_, _, _, _, _, _, _, _]) 26 dX10_turn_24 rfl (by decide) rfl ?_
        refine jr_iconst (0) 27 dX10_turn_26 rfl rfl ?_
        refine jr_istore (L' := [_, _, _, _, _, _, _, _]) 29 dX10_turn_27 rfl (by decide) rfl ?_
        refine turn_r h hj g1 (fun σ2 x2 y2 x5 x6 x7 e2 g2 g42 => ?_) nf 0 σ1 _ _ _ _ (Nat.zero_add _) rfl (eqs_rf _ _) h1.2.2.2.2.2.2.1.2.1
        refine jr_iload_n 2 105 dX10_turn_104 rfl rfl rfl ?_
        refine jr_if_ne 112 108 dX10_turn_105 rfl rfl (fun q105 => ?_) (fun q => absurd q (by decide))
        refine jr_iload 114 dX10_turn_112 rfl rfl ?_
        refine jr_ireturn dX10_turn_114 rfl rfl ?_
        have exy := Prod.mk.inj (e2.trans e1.symm)
        exact ⟨congrArg Value.int exy.2, IV_mov (iv_same_tr (iv_cx g1) (iv_eqs (FX := [42, 43]) g2 (fun k hk hk2 => by
            rcases (by simpa using hk : k = 42 ∨ k = 43) with rfl | rfl
            · exact g42.trans h1.2.2.2.2.2.2.1.2.1.symm
            · exact absurd hk2 (by decide)))) h⟩
theorem pp_stares {G : jr_G} {d : Nat} {σ : jr_Sg} {f : Int32} (h : IV σ) : jr_pair G (d + 20) mi_X9_stares mi_X10_stares [.int f] σ := by
  obtain ⟨T, n, nf, nc, kd, se, lw, tp, h⟩ := h
  have hh := h
  obtain ⟨hTC, hTR, ⟨hsc, hsr, hl1, hl2, hlw, hfc, hli, hca⟩, htp, himg, hsh, hrest, hwd⟩ := hh
  have hnf := hsc.1
  have h5 := hsc.2.1
  have hnc := hsc.2.2.1
  have h8 := hsc.2.2.2.1
  have rnf := hsr.1
  have rnc := hsr.2.2.1
  have hlm := hrest.2.2.2.1
  unfold jr_pair
  rcases jr_fc f h5 with hf | ⟨j, hj, rfl⟩
  · refine jr_enter (L := [some (.ref 0), some (.int f), none]) (by decide) (Nat.le_of_ble_eq_true rfl) rfl ?_
    refine jr_aload_n 0 1 dX9_stares_0 rfl rfl rfl ?_
    refine gf_X9_44 4 dX9_stares_1 rfl rfl rfl rfl ?_
    refine jr_iload_n 1 5 dX9_stares_4 rfl rfl rfl ?_
    refine cs_X9_146 8 dX9_stares_5 rfl rfl rfl (Nat.le_of_ble_eq_true rfl) (wp_has_15 hnf h5 (fun j hj e => absurd hf (by rw [e]; exact jr_fcn hj (by omega))) (fun _ => ?_))
    refine jr_if_ne 14 11 dX9_stares_8 rfl rfl (fun q => absurd (by decide) q) (fun q8 => ?_)
    refine jr_ldc kc_X9_239 13 dX9_stares_11 rfl ?_
    refine jr_ireturn dX9_stares_13 rfl rfl ?_
    refine jr_enter (L := [some (.ref 46), some (.int f), none, none]) (by decide) (Nat.le_of_ble_eq_true rfl) rfl ?_
    refine jr_aload_n 0 1 dX10_stares_0 rfl rfl rfl ?_
    refine jr_iload_n 1 2 dX10_stares_1 rfl rfl rfl ?_
    refine cs_X10_204 5 dX10_stares_2 rfl rfl rfl (Nat.le_of_ble_eq_true rfl) (wp_isFace rnf h5 (fun j hj e => absurd hf (by rw [e]; exact jr_fcn hj (by omega))) (fun _ => ?_))
    refine jr_if_ne 12 8 dX10_stares_5 rfl rfl (fun q => absurd (by decide) q) (fun q5 => ?_)
    refine jr_ldcw kc_X10_294 11 dX10_stares_8 rfl ?_
    refine jr_ireturn dX10_stares_11 rfl rfl ?_
    exact ⟨rfl, IV_mov (iv_same_x (jr_eqx_rf [] _) (by decide)) h⟩
  · refine jr_enter (L := [some (.ref 0), some (.int (nI j)), none]) (by decide) (Nat.le_of_ble_eq_true rfl) rfl ?_
    refine jr_aload_n 0 1 dX9_stares_0 rfl rfl rfl ?_
    refine gf_X9_44 4 dX9_stares_1 rfl rfl rfl rfl ?_
    refine jr_iload_n 1 5 dX9_stares_4 rfl rfl rfl ?_
    refine cs_X9_146 8 dX9_stares_5 rfl rfl rfl (Nat.le_of_ble_eq_true rfl) (wp_hasT_15 hnf h5 hj ?_)
    refine jr_if_ne 14 11 dX9_stares_8 rfl rfl (fun q8 => ?_) (fun q => absurd q (by decide))
    refine jr_aload_n 0 15 dX9_stares_14 rfl rfl rfl ?_
    refine jr_bipush (40) 17 dX9_stares_15 rfl rfl ?_
    refine cs_X9_205 20 dX9_stares_17 rfl rfl rfl (Nat.le_of_ble_eq_true rfl) (wp_playAllNow (len := 40) h (by omega) (jr_eqx_rf _ _) (fun σ1 g1 g6 g2 => ?_))
    refine jr_aload_n 0 21 dX9_stares_20 rfl rfl rfl ?_
    refine gf_X9_37 24 dX9_stares_21 rfl rfl rfl rfl ?_
    refine jr_iload_n 1 25 dX9_stares_24 rfl rfl rfl ?_
    refine cs_X9_246 28 dX9_stares_25 rfl rfl rfl (Nat.le_of_ble_eq_true rfl) (wp_feltByOthers (nf := nf) (x := j) g6 h5 (by omega) ?_)
    refine jr_topi (y := lp (fun f a => a + if f = j then 0 else tr_fe (sm_R T lw nf nc kd se σ f)) 0 nf) (lp_congr (fun i hi x => by rw [pd_fe (g2 i hi)])) ?_
    refine jr_istore_n 2 (L' := [_, _, _]) 29 dX9_stares_28 rfl rfl (by decide) rfl ?_
    refine jr_aload_n 0 30 dX9_stares_29 rfl rfl rfl ?_
    refine gf_X9_28 33 dX9_stares_30 rfl rfl rfl rfl ?_
    refine cs_X9_249 36 dX9_stares_33 rfl rfl rfl (Nat.le_of_ble_eq_true rfl) (wp_clear ?_)
    refine jr_aload_n 0 37 dX9_stares_36 rfl rfl rfl ?_
    refine gf_X9_28 40 dX9_stares_37 rfl rfl rfl rfl ?_
    refine jr_iload_n 1 41 dX9_stares_40 rfl rfl rfl ?_
    refine jr_iconst (5) 42 dX9_stares_41 rfl rfl ?_
    refine cs_X9_252 45 dX9_stares_42 rfl rfl rfl (Nat.le_of_ble_eq_true rfl) (wp_blind ?_)
    refine jr_aload_n 0 46 dX9_stares_45 rfl rfl rfl ?_
    refine gf_X9_37 49 dX9_stares_46 rfl rfl rfl rfl ?_
    refine jr_aload_n 0 50 dX9_stares_49 rfl rfl rfl ?_
    refine gf_X9_44 53 dX9_stares_50 rfl rfl rfl rfl ?_
    refine jr_bipush (40) 55 dX9_stares_53 rfl rfl ?_
    refine cs_X9_255 58 dX9_stares_55 rfl rfl rfl (Nat.le_of_ble_eq_true rfl) (cplay_all (len := 40) (σR := (md_b σ (nI j) (-2))) h (by omega) (jr_eqx_tr g1 (by repeat (first | exact jr_eqx_rf _ _ | refine jr_eqx_tr ?_ (jr_eqx_up _ _ _ (by decide))))) (fun f hf => par_now h hf (jr_eqx_tr g1 (by repeat (first | exact jr_eqx_rf _ _ | refine jr_eqx_tr ?_ (jr_eqx_up _ _ _ (by decide))))) rfl rfl rfl rfl (fun x hx => ⟨fun e => ⟨e.1, Or.inl rfl⟩, fun e => ⟨e.1, Or.inl rfl⟩⟩) (fun w t n => ⟨fun e => (do_none (by omega) rfl e).elim, fun e => (do_none (by omega) hrest.1 e).elim⟩) (fun t ht => (pu_if_f (fun e => jr_m1 (by omega) (Eq.symm e.1))).trans (Eq.symm (pu_z (hrest.2.2.2.2 f (by omega)).1))) (fun t ht => Eq.trans (pu_z rfl) (Eq.symm (pu_if_f (fun e => jr_m1 (by omega) ((hrest.2.2.2.2 f (by omega)).2.symm.trans e)))))) (fun σ3 g3 g7 g4 => ?_))
    refine jr_iload_n 2 59 dX9_stares_58 rfl rfl rfl ?_
    refine jr_aload_n 0 60 dX9_stares_59 rfl rfl rfl ?_
    refine gf_X9_37 63 dX9_stares_60 rfl rfl rfl rfl ?_
    refine jr_iload_n 1 64 dX9_stares_63 rfl rfl rfl ?_
    refine cs_X9_246 67 dX9_stares_64 rfl rfl rfl (Nat.le_of_ble_eq_true rfl) (wp_feltByOthers (nf := nf) (x := j) g7 h5 (by omega) ?_)
    refine jr_topi (y := lp (fun f a => a + if f = j then 0 else tr_fe (sm_R T lw nf nc kd se (md_b σ (nI j) (-2)) f)) 0 nf) (lp_congr (fun i hi x => by rw [pd_fe (g4 i hi)])) ?_
    refine jr_isub 68 dX9_stares_67 rfl ?_
    refine jr_ireturn dX9_stares_68 rfl rfl ?_
    refine jr_enter (L := [some (.ref 46), some (.int (nI j)), none, none]) (by decide) (Nat.le_of_ble_eq_true rfl) rfl ?_
    have h1 := iv_mov (iv_cx g3) h
    have r1 := rr_of h1
    refine jr_aload_n 0 1 dX10_stares_0 rfl rfl rfl ?_
    refine jr_iload_n 1 2 dX10_stares_1 rfl rfl rfl ?_
    refine cs_X10_204 5 dX10_stares_2 rfl rfl rfl (Nat.le_of_ble_eq_true rfl) (wp_isFace r1.1.1 h5 (fun _ _ _ => ?_) (fun q => absurd q (jr_fcn hj (by omega))))
    refine jr_if_ne 12 8 dX10_stares_5 rfl rfl (fun q5 => ?_) (fun q => absurd q (by decide))
    refine jr_aload_n 0 13 dX10_stares_12 rfl rfl rfl ?_
    refine jr_iload_n 1 14 dX10_stares_13 rfl rfl rfl ?_
    refine cs_X10_295 17 dX10_stares_14 rfl rfl rfl (Nat.le_of_ble_eq_true rfl) (wp_rfeltByOthers (x := j) r1 (by omega) (fun σ4 g8 => ?_))
    refine jr_istore_n 2 (L' := [_, _, _, _]) 18 dX10_stares_17 rfl rfl (by decide) rfl ?_
    refine jr_aload_n 0 19 dX10_stares_18 rfl rfl rfl ?_
    refine jr_iload_n 1 20 dX10_stares_19 rfl rfl rfl ?_
    refine pf_X10_83 23 dX10_stares_20 rfl rfl rfl rfl ?_
    refine jr_aload_n 0 24 dX10_stares_23 rfl rfl rfl ?_
    refine jr_bipush ((-2)) 26 dX10_stares_24 rfl rfl ?_
    refine pf_X10_86 29 dX10_stares_26 rfl rfl rfl rfl ?_
    refine jr_aload_n 0 30 dX10_stares_29 rfl rfl rfl ?_
    refine jr_iload_n 1 31 dX10_stares_30 rfl rfl rfl ?_
    refine cs_X10_295 34 dX10_stares_31 rfl rfl rfl (Nat.le_of_ble_eq_true rfl) (wp_rfeltByOthers (x := j) (rr_eqs r1 (eqs_tr (eqs_rx g8) (md_b_eqs σ4 (nI j) (-2))) (by decide)) (by omega) (fun σ5 g9 => ?_))
    refine jr_istore_n 3 (L' := [_, _, _, _]) 35 dX10_stares_34 rfl rfl (by decide) rfl ?_
    refine jr_aload_n 0 36 dX10_stares_35 rfl rfl rfl ?_
    refine jr_iconst ((-1)) 37 dX10_stares_36 rfl rfl ?_
    refine pf_X10_83 40 dX10_stares_37 rfl rfl rfl rfl ?_
    refine jr_iload_n 2 41 dX10_stares_40 rfl rfl rfl ?_
    refine jr_iload_n 3 42 dX10_stares_41 rfl rfl rfl ?_
    refine jr_isub 43 dX10_stares_42 rfl ?_
    refine jr_ireturn dX10_stares_43 rfl rfl ?_
    refine ⟨congrArg Value.int ?_, IV_mov (iv_same_tr (iv_cx g3) (iv_eqs (FX := [42, 43]) (eqs_tr (eqs_tr (eqs_tr (eqs_rx g8) (md_b_eqs σ4 (nI j) (-2))) (eqs_rx g9)) (eqs_up _ _ (by decide))) (fun k hk hk2 => by
        rcases (by simpa using hk : k = 42 ∨ k = 43) with rfl | rfl
        · exact h1.2.2.2.2.2.2.1.2.1.symm
        · exact absurd hk2 (by decide)))) h⟩
    rw [show lp (fun f a => a + if f = j then 0 else tr_fe (sm_R T lw nf nc kd se σ3 f)) 0 nf = lp (fun f a => a + if f = j then 0 else tr_fe (sm_R T lw nf nc kd se σ f)) 0 nf from lp_congr (fun i hi x => by rw [sm_R_of g3]), show lp (fun f a => a + if f = j then 0 else tr_fe (sm_R T lw nf nc kd se (md_b σ4 (nI j) (-2)) f)) 0 nf = lp (fun f a => a + if f = j then 0 else tr_fe (sm_R T lw nf nc kd se (md_b σ (nI j) (-2)) f)) 0 nf from lp_congr (fun i hi x => by rw [sm_R_ag (md_b_ag (eqs_rx g8) _ _), sm_R_of (cx_eqsb g3 _ _)])]

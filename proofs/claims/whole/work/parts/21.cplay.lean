def iv_CX : List Nat := [4, 7, 8, 9, 11, 12, 13, 14, 24, 25, 26, 27, 28, 29, 30, 31, 32]
theorem iv_cx {σ σ' : jr_Sg} (h : jr_eqx iv_CX σ σ') : iv_same σ σ' := iv_same_x h (by decide)
def pr_rf (kd se : Nat → Nat) (σ : jr_Sg) (f : Nat) : Int32 := pu_redf (kd f) (σ 49 f) (σ 47 (se f))
/-- f has been played len SECONDS: W -/
def pd (σ : jr_Sg) (len f : Nat) (rf : Int32) (W : Nat → Int32 × Int32) : Prop := σ 14 f = rf ∧ ∀ t, t ≤ len → σ 12 (5 * t + f) = (W t).1 ∧ σ 13 (5 * t + f) = (W t).2
theorem sm_R_of {T : Nat → Nat → List Nat} {lw nf nc f : Nat} {kd se : Nat → Nat} {σ σ' : jr_Sg} (h : jr_eqx iv_CX σ σ') : sm_R T lw nf nc kd se σ' f = sm_R T lw nf nc kd se σ f := by
  have hbl : pr_bl σ' f = pr_bl σ f := by funext q; unfold pr_bl; rw [h 46 (by decide)]
  have hca : pr_ca σ' nc f = pr_ca σ nc f := by funext q; unfold pr_ca; rw [h 46 (by decide), h 52 (by decide), h 70 (by decide)]
  have hdr : pr_dr σ' f = pr_dr σ f := by funext q; unfold pr_dr; rw [h 46 (by decide), h 71 (by decide)]
  unfold sm_R
  rw [hbl, hca, hdr, h 46 (by decide), h 47 (by decide), h 49 (by decide), h 50 (by decide)]
theorem pr_rf_of {kd se : Nat → Nat} {f : Nat} {σ σ' : jr_Sg} (h : jr_eqx iv_CX σ σ') : pr_rf kd se σ' f = pr_rf kd se σ f := by
  unfold pr_rf
  rw [h 49 (by decide), h 47 (by decide)]
theorem par_now {T : Nat → Nat → List Nat} {n nf nc lw tp f : Nat} {kd se : Nat → Nat} {σ σC σR : jr_Sg} (h : iv T n nf nc kd se lw tp σ) (hf : f < nf) (hC : jr_eqx iv_CX σ σC) (e47 : σR 47 = σ 47) (e49 : σR 49 = σ 49) (e50 : σR 50 = σ 50) (e52 : σR 52 = σ 52) (hbl : ∀ x, x < nf → (pu_bl σC f x ↔ pr_bl σR f x)) (hdo : ∀ w t n, pu_do (σC 7 0) (σC 7 1) (σC 7 2) (nI f) w t n ↔ pu_do (σR 46 39) (σR 46 40) (σR 46 41) (nI f) w t n) (hx : ∀ t, t < 40 → pu_if (nI f = σC 7 5 ∧ nI t = σC 7 6) (σC 7 7) 0 = pu_if (nI t = σR 46 45) (σR 70 f) 0) (hdr : ∀ t, t < 40 → pu_dr σC f t = pr_dr σR f t) : sm_par 15 nf nc f (se f) σC σR := by
  obtain ⟨-, -, ⟨hsc, hsr, hl1, hl2, hlw, hfc, hli, hca⟩, -⟩ := h
  refine ⟨fun x hx => ?_, ?_, ?_, hbl, hdo, fun t ht => ca_eq (fun k hk => ?_) hdo (hx t ht), hdr⟩
  · rw [hC _ (by decide), e49]; exact (hfc x hx).1
  · rw [hC _ (by decide), e47]; exact (hli _ (hsr.2.2.2.2 f hf).2.1).1
  · rw [hC _ (by decide), e50]; exact (hfc f hf).2.1
  · rw [hC _ (by decide), hC (15 + 7) (by decide), hC (15 + 8) (by decide), e52]; exact hca k hk
/-- a play of the class by the scene now -/
theorem cplay_now {G : jr_G} {d : Nat} {σ : jr_Sg} {k : jr_Sg → Prop} {T : Nat → Nat → List Nat} {n nf nc lw tp f len : Nat} {kd se : Nat → Nat} {σ0 σR : jr_Sg} (h : iv T n nf nc kd se lw tp σ0) (hf : f < nf) (hlen : len ≤ 40) (hC : jr_eqx iv_CX σ0 σ) (hp : sm_par 15 nf nc f (se f) σ σR) (e47 : σR 47 = σ0 47) (e49 : σR 49 = σ0 49) (hk : ∀ σ' : jr_Sg, jr_eqx iv_CX σ0 σ' → pd σ' len f (pr_rf kd se σ0 f) (sm_R T lw nf nc kd se σR f) → k σ') : jr_M G (d + 4) mi_X4_playOne [.ref 9, .ref 15, .int (nI f), .int (nI len)] σ (jr_kv k) := by
  have h1 := iv_mov (iv_cx hC) h
  refine wp_playOne_15 (len := len) h1.2.2.1.1 hf hlen h1.1 h1.2.2.1.2.2.2.2.1 h1.2.2.1.2.2.1 (fun σ' g1 g2 g3 g4 => hk σ' (jr_eqx_tr hC (jr_eqx_w g1 (by decide))) ⟨?_, fun t ht => ?_⟩)
  · rw [g2, pk_us]
    show pu_redf (kd f) (σ (15 + 2) f) (σ (15 + 5) (se f)) = _
    rw [rf_eq hf hp, e47, e49]
    rfl
  · rw [← sm_eq hf hp t (by omega)]
    exact g3 t ht
theorem pu_z {p : Prop} {x : Int32} (h : x = 0) : pu_if p x 0 = 0 := by
  by_cases e : p
  · rw [pu_if_t e, h]
  · exact pu_if_f e
theorem wp_playNow {G : jr_G} {d : Nat} {σ : jr_Sg} {k : jr_Sg → Prop} {len : Nat} (hlen : len ≤ 40) {T : Nat → Nat → List Nat} {n nf nc lw tp f : Nat} {kd se : Nat → Nat} {σ0 : jr_Sg} (h : iv T n nf nc kd se lw tp σ0) (hf : f < nf) (hC : jr_eqx iv_CX σ0 σ) (hk : ∀ σ' : jr_Sg, jr_eqx iv_CX σ0 σ' → pd σ' len f (pr_rf kd se σ0 f) (sm_R T lw nf nc kd se σ0 f) → k σ') : jr_M G (d + 5) mi_X9_playNow [.ref 0, .int (nI f), .int (nI len)] σ (jr_kv k) := by
  have hf5 : f < 5 := by have := h.2.2.1.2.1.2.1; omega
  have hrest := h.2.2.2.2.2.2.1
  obtain ⟨r39, r42, r45, -, r70⟩ := hrest
  obtain ⟨r70f, r71f⟩ := r70 f hf5
  refine jr_enter (L := [some (.ref 0), some (.int (nI f)), some (.int (nI len))]) (by decide) (Nat.le_of_ble_eq_true rfl) rfl ?_
  refine jr_aload_n 0 1 dX9_playNow_0 rfl rfl rfl ?_
  refine gf_X9_28 4 dX9_playNow_1 rfl rfl rfl rfl ?_
  refine cs_X9_249 7 dX9_playNow_4 rfl rfl rfl (Nat.le_of_ble_eq_true rfl) (wp_clear ?_)
  refine jr_aload_n 0 8 dX9_playNow_7 rfl rfl rfl ?_
  refine gf_X9_37 11 dX9_playNow_8 rfl rfl rfl rfl ?_
  refine jr_aload_n 0 12 dX9_playNow_11 rfl rfl rfl ?_
  refine gf_X9_44 15 dX9_playNow_12 rfl rfl rfl rfl ?_
  refine jr_iload_n 1 16 dX9_playNow_15 rfl rfl rfl ?_
  refine jr_iload_n 2 17 dX9_playNow_16 rfl rfl rfl ?_
  refine cs_X9_308 20 dX9_playNow_17 rfl rfl rfl (Nat.le_of_ble_eq_true rfl) (cplay_now (len := len) (σR := σ0) h hf (by omega) (jr_eqx_tr hC (jr_eqx_tr (jr_eqx_tr (jr_eqx_tr (jr_eqx_up _ _ _ (by decide)) (jr_eqx_up _ _ _ (by decide))) (jr_eqx_up _ _ _ (by decide))) (jr_eqx_up _ _ _ (by decide)))) (par_now h hf (jr_eqx_tr hC (jr_eqx_tr (jr_eqx_tr (jr_eqx_tr (jr_eqx_up _ _ _ (by decide)) (jr_eqx_up _ _ _ (by decide))) (jr_eqx_up _ _ _ (by decide))) (jr_eqx_up _ _ _ (by decide)))) rfl rfl rfl rfl (fun x hx => ⟨fun e => (jr_m1 (by have := h.2.2.1.2.1.2.1; omega) (Eq.symm e.1)).elim, fun e => (jr_m1 (by have := h.2.2.1.2.1.2.1; omega) (Eq.symm (e.1.trans r42))).elim⟩) (fun w t n => ⟨fun e => (do_none (by omega) rfl e).elim, fun e => (do_none (by omega) r39 e).elim⟩) (fun t ht => (pu_if_f (fun e => jr_m1 (by omega) (Eq.symm e.1))).trans (Eq.symm (pu_z r70f))) (fun t ht => Eq.trans (pu_z rfl) (Eq.symm (pu_if_f (fun e => jr_m1 (by omega) (r71f.symm.trans e)))))) rfl rfl (fun σ' g1 g2 => ?_))
  refine jr_return dX9_playNow_20 rfl ?_
  exact hk σ' g1 g2
theorem wp_playStopped {G : jr_G} {d : Nat} {σ : jr_Sg} {k : jr_Sg → Prop} {a b : Int32} {T : Nat → Nat → List Nat} {n nf nc lw tp f : Nat} {kd se : Nat → Nat} {σ0 : jr_Sg} (h : iv T n nf nc kd se lw tp σ0) (hf : f < nf) (hC : jr_eqx iv_CX σ0 σ) (hk : ∀ σ' : jr_Sg, jr_eqx iv_CX σ0 σ' → pd σ' 40 f (pr_rf kd se σ0 f) (sm_R T lw nf nc kd se (jr_up (jr_up (jr_up σ0 46 39 (nI f)) 46 40 a) 46 41 b) f) → k σ') : jr_M G (d + 5) mi_X9_playStopped [.ref 0, .int (nI f), .int a, .int b] σ (jr_kv k) := by
  have hf5 : f < 5 := by have := h.2.2.1.2.1.2.1; omega
  have hrest := h.2.2.2.2.2.2.1
  obtain ⟨r39, r42, r45, -, r70⟩ := hrest
  obtain ⟨r70f, r71f⟩ := r70 f hf5
  refine jr_enter (L := [some (.ref 0), some (.int (nI f)), some (.int a), some (.int b)]) (by decide) (Nat.le_of_ble_eq_true rfl) rfl ?_
  refine jr_aload_n 0 1 dX9_playStopped_0 rfl rfl rfl ?_
  refine gf_X9_28 4 dX9_playStopped_1 rfl rfl rfl rfl ?_
  refine cs_X9_249 7 dX9_playStopped_4 rfl rfl rfl (Nat.le_of_ble_eq_true rfl) (wp_clear ?_)
  refine jr_aload_n 0 8 dX9_playStopped_7 rfl rfl rfl ?_
  refine gf_X9_28 11 dX9_playStopped_8 rfl rfl rfl rfl ?_
  refine jr_iload_n 1 12 dX9_playStopped_11 rfl rfl rfl ?_
  refine jr_iload_n 2 13 dX9_playStopped_12 rfl rfl rfl ?_
  refine jr_iload_n 3 14 dX9_playStopped_13 rfl rfl rfl ?_
  refine cs_X9_333 17 dX9_playStopped_14 rfl rfl rfl (Nat.le_of_ble_eq_true rfl) (wp_stop ?_)
  refine jr_aload_n 0 18 dX9_playStopped_17 rfl rfl rfl ?_
  refine gf_X9_37 21 dX9_playStopped_18 rfl rfl rfl rfl ?_
  refine jr_aload_n 0 22 dX9_playStopped_21 rfl rfl rfl ?_
  refine gf_X9_44 25 dX9_playStopped_22 rfl rfl rfl rfl ?_
  refine jr_iload_n 1 26 dX9_playStopped_25 rfl rfl rfl ?_
  refine jr_bipush (40) 28 dX9_playStopped_26 rfl rfl ?_
  refine cs_X9_308 31 dX9_playStopped_28 rfl rfl rfl (Nat.le_of_ble_eq_true rfl) (cplay_now (len := 40) (σR := (jr_up (jr_up (jr_up σ0 46 39 (nI f)) 46 40 a) 46 41 b)) h hf (by omega) (jr_eqx_tr hC (by repeat (first | exact jr_eqx_rf _ _ | refine jr_eqx_tr ?_ (jr_eqx_up _ _ _ (by decide))))) (par_now h hf (jr_eqx_tr hC (by repeat (first | exact jr_eqx_rf _ _ | refine jr_eqx_tr ?_ (jr_eqx_up _ _ _ (by decide))))) rfl rfl rfl rfl (fun x hx => ⟨fun e => (jr_m1 (by have := h.2.2.1.2.1.2.1; omega) (Eq.symm e.1)).elim, fun e => (jr_m1 (by have := h.2.2.1.2.1.2.1; omega) (Eq.symm (e.1.trans r42))).elim⟩) (fun w t n => Iff.rfl) (fun t ht => (pu_if_f (fun e => jr_m1 (by omega) (Eq.symm e.1))).trans (Eq.symm (pu_z r70f))) (fun t ht => Eq.trans (pu_z rfl) (Eq.symm (pu_if_f (fun e => jr_m1 (by omega) (r71f.symm.trans e)))))) rfl rfl (fun σ' g1 g2 => ?_))
  refine jr_return dX9_playStopped_31 rfl ?_
  exact hk σ' g1 g2
theorem wp_playCaused {G : jr_G} {d : Nat} {σ : jr_Sg} {k : jr_Sg → Prop} {len y : Nat} {much sec : Int32} (hy : y < 5) (hlen : len ≤ 40) {T : Nat → Nat → List Nat} {n nf nc lw tp f : Nat} {kd se : Nat → Nat} {σ0 : jr_Sg} (h : iv T n nf nc kd se lw tp σ0) (hf : f < nf) (hC : jr_eqx iv_CX σ0 σ) (hk : ∀ σ' : jr_Sg, jr_eqx iv_CX σ0 σ' → pd σ' len f (pr_rf kd se σ0 f) (sm_R T lw nf nc kd se (jr_up (jr_up σ0 70 y much) 46 45 sec) f) → k σ') : jr_M G (d + 5) mi_X9_playCaused [.ref 0, .int (nI f), .int (nI y), .int sec, .int much, .int (nI len)] σ (jr_kv k) := by
  have hf5 : f < 5 := by have := h.2.2.1.2.1.2.1; omega
  have hrest := h.2.2.2.2.2.2.1
  obtain ⟨r39, r42, r45, -, r70⟩ := hrest
  obtain ⟨r70f, r71f⟩ := r70 f hf5
  refine jr_enter (L := [some (.ref 0), some (.int (nI f)), some (.int (nI y)), some (.int sec), some (.int much), some (.int (nI len))]) (by decide) (Nat.le_of_ble_eq_true rfl) rfl ?_
  refine jr_aload_n 0 1 dX9_playCaused_0 rfl rfl rfl ?_
  refine gf_X9_28 4 dX9_playCaused_1 rfl rfl rfl rfl ?_
  refine cs_X9_249 7 dX9_playCaused_4 rfl rfl rfl (Nat.le_of_ble_eq_true rfl) (wp_clear ?_)
  refine jr_aload_n 0 8 dX9_playCaused_7 rfl rfl rfl ?_
  refine gf_X9_28 11 dX9_playCaused_8 rfl rfl rfl rfl ?_
  refine jr_iload_n 2 12 dX9_playCaused_11 rfl rfl rfl ?_
  refine jr_iload_n 3 13 dX9_playCaused_12 rfl rfl rfl ?_
  refine jr_iload 15 dX9_playCaused_13 rfl rfl ?_
  refine cs_X9_268 18 dX9_playCaused_15 rfl rfl rfl (Nat.le_of_ble_eq_true rfl) (wp_addCause ?_)
  refine jr_aload_n 0 19 dX9_playCaused_18 rfl rfl rfl ?_
  refine gf_X9_37 22 dX9_playCaused_19 rfl rfl rfl rfl ?_
  refine jr_aload_n 0 23 dX9_playCaused_22 rfl rfl rfl ?_
  refine gf_X9_44 26 dX9_playCaused_23 rfl rfl rfl rfl ?_
  refine jr_iload_n 1 27 dX9_playCaused_26 rfl rfl rfl ?_
  refine jr_iload 29 dX9_playCaused_27 rfl rfl ?_
  refine cs_X9_308 32 dX9_playCaused_29 rfl rfl rfl (Nat.le_of_ble_eq_true rfl) (cplay_now (len := len) (σR := (jr_up (jr_up σ0 70 y much) 46 45 sec)) h hf (by omega) (jr_eqx_tr hC (by repeat (first | exact jr_eqx_rf _ _ | refine jr_eqx_tr ?_ (jr_eqx_up _ _ _ (by decide))))) (par_now h hf (jr_eqx_tr hC (by repeat (first | exact jr_eqx_rf _ _ | refine jr_eqx_tr ?_ (jr_eqx_up _ _ _ (by decide))))) rfl rfl rfl rfl (fun x hx => ⟨fun e => (jr_m1 (by have := h.2.2.1.2.1.2.1; omega) (Eq.symm e.1)).elim, fun e => (jr_m1 (by have := h.2.2.1.2.1.2.1; omega) (Eq.symm (e.1.trans r42))).elim⟩) (fun w t n => ⟨fun e => (do_none (by omega) rfl e).elim, fun e => (do_none (by omega) r39 e).elim⟩) (fun t ht => by
        show pu_if (nI f = nI y ∧ nI t = sec) much 0 = pu_if (nI t = sec) (upd (σ0 70) y much f) 0
        by_cases e : nI t = sec
        · rw [pu_if_t e]
          by_cases e2 : f = y
          · subst e2
            rw [pu_if_t ⟨rfl, e⟩, pk_us]
          · rw [pu_if_f (fun q => e2 (nI_inj (by omega) (by omega) q.1)), pk_un e2, r70f]
        · rw [pu_if_f e, pu_if_f (fun q => e q.2)]) (fun t ht => Eq.trans (pu_z rfl) (Eq.symm (pu_if_f (fun e => jr_m1 (by omega) (r71f.symm.trans e)))))) rfl rfl (fun σ' g1 g2 => ?_))
  refine jr_return dX9_playCaused_32 rfl ?_
  exact hk σ' g1 g2
-- what is read off a trajectory
def tr_rs (W : Nat → Int32 × Int32) (rf : Int32) : Int32 := lp (fun i a => a + if rf ≤ (W (i + 1)).1 then 1 else 0) 0 40
def tr_fe (W : Nat → Int32 × Int32) : Int32 := lp (fun i a => a + (W (i + 1)).1) 0 40
def tr_mo (W : Nat → Int32 × Int32) : Int32 := lp (fun i a => pu_max a (W (i + 1)).1) (W 0).1 40
noncomputable def tr_fr (W : Nat → Int32 × Int32) (rf : Int32) : Int32 := oI (fs (fun i => rf ≤ (W (i + 1)).1) 0 40)
noncomputable def tr_la (W : Nat → Int32 × Int32) (rf : Int32) : Int32 := oI (ls (fun i => rf ≤ (W (i + 1)).1) 40)
noncomputable def tr_rt (W : Nat → Int32 × Int32) (rf : Int32) (what : Nat) : Int32 := match what with
  | 0 => tr_mo W
  | 1 => tr_rs W rf
  | 2 => tr_fr W rf
  | 3 => tr_la W rf
  | _ => tr_fe W
theorem fs_congr {P Q : Nat → Prop} : ∀ (m i : Nat), (∀ j, i ≤ j → j < i + m → (P j ↔ Q j)) → fs P i m = fs Q i m
  | 0, _, _ => rfl
  | m + 1, i, h => by
    by_cases hp : P i
    · rw [fs_t hp, fs_t ((h i (Nat.le_refl _) (by omega)).mp hp)]
    · rw [fs_f hp, fs_f (fun q => hp ((h i (Nat.le_refl _) (by omega)).mpr q)), fs_congr m (i + 1) (fun j h1 h2 => h j (by omega) (by omega))]
theorem ls_congr {P Q : Nat → Prop} : ∀ (m : Nat), (∀ j, j < m → (P j ↔ Q j)) → ls P m = ls Q m
  | 0, _ => rfl
  | m + 1, h => by
    by_cases hp : P m
    · rw [ls_t hp, ls_t ((h m (by omega)).mp hp)]
    · rw [ls_f hp, ls_f (fun q => hp ((h m (by omega)).mpr q)), ls_congr m (fun j hj => h j (by omega))]
theorem lp_shift (g : Nat → Int32 → Int32) (a : Int32) : ∀ n, lp g a (n + 1) = lp (fun i => g (i + 1)) (g 0 a) n
  | 0 => rfl
  | n + 1 => by rw [lp, lp_shift g a n]; rfl
theorem pd_rs {σ : jr_Sg} {f : Nat} {rf : Int32} {W : Nat → Int32 × Int32} (h : pd σ 40 f rf W) : lp (fun i a => a + if σ 14 f ≤ σ 12 (5 * (i + 1) + f) then 1 else 0) 0 40 = tr_rs W rf := lp_congr (fun i hi x => by rw [h.1, (h.2 (i + 1) (by omega)).1])
theorem pd_fe {σ : jr_Sg} {f : Nat} {rf : Int32} {W : Nat → Int32 × Int32} (h : pd σ 40 f rf W) : lp (fun i a => a + σ 12 (5 * (i + 1) + f)) 0 40 = tr_fe W := lp_congr (fun i hi x => by rw [(h.2 (i + 1) (by omega)).1])
theorem pd_mo {σ : jr_Sg} {f : Nat} {rf : Int32} {W : Nat → Int32 × Int32} (h : pd σ 40 f rf W) (h0 : 0 ≤ (W 0).1) : lp (fun i a => pu_max a (σ 12 (5 * i + f))) 0 41 = tr_mo W := by
  rw [lp_shift]
  have e : pu_max 0 (σ 12 (5 * 0 + f)) = (W 0).1 := by
    rw [(h.2 0 (by omega)).1]
    unfold pu_max
    grind
  rw [e]
  exact lp_congr (fun i hi x => by rw [(h.2 (i + 1) (by omega)).1])
theorem pd_fr {σ : jr_Sg} {f : Nat} {rf : Int32} {W : Nat → Int32 × Int32} (h : pd σ 40 f rf W) : oI (fs (fun i => σ 14 f ≤ σ 12 (5 * (i + 1) + f)) 0 40) = tr_fr W rf := by
  unfold tr_fr
  rw [fs_congr 40 0 (fun j h1 h2 => by rw [h.1, (h.2 (j + 1) (by omega)).1])]
theorem pd_la {σ : jr_Sg} {f : Nat} {rf : Int32} {W : Nat → Int32 × Int32} (h : pd σ 40 f rf W) : oI (ls (fun i => σ 14 f ≤ σ 12 (5 * (i + 1) + f)) 40) = tr_la W rf := by
  unfold tr_la
  rw [ls_congr 40 (fun j h1 => by rw [h.1, (h.2 (j + 1) (by omega)).1])]
theorem wp_cRedTold {G : jr_G} {d : Nat} {σ : jr_Sg} {k : Value → jr_Sg → Prop} {f what : Nat} {rf : Int32} {W : Nat → Int32 × Int32} (hf : f < 5) (hp : pd σ 40 f rf W) (h0 : 0 ≤ (W 0).1) (hw : what < 5) (h : k (.int (tr_rt W rf what)) σ) : jr_M G (d + 3) mi_X9_redTold [.ref 0, .int (nI f), .int (nI what)] σ (jr_k k) := by
  refine jr_enter (L := [some (.ref 0), some (.int (nI f)), some (.int (nI what))]) (by decide) (Nat.le_of_ble_eq_true rfl) rfl ?_
  rcases (by omega : what = 0 ∨ what = 1 ∨ what = 2 ∨ what = 3 ∨ what = 4) with rfl | rfl | rfl | rfl | rfl
  · refine jr_iload_n 2 1 dX9_redTold_0 rfl rfl rfl ?_
    refine jr_tableIn (off := 31) 32 dX9_redTold_1 (by decide) (by decide) (by decide) rfl ?_
    refine jr_aload_n 0 33 dX9_redTold_32 rfl rfl rfl ?_
    refine gf_X9_37 36 dX9_redTold_33 rfl rfl rfl rfl ?_
    refine jr_iload_n 1 37 dX9_redTold_36 rfl rfl rfl ?_
    refine cs_X9_222 40 dX9_redTold_37 rfl rfl rfl (Nat.le_of_ble_eq_true rfl) (wp_mostWarmth hf ?_)
    refine jr_ireturn dX9_redTold_40 rfl rfl ?_
    exact jr_eqk (pd_mo hp h0) h
  · refine jr_iload_n 2 1 dX9_redTold_0 rfl rfl rfl ?_
    refine jr_tableIn (off := 40) 41 dX9_redTold_1 (by decide) (by decide) (by decide) rfl ?_
    refine jr_aload_n 0 42 dX9_redTold_41 rfl rfl rfl ?_
    refine gf_X9_37 45 dX9_redTold_42 rfl rfl rfl rfl ?_
    refine jr_iload_n 1 46 dX9_redTold_45 rfl rfl rfl ?_
    refine cs_X9_236 49 dX9_redTold_46 rfl rfl rfl (Nat.le_of_ble_eq_true rfl) (wp_redSeconds hf ?_)
    refine jr_ireturn dX9_redTold_49 rfl rfl ?_
    exact jr_eqk (pd_rs hp) h
  · refine jr_iload_n 2 1 dX9_redTold_0 rfl rfl rfl ?_
    refine jr_tableIn (off := 49) 50 dX9_redTold_1 (by decide) (by decide) (by decide) rfl ?_
    refine jr_aload_n 0 51 dX9_redTold_50 rfl rfl rfl ?_
    refine gf_X9_37 54 dX9_redTold_51 rfl rfl rfl rfl ?_
    refine jr_iload_n 1 55 dX9_redTold_54 rfl rfl rfl ?_
    refine cs_X9_336 58 dX9_redTold_55 rfl rfl rfl (Nat.le_of_ble_eq_true rfl) (wp_firstRed hf ?_)
    refine jr_ireturn dX9_redTold_58 rfl rfl ?_
    exact jr_eqk (pd_fr hp) h
  · refine jr_iload_n 2 1 dX9_redTold_0 rfl rfl rfl ?_
    refine jr_tableIn (off := 58) 59 dX9_redTold_1 (by decide) (by decide) (by decide) rfl ?_
    refine jr_aload_n 0 60 dX9_redTold_59 rfl rfl rfl ?_
    refine gf_X9_37 63 dX9_redTold_60 rfl rfl rfl rfl ?_
    refine jr_iload_n 1 64 dX9_redTold_63 rfl rfl rfl ?_
    refine cs_X9_339 67 dX9_redTold_64 rfl rfl rfl (Nat.le_of_ble_eq_true rfl) (wp_lastRed hf ?_)
    refine jr_ireturn dX9_redTold_67 rfl rfl ?_
    exact jr_eqk (pd_la hp) h
  · refine jr_iload_n 2 1 dX9_redTold_0 rfl rfl rfl ?_
    refine jr_tableOut 68 dX9_redTold_1 (by decide) rfl ?_
    refine jr_aload_n 0 69 dX9_redTold_68 rfl rfl rfl ?_
    refine gf_X9_37 72 dX9_redTold_69 rfl rfl rfl rfl ?_
    refine jr_iload_n 1 73 dX9_redTold_72 rfl rfl rfl ?_
    refine cs_X9_240 76 dX9_redTold_73 rfl rfl rfl (Nat.le_of_ble_eq_true rfl) (wp_felt hf ?_)
    refine jr_ireturn dX9_redTold_76 rfl rfl ?_
    exact jr_eqk (pd_fe hp) h
/-- the reference has run 40 SECONDS of f -/
def rd (σ : jr_Sg) (f : Nat) (w0 : Int32) (W : Nat → Int32 × Int32) : Prop := (W 0).1 = w0 ∧ σ 65 f = (W 40).1 ∧ ∀ t, t < 40 → σ 69 (5 * t + f) = (W (t + 1)).1
theorem rd_rs {σ : jr_Sg} {f : Nat} {rf w0 : Int32} {W : Nat → Int32 × Int32} (h : rd σ f w0 W) : lp (fun i a => a + if rf ≤ σ 69 (5 * i + f) then 1 else 0) 0 40 = tr_rs W rf := lp_congr (fun i hi x => by rw [h.2.2 i hi])
theorem rd_fe {σ : jr_Sg} {f : Nat} {w0 : Int32} {W : Nat → Int32 × Int32} (h : rd σ f w0 W) : lp (fun i a => a + σ 69 (5 * i + f)) 0 40 = tr_fe W := lp_congr (fun i hi x => by rw [h.2.2 i hi])
theorem rd_mo {σ : jr_Sg} {f : Nat} {w0 : Int32} {W : Nat → Int32 × Int32} (h : rd σ f w0 W) : lp (fun i a => pu_max a (σ 69 (5 * i + f))) w0 40 = tr_mo W := by
  unfold tr_mo
  rw [h.1]
  exact lp_congr (fun i hi x => by rw [h.2.2 i hi])
theorem rd_fr {σ : jr_Sg} {f : Nat} {rf w0 : Int32} {W : Nat → Int32 × Int32} (h : rd σ f w0 W) : oI (fs (fun i => rf ≤ σ 69 (5 * i + f)) 0 40) = tr_fr W rf := by
  unfold tr_fr
  rw [fs_congr 40 0 (fun j h1 h2 => by rw [h.2.2 j (by omega)])]
theorem rd_la {σ : jr_Sg} {f : Nat} {rf w0 : Int32} {W : Nat → Int32 × Int32} (h : rd σ f w0 W) : oI (ls (fun i => rf ≤ σ 69 (5 * i + f)) 40) = tr_la W rf := by
  unfold tr_la
  rw [ls_congr 40 (fun j h1 => by rw [h.2.2 j h1])]
def iv_RX : List Nat := [63, 64, 65, 66, 67, 68, 69]
theorem wp_rRedTold {G : jr_G} {d : Nat} {σ : jr_Sg} {k : Value → jr_Sg → Prop} {f what : Nat} {T : Nat → Nat → List Nat} {n lw nf nc : Nat} {kd se : Nat → Nat} (hsr : sr_ok σ nf nc kd se) (hlm : ∃ m : Nat, m ≤ 400 ∧ σ 46 46 = nI m) (hT : ti_R T n σ) (hlw : lw < n) (hru : σ 46 13 = nI lw) (hf : f < nf) (hw : what < 5) (hk : ∀ σ' : jr_Sg, jr_eqx iv_RX σ σ' → k (.int (tr_rt (sm_R T lw nf nc kd se σ f) (pr_rf kd se σ f) what)) σ') : jr_M G (d + 6) mi_X10_redTold [.ref 46, .int (nI f), .int (nI what)] σ (jr_k k) := by
  refine jr_enter (L := [some (.ref 46), some (.int (nI f)), some (.int (nI what))]) (by decide) (Nat.le_of_ble_eq_true rfl) rfl ?_
  rcases (by omega : what = 0 ∨ what = 1 ∨ what = 2 ∨ what = 3 ∨ what = 4) with rfl | rfl | rfl | rfl | rfl
  · refine jr_aload_n 0 1 dX10_redTold_0 rfl rfl rfl ?_
    refine jr_bipush (40) 3 dX10_redTold_1 rfl rfl ?_
    refine cs_X10_253 6 dX10_redTold_3 rfl rfl rfl (Nat.le_of_ble_eq_true rfl) (wp_runs (len := 40) hsr hlm hT hlw hru (by omega) (fun σ1 g1 g2 => ?_))
    have hsr1 : sr_ok σ1 nf nc kd se := sr_ok_of hsr (g1 _ (by decide)) (g1 _ (by decide)) (g1 _ (by decide)) (g1 _ (by decide))
    have h5 : nf ≤ 5 := hsr.2.1
    have erf : pu_redf (kd f) (σ1 49 f) (σ1 47 (se f)) = pr_rf kd se σ f := by rw [g1 49 (by decide), g1 47 (by decide)]; rfl
    have hrd : rd σ1 f (σ1 50 f) (sm_R T lw nf nc kd se σ f) := ⟨by rw [g1 50 (by decide)]; rfl, (g2 f hf).1, (g2 f hf).2.2⟩
    refine jr_iload_n 2 7 dX10_redTold_6 rfl rfl rfl ?_
    refine jr_tableIn (off := 29) 36 dX10_redTold_7 (by decide) (by decide) (by decide) rfl ?_
    refine jr_aload_n 0 37 dX10_redTold_36 rfl rfl rfl ?_
    refine jr_iload_n 1 38 dX10_redTold_37 rfl rfl rfl ?_
    refine cs_X10_260 41 dX10_redTold_38 rfl rfl rfl (Nat.le_of_ble_eq_true rfl) (wp_mostWarm (by omega) ?_)
    refine jr_ireturn dX10_redTold_41 rfl rfl ?_
    exact jr_eqk (rd_mo hrd) (hk σ1 g1)
  · refine jr_aload_n 0 1 dX10_redTold_0 rfl rfl rfl ?_
    refine jr_bipush (40) 3 dX10_redTold_1 rfl rfl ?_
    refine cs_X10_253 6 dX10_redTold_3 rfl rfl rfl (Nat.le_of_ble_eq_true rfl) (wp_runs (len := 40) hsr hlm hT hlw hru (by omega) (fun σ1 g1 g2 => ?_))
    have hsr1 : sr_ok σ1 nf nc kd se := sr_ok_of hsr (g1 _ (by decide)) (g1 _ (by decide)) (g1 _ (by decide)) (g1 _ (by decide))
    have h5 : nf ≤ 5 := hsr.2.1
    have erf : pu_redf (kd f) (σ1 49 f) (σ1 47 (se f)) = pr_rf kd se σ f := by rw [g1 49 (by decide), g1 47 (by decide)]; rfl
    have hrd : rd σ1 f (σ1 50 f) (sm_R T lw nf nc kd se σ f) := ⟨by rw [g1 50 (by decide)]; rfl, (g2 f hf).1, (g2 f hf).2.2⟩
    refine jr_iload_n 2 7 dX10_redTold_6 rfl rfl rfl ?_
    refine jr_tableIn (off := 35) 42 dX10_redTold_7 (by decide) (by decide) (by decide) rfl ?_
    refine jr_aload_n 0 43 dX10_redTold_42 rfl rfl rfl ?_
    refine jr_iload_n 1 44 dX10_redTold_43 rfl rfl rfl ?_
    refine cs_X10_263 47 dX10_redTold_44 rfl rfl rfl (Nat.le_of_ble_eq_true rfl) (wp_rredSeconds hsr1 hf ?_)
    refine jr_ireturn dX10_redTold_47 rfl rfl ?_
    exact jr_eqk ((by rw [erf]; exact rd_rs hrd)) (hk σ1 g1)
  · refine jr_aload_n 0 1 dX10_redTold_0 rfl rfl rfl ?_
    refine jr_bipush (40) 3 dX10_redTold_1 rfl rfl ?_
    refine cs_X10_253 6 dX10_redTold_3 rfl rfl rfl (Nat.le_of_ble_eq_true rfl) (wp_runs (len := 40) hsr hlm hT hlw hru (by omega) (fun σ1 g1 g2 => ?_))
    have hsr1 : sr_ok σ1 nf nc kd se := sr_ok_of hsr (g1 _ (by decide)) (g1 _ (by decide)) (g1 _ (by decide)) (g1 _ (by decide))
    have h5 : nf ≤ 5 := hsr.2.1
    have erf : pu_redf (kd f) (σ1 49 f) (σ1 47 (se f)) = pr_rf kd se σ f := by rw [g1 49 (by decide), g1 47 (by decide)]; rfl
    have hrd : rd σ1 f (σ1 50 f) (sm_R T lw nf nc kd se σ f) := ⟨by rw [g1 50 (by decide)]; rfl, (g2 f hf).1, (g2 f hf).2.2⟩
    refine jr_iload_n 2 7 dX10_redTold_6 rfl rfl rfl ?_
    refine jr_tableIn (off := 41) 48 dX10_redTold_7 (by decide) (by decide) (by decide) rfl ?_
    refine jr_aload_n 0 49 dX10_redTold_48 rfl rfl rfl ?_
    refine jr_iload_n 1 50 dX10_redTold_49 rfl rfl rfl ?_
    refine cs_X10_266 53 dX10_redTold_50 rfl rfl rfl (Nat.le_of_ble_eq_true rfl) (wp_rfirstRed hsr1 hf ?_)
    refine jr_ireturn dX10_redTold_53 rfl rfl ?_
    exact jr_eqk ((by rw [erf]; exact rd_fr hrd)) (hk σ1 g1)
  · refine jr_aload_n 0 1 dX10_redTold_0 rfl rfl rfl ?_
    refine jr_bipush (40) 3 dX10_redTold_1 rfl rfl ?_
    refine cs_X10_253 6 dX10_redTold_3 rfl rfl rfl (Nat.le_of_ble_eq_true rfl) (wp_runs (len := 40) hsr hlm hT hlw hru (by omega) (fun σ1 g1 g2 => ?_))
    have hsr1 : sr_ok σ1 nf nc kd se := sr_ok_of hsr (g1 _ (by decide)) (g1 _ (by decide)) (g1 _ (by decide)) (g1 _ (by decide))
    have h5 : nf ≤ 5 := hsr.2.1
    have erf : pu_redf (kd f) (σ1 49 f) (σ1 47 (se f)) = pr_rf kd se σ f := by rw [g1 49 (by decide), g1 47 (by decide)]; rfl
    have hrd : rd σ1 f (σ1 50 f) (sm_R T lw nf nc kd se σ f) := ⟨by rw [g1 50 (by decide)]; rfl, (g2 f hf).1, (g2 f hf).2.2⟩
    refine jr_iload_n 2 7 dX10_redTold_6 rfl rfl rfl ?_
    refine jr_tableIn (off := 47) 54 dX10_redTold_7 (by decide) (by decide) (by decide) rfl ?_
    refine jr_aload_n 0 55 dX10_redTold_54 rfl rfl rfl ?_
    refine jr_iload_n 1 56 dX10_redTold_55 rfl rfl rfl ?_
    refine cs_X10_269 59 dX10_redTold_56 rfl rfl rfl (Nat.le_of_ble_eq_true rfl) (wp_rlastRed hsr1 hf ?_)
    refine jr_ireturn dX10_redTold_59 rfl rfl ?_
    exact jr_eqk ((by rw [erf]; exact rd_la hrd)) (hk σ1 g1)
  · refine jr_aload_n 0 1 dX10_redTold_0 rfl rfl rfl ?_
    refine jr_bipush (40) 3 dX10_redTold_1 rfl rfl ?_
    refine cs_X10_253 6 dX10_redTold_3 rfl rfl rfl (Nat.le_of_ble_eq_true rfl) (wp_runs (len := 40) hsr hlm hT hlw hru (by omega) (fun σ1 g1 g2 => ?_))
    have hsr1 : sr_ok σ1 nf nc kd se := sr_ok_of hsr (g1 _ (by decide)) (g1 _ (by decide)) (g1 _ (by decide)) (g1 _ (by decide))
    have h5 : nf ≤ 5 := hsr.2.1
    have erf : pu_redf (kd f) (σ1 49 f) (σ1 47 (se f)) = pr_rf kd se σ f := by rw [g1 49 (by decide), g1 47 (by decide)]; rfl
    have hrd : rd σ1 f (σ1 50 f) (sm_R T lw nf nc kd se σ f) := ⟨by rw [g1 50 (by decide)]; rfl, (g2 f hf).1, (g2 f hf).2.2⟩
    refine jr_iload_n 2 7 dX10_redTold_6 rfl rfl rfl ?_
    refine jr_tableOut 60 dX10_redTold_7 (by decide) rfl ?_
    refine jr_aload_n 0 61 dX10_redTold_60 rfl rfl rfl ?_
    refine jr_iload_n 1 62 dX10_redTold_61 rfl rfl rfl ?_
    refine cs_X10_272 65 dX10_redTold_62 rfl rfl rfl (Nat.le_of_ble_eq_true rfl) (wp_feltBy (by omega) ?_)
    refine jr_ireturn dX10_redTold_65 rfl rfl ?_
    exact jr_eqk (rd_fe hrd) (hk σ1 g1)

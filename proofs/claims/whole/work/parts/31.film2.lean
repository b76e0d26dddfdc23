/-- bits of those i whose answer is none -/
def bo (A : Nat → Int32) (n : Nat) : Int32 := lp (fun i a => a ||| if A i = -1 then (1 : Int32) <<< (nI i &&& 31) else 0) 0 n
theorem bo_t {A : Nat → Int32} {i : Nat} {x : Int32} (e : x = bo A i) (h : A i = -1) : x ||| (1 : Int32) <<< (nI i &&& 31) = bo A (i + 1) := by
  unfold bo at e ⊢
  rw [lp, ← e, if_pos h]
theorem bo_f {A : Nat → Int32} {i : Nat} {x : Int32} (e : x = bo A i) (h : ¬ A i = -1) : x ||| 0 = bo A (i + 1) := by
  unfold bo at e ⊢
  rw [lp, ← e, if_neg h]
theorem bo_s {A : Nat → Int32} {i : Nat} {x : Int32} (e : x = bo A i) (h : ¬ A i = -1) : x = bo A (i + 1) := by
  rw [← bo_f e h, Int32.or_zero]
theorem bo_congr {A B : Nat → Int32} {n : Nat} (h : ∀ i, i < n → A i = B i) : bo A n = bo B n := lp_congr (fun i hi x => by rw [h i hi])
theorem whose_x {G : jr_G} {d : Nat} {σ : jr_Sg} {k : Value → jr_Sg → Prop} {T : Nat → Nat → List Nat} {n nf nc lw tp j0 z : Nat} {kd se : Nat → Nat} (h : iv T n nf nc kd se lw tp σ) (hn : fr_no σ j0 z) {σ1 : jr_Sg} (g1 : jr_eqx iv_CX σ σ1) (g2 : ∀ f, f < nf → pd σ1 (5 * z) f (pr_rf kd se σ f) (sm_R T lw nf nc kd se σ f)) (fin : k (.int (bo (fun f => oI (fo (σ 45) (sm_R T lw nf nc kd se σ f) j0 z)) nf)) σ1) : ∀ (m i : Nat) (x : Int32), i + m = nf → x = bo (fun f => oI (fo (σ 45) (sm_R T lw nf nc kd se σ f) j0 z)) i → jr_R G (d + 19) mi_X9_whose (jr_k k) 26 [some (.ref 0), some (.int (nI j0)), some (.int 0), some (.int x), some (.int (nI i))] [] σ1 := by
  have h5 : nf ≤ 5 := h.2.2.1.2.1.2.1
  have hnf1 : σ1 15 8 = nI nf := by rw [g1 15 (by decide)]; exact h.2.2.1.1.1
  have hn1 := fn_x hn g1 (by decide)
  have e45 : σ1 45 = σ 45 := g1 45 (by decide)
  intro m
  induction m with
  | zero =>
    intro i x hi e
    have ei : i = nf := hi
    subst ei
    refine jr_iload 28 dX9_whose_26 rfl rfl ?_
    refine jr_aload_n 0 29 dX9_whose_28 rfl rfl rfl ?_
    refine gf_X9_44 32 dX9_whose_29 rfl rfl rfl rfl ?_
    refine gf_X9_84 35 dX9_whose_32 rfl rfl rfl rfl ?_
    rw [hnf1]
    refine jr_icmp_ge 62 38 dX9_whose_35 rfl rfl (fun q35 => ?_) (fun q => absurd (Int32.le_refl _) q)
    refine jr_iload_n 3 63 dX9_whose_62 rfl rfl rfl ?_
    refine jr_ireturn dX9_whose_63 rfl rfl ?_
    rw [e]
    exact fin
  | succ m ih =>
    intro i x hi e
    refine jr_iload 28 dX9_whose_26 rfl rfl ?_
    refine jr_aload_n 0 29 dX9_whose_28 rfl rfl rfl ?_
    refine gf_X9_44 32 dX9_whose_29 rfl rfl rfl rfl ?_
    refine gf_X9_84 35 dX9_whose_32 rfl rfl rfl rfl ?_
    rw [hnf1]
    refine jr_icmp_ge 62 38 dX9_whose_35 rfl rfl (fun q => absurd q (nI_ge (by omega) (by omega))) (fun q35 => ?_)
    refine jr_aload_n 0 39 dX9_whose_38 rfl rfl rfl ?_
    refine jr_iload_n 1 40 dX9_whose_39 rfl rfl rfl ?_
    refine jr_iload 42 dX9_whose_40 rfl rfl ?_
    refine cs_X9_295 45 dX9_whose_42 rfl rfl rfl (Nat.le_of_ble_eq_true rfl) (wp_firstOther (len := 5 * z) hn1 (by omega) (Nat.le_refl _) (g2 i (by omega)) ?_)
    rw [e45]
    refine jr_iconst ((-1)) 46 dX9_whose_45 rfl rfl ?_
    refine jr_icmp_ne 56 49 dX9_whose_46 rfl rfl (fun q46 => ?_) (fun q46 => ?_)
    · refine jr_iinc (v := nI (i + 1)) (L' := [_, _, _, _, _]) 59 dX9_whose_56 rfl rfl (nI_1 i) (by decide) rfl ?_
      refine jr_goto 26 dX9_whose_59 rfl ?_
      exact ih (i + 1) _ (by omega) (bo_s (A := (fun f => oI (fo (σ 45) (sm_R T lw nf nc kd se σ f) j0 z))) e q46)
    · refine jr_iload_n 3 50 dX9_whose_49 rfl rfl rfl ?_
      refine jr_iconst (1) 51 dX9_whose_50 rfl rfl ?_
      refine jr_iload 53 dX9_whose_51 rfl rfl ?_
      refine jr_ishl 54 dX9_whose_53 rfl ?_
      refine jr_ior 55 dX9_whose_54 rfl ?_
      refine jr_istore_n 3 (L' := [_, _, _, _, _]) 56 dX9_whose_55 rfl rfl (by decide) rfl ?_
      refine jr_iinc (v := nI (i + 1)) (L' := [_, _, _, _, _]) 59 dX9_whose_56 rfl rfl (nI_1 i) (by decide) rfl ?_
      refine jr_goto 26 dX9_whose_59 rfl ?_
      exact ih (i + 1) _ (by omega) (bo_t (A := (fun f => oI (fo (σ 45) (sm_R T lw nf nc kd se σ f) j0 z))) e q46)
theorem whose_r {G : jr_G} {d : Nat} {σ : jr_Sg} {k : Value → jr_Sg → Prop} {T : Nat → Nat → List Nat} {n nf nc lw tp j0 z : Nat} {kd se : Nat → Nat} (h : iv T n nf nc kd se lw tp σ) (hn : fr_no σ j0 z) {σ1 : jr_Sg} (g1 : jr_eqx iv_CX σ σ1) (fin : ∀ σ2 : jr_Sg, jr_eqx iv_RX σ1 σ2 → k (.int (bo (fun f => oI (fo (σ 45) (sm_R T lw nf nc kd se σ f) j0 z)) nf)) σ2) : ∀ (m i : Nat) (x : Int32) (σ2 : jr_Sg), i + m = nf → x = bo (fun f => oI (fo (σ 45) (sm_R T lw nf nc kd se σ f) j0 z)) i → jr_eqx iv_RX σ1 σ2 → jr_R G (d + 20) mi_X10_whose (jr_k k) 17 [some (.ref 46), some (.int (nI j0)), some (.int 0), some (.int x), some (.int (nI i))] [] σ2 := by
  have h1 := iv_mov (iv_cx g1) h
  have r1 := rr_of h1
  have hn1 := fn_x hn g1 (by decide)
  intro m
  induction m with
  | zero =>
    intro i x σ2 hi e g
    have ei : i = nf := hi
    subst ei
    have hnf1 : σ2 46 1 = nI i := by rw [g 46 (by decide)]; exact r1.1.1
    refine jr_iload 19 dX10_whose_17 rfl rfl ?_
    refine jr_aload_n 0 20 dX10_whose_19 rfl rfl rfl ?_
    refine gf_X10_105 23 dX10_whose_20 rfl rfl rfl rfl ?_
    rw [hnf1]
    refine jr_icmp_ge 54 26 dX10_whose_23 rfl rfl (fun q23 => ?_) (fun q => absurd (Int32.le_refl _) q)
    refine jr_iload_n 3 55 dX10_whose_54 rfl rfl rfl ?_
    refine jr_ireturn dX10_whose_55 rfl rfl ?_
    rw [e]
    exact fin σ2 g
  | succ m ih =>
    intro i x σ2 hi e g
    have h5 : nf ≤ 5 := r1.1.2.1
    have hnf1 : σ2 46 1 = nI nf := by rw [g 46 (by decide)]; exact r1.1.1
    have hn2 := fn_x hn1 g (by decide)
    have r2 := rr_rx r1 g
    have eA : oI (fo (σ2 59) (sm_R T lw nf nc kd se σ2 i) j0 z) = (fun f => oI (fo (σ 45) (sm_R T lw nf nc kd se σ f) j0 z)) i := by
      show _ = oI (fo (σ 45) (sm_R T lw nf nc kd se σ i) j0 z)
      rw [sm_R_rx g, sm_R_of g1, ← fo_congr (C := σ2 45) (fun q hq => hn2.2.2.2.2.2.2 q hq), g 45 (by decide), g1 45 (by decide)]
    refine jr_iload 19 dX10_whose_17 rfl rfl ?_
    refine jr_aload_n 0 20 dX10_whose_19 rfl rfl rfl ?_
    refine gf_X10_105 23 dX10_whose_20 rfl rfl rfl rfl ?_
    rw [hnf1]
    refine jr_icmp_ge 54 26 dX10_whose_23 rfl rfl (fun q => absurd q (nI_ge (by omega) (by omega))) (fun q23 => ?_)
    refine jr_iload_n 3 27 dX10_whose_26 rfl rfl rfl ?_
    refine jr_aload_n 0 28 dX10_whose_27 rfl rfl rfl ?_
    refine jr_iload_n 1 29 dX10_whose_28 rfl rfl rfl ?_
    refine jr_iload 31 dX10_whose_29 rfl rfl ?_
    refine cs_X10_325 34 dX10_whose_31 rfl rfl rfl (Nat.le_of_ble_eq_true rfl) (wp_unlike r2 hn2.1 hn2.2.1 hn2.2.2.2.1 (f := i) (by omega) (fun σ3 g3 => ?_))
    rw [eA]
    refine jr_iconst ((-1)) 35 dX10_whose_34 rfl rfl ?_
    refine jr_icmp_ne 45 38 dX10_whose_35 rfl rfl (fun q35 => ?_) (fun q35 => ?_)
    · refine jr_iconst (0) 46 dX10_whose_45 rfl rfl ?_
      refine jr_ior 47 dX10_whose_46 rfl ?_
      refine jr_istore_n 3 (L' := [_, _, _, _, _]) 48 dX10_whose_47 rfl rfl (by decide) rfl ?_
      refine jr_iinc (v := nI (i + 1)) (L' := [_, _, _, _, _]) 51 dX10_whose_48 rfl rfl (nI_1 i) (by decide) rfl ?_
      refine jr_goto 17 dX10_whose_51 rfl ?_
      exact ih (i + 1) _ σ3 (by omega) (bo_f (A := (fun f => oI (fo (σ 45) (sm_R T lw nf nc kd se σ f) j0 z))) e q35) (jr_eqx_tr g g3)
    · refine jr_iconst (1) 39 dX10_whose_38 rfl rfl ?_
      refine jr_iload 41 dX10_whose_39 rfl rfl ?_
      refine jr_ishl 42 dX10_whose_41 rfl ?_
      refine jr_goto 46 dX10_whose_42 rfl ?_
      refine jr_ior 47 dX10_whose_46 rfl ?_
      refine jr_istore_n 3 (L' := [_, _, _, _, _]) 48 dX10_whose_47 rfl rfl (by decide) rfl ?_
      refine jr_iinc (v := nI (i + 1)) (L' := [_, _, _, _, _]) 51 dX10_whose_48 rfl rfl (nI_1 i) (by decide) rfl ?_
      refine jr_goto 17 dX10_whose_51 rfl ?_
      exact ih (i + 1) _ σ3 (by omega) (bo_t (A := (fun f => oI (fo (σ 45) (sm_R T lw nf nc kd se σ f) j0 z))) e q35) (jr_eqx_tr g g3)
theorem pp_whose {G : jr_G} {d : Nat} {σ : jr_Sg} {a : Int32} (h : IV σ) : jr_pair G (d + 20) mi_X9_whose mi_X10_whose [.int a] σ := by
  obtain ⟨T, n, nf, nc, kd, se, lw, tp, h⟩ := h
  have hh := h
  obtain ⟨hTC, hTR, ⟨hsc, hsr, hl1, hl2, hlw, hfc, hli, hca⟩, htp, himg, hsh, hrest, hwd⟩ := hh
  have hnf := hsc.1
  have h5 := hsc.2.1
  have hnc := hsc.2.2.1
  have h8 := hsc.2.2.2.1
  have rnf := hsr.1
  have rnc := hsr.2.2.1
  have hlm := hrest.2.2.2.1
  unfold jr_pair
  rcases fr_cases hsh a with ⟨r, hr⟩ | ⟨j0, z, rfl, hn⟩
  · refine jr_enter (L := [some (.ref 0), some (.int a), none, none, none]) (by decide) (Nat.le_of_ble_eq_true rfl) rfl ?_
    refine jr_aload_n 0 1 dX9_whose_0 rfl rfl rfl ?_
    refine jr_iload_n 1 2 dX9_whose_1 rfl rfl rfl ?_
    refine cs_X9_289 5 dX9_whose_2 rfl rfl rfl (Nat.le_of_ble_eq_true rfl) (wp_filmRefusalF hsh hr ?_)
    refine jr_istore_n 2 (L' := [_, _, _, _, _]) 6 dX9_whose_5 rfl rfl (by decide) rfl ?_
    refine jr_iload_n 2 7 dX9_whose_6 rfl rfl rfl ?_
    refine jr_if_ge 12 10 dX9_whose_7 rfl rfl (fun q => absurd q (Int32.not_le.mpr (fr_neg hr))) (fun q7 => ?_)
    refine jr_iload_n 2 11 dX9_whose_10 rfl rfl rfl ?_
    refine jr_ireturn dX9_whose_11 rfl rfl ?_
    refine jr_enter (L := [some (.ref 46), some (.int a), none, none, none]) (by decide) (Nat.le_of_ble_eq_true rfl) rfl ?_
    refine jr_aload_n 0 1 dX10_whose_0 rfl rfl rfl ?_
    refine jr_iload_n 1 2 dX10_whose_1 rfl rfl rfl ?_
    refine cs_X10_319 5 dX10_whose_2 rfl rfl rfl (Nat.le_of_ble_eq_true rfl) (wp_sheetWrongF hr ?_)
    refine jr_istore_n 2 (L' := [_, _, _, _, _]) 6 dX10_whose_5 rfl rfl (by decide) rfl ?_
    refine jr_iload_n 2 7 dX10_whose_6 rfl rfl rfl ?_
    refine jr_if_eq 12 10 dX10_whose_7 rfl rfl (fun q => absurd q (fr_ne hr)) (fun q7 => ?_)
    refine jr_iload_n 2 11 dX10_whose_10 rfl rfl rfl ?_
    refine jr_ireturn dX10_whose_11 rfl rfl ?_
    exact ⟨rfl, IV_mov (iv_same_x (jr_eqx_rf [] _) (by decide)) h⟩
  · refine jr_enter (L := [some (.ref 0), some (.int (nI j0)), none, none, none]) (by decide) (Nat.le_of_ble_eq_true rfl) rfl ?_
    refine jr_aload_n 0 1 dX9_whose_0 rfl rfl rfl ?_
    refine jr_iload_n 1 2 dX9_whose_1 rfl rfl rfl ?_
    refine cs_X9_289 5 dX9_whose_2 rfl rfl rfl (Nat.le_of_ble_eq_true rfl) (wp_filmRefusalT hn ?_)
    refine jr_istore_n 2 (L' := [_, _, _, _, _]) 6 dX9_whose_5 rfl rfl (by decide) rfl ?_
    refine jr_iload_n 2 7 dX9_whose_6 rfl rfl rfl ?_
    refine jr_if_ge 12 10 dX9_whose_7 rfl rfl (fun q7 => ?_) (fun q => absurd (by decide) q)
    refine jr_aload_n 0 13 dX9_whose_12 rfl rfl rfl ?_
    refine jr_aload_n 0 14 dX9_whose_13 rfl rfl rfl ?_
    refine jr_iload_n 1 15 dX9_whose_14 rfl rfl rfl ?_
    refine cs_X9_292 18 dX9_whose_15 rfl rfl rfl (Nat.le_of_ble_eq_true rfl) (wp_filmLength hn ?_)
    refine cs_X9_205 21 dX9_whose_18 rfl rfl rfl (Nat.le_of_ble_eq_true rfl) (wp_playAllNow (len := 5 * z) h (by have := hn.2.1; omega) (jr_eqx_rf _ _) (fun σ1 g1 g6 g2 => ?_))
    refine jr_iconst (0) 22 dX9_whose_21 rfl rfl ?_
    refine jr_istore_n 3 (L' := [_, _, _, _, _]) 23 dX9_whose_22 rfl rfl (by decide) rfl ?_
    refine jr_iconst (0) 24 dX9_whose_23 rfl rfl ?_
    refine jr_istore (L' := [_, _, _, _, _]) 26 dX9_whose_24 rfl (by decide) rfl ?_
    refine whose_x h hn g1 g2 ?_ nf 0 _ (Nat.zero_add _) rfl
    have h1 := iv_mov (iv_cx g1) h
    have r1 := rr_of h1
    have hn1 := fn_x hn g1 (by decide)
    refine jr_enter (L := [some (.ref 46), some (.int (nI j0)), none, none, none]) (by decide) (Nat.le_of_ble_eq_true rfl) rfl ?_
    refine jr_aload_n 0 1 dX10_whose_0 rfl rfl rfl ?_
    refine jr_iload_n 1 2 dX10_whose_1 rfl rfl rfl ?_
    refine cs_X10_319 5 dX10_whose_2 rfl rfl rfl (Nat.le_of_ble_eq_true rfl) (wp_sheetWrongT hn1 ?_)
    refine jr_istore_n 2 (L' := [_, _, _, _, _]) 6 dX10_whose_5 rfl rfl (by decide) rfl ?_
    refine jr_iload_n 2 7 dX10_whose_6 rfl rfl rfl ?_
    refine jr_if_eq 12 10 dX10_whose_7 rfl rfl (fun q7 => ?_) (fun q => absurd (by decide) q)
    refine jr_iconst (0) 13 dX10_whose_12 rfl rfl ?_
    refine jr_istore_n 3 (L' := [_, _, _, _, _]) 14 dX10_whose_13 rfl rfl (by decide) rfl ?_
    refine jr_iconst (0) 15 dX10_whose_14 rfl rfl ?_
    refine jr_istore (L' := [_, _, _, _, _]) 17 dX10_whose_15 rfl (by decide) rfl ?_
    refine whose_r h hn g1 (fun σ2 g3 => ?_) nf 0 _ _ (Nat.zero_add _) rfl (jr_eqx_rf _ _)
    exact ⟨rfl, IV_mov (iv_same_tr (iv_cx g1) (iv_rx g3)) h⟩
theorem th_law {nf nc lw t : Nat} {kd se : Nat → Nat} {σ σR : jr_Sg} (h : th_ok nf nc lw kd se σ σR) : th_ok nf nc t kd se (jr_up σ 24 10 (nI t)) σR := by
  obtain ⟨hsc, hl, hx, hs2, hk⟩ := h
  exact ⟨hsc, rfl, hx, hs2, hk⟩
theorem rr_law {T : Nat → Nat → List Nat} {n nf nc lw t : Nat} {kd se : Nat → Nat} {σ : jr_Sg} (h : rr_ok T n nf nc kd se lw σ) (ht : t < n) : rr_ok T n nf nc kd se t (jr_up σ 46 13 (nI t)) := by
  obtain ⟨hr, hl, hT, hlw, hru⟩ := h
  exact ⟨hr, hl, hT, ht, rfl⟩
theorem laws_x {G : jr_G} {d : Nat} {σ : jr_Sg} {k : Value → jr_Sg → Prop} {T : Nat → Nat → List Nat} {n nf nc lw tp j0 z j : Nat} {kd se : Nat → Nat} (h : iv T n nf nc kd se lw tp σ) (hn : fr_no σ j0 z) (hj : j < nf) (fin : ∀ σ1 : jr_Sg, jr_eqx iv_CX σ σ1 → k (.int (bo (fun t => oI (fo (σ 45) (sm_R T t nf nc kd se σ j) j0 z)) n)) σ1) : ∀ (m i : Nat) (x : Int32) (σ1 : jr_Sg), i + m = n → x = bo (fun t => oI (fo (σ 45) (sm_R T t nf nc kd se σ j) j0 z)) i → jr_eqx iv_CX σ σ1 → jr_R G (d + 19) mi_X9_laws (jr_k k) 32 [some (.ref 0), some (.int (nI j0)), some (.int (nI j)), some (.int 0), some (.int x), some (.int (nI i))] [] σ1 := by
  have h5 : nf ≤ 5 := h.2.2.1.2.1.2.1
  have hn6 : n ≤ 6 := h.1.2.1
  intro m
  induction m with
  | zero =>
    intro i x σ1 hi e g
    have ei : i = n := hi
    subst ei
    have hn1 : σ1 1 4 = nI i := by rw [g 1 (by decide)]; exact h.1.1
    refine jr_iload 34 dX9_laws_32 rfl rfl ?_
    refine jr_aload_n 0 35 dX9_laws_34 rfl rfl rfl ?_
    refine gf_X9_10 38 dX9_laws_35 rfl rfl rfl rfl ?_
    refine gf_X9_91 41 dX9_laws_38 rfl rfl rfl rfl ?_
    rw [hn1]
    refine jr_icmp_ge 103 44 dX9_laws_41 rfl rfl (fun q41 => ?_) (fun q => absurd (Int32.le_refl _) q)
    refine jr_iload 105 dX9_laws_103 rfl rfl ?_
    refine jr_ireturn dX9_laws_105 rfl rfl ?_
    rw [e]
    exact fin σ1 g
  | succ m ih =>
    intro i x σ1 hi e g
    have hn1 : σ1 1 4 = nI n := by rw [g 1 (by decide)]; exact h.1.1
    refine jr_iload 34 dX9_laws_32 rfl rfl ?_
    refine jr_aload_n 0 35 dX9_laws_34 rfl rfl rfl ?_
    refine gf_X9_10 38 dX9_laws_35 rfl rfl rfl rfl ?_
    refine gf_X9_91 41 dX9_laws_38 rfl rfl rfl rfl ?_
    rw [hn1]
    refine jr_icmp_ge 103 44 dX9_laws_41 rfl rfl (fun q => absurd q (nI_ge (by omega) (by omega))) (fun q41 => ?_)
    refine jr_aload_n 0 45 dX9_laws_44 rfl rfl rfl ?_
    refine gf_X9_48 48 dX9_laws_45 rfl rfl rfl rfl ?_
    refine jr_aload_n 0 49 dX9_laws_48 rfl rfl rfl ?_
    refine gf_X9_44 52 dX9_laws_49 rfl rfl rfl rfl ?_
    refine cs_X9_225 55 dX9_laws_52 rfl rfl rfl (Nat.le_of_ble_eq_true rfl) (wp_become_24_15 (fun σ2 b => ?_))
    refine jr_aload_n 0 56 dX9_laws_55 rfl rfl rfl ?_
    refine gf_X9_48 59 dX9_laws_56 rfl rfl rfl rfl ?_
    refine jr_iload 61 dX9_laws_59 rfl rfl ?_
    refine pf_X9_94 64 dX9_laws_61 rfl rfl rfl rfl ?_
    have ht := th_law (t := i) (th_become h g b)
    have g2 := bc_cx g b
    have g3 : jr_eqx iv_CX σ (jr_up σ2 24 10 (nI i)) := jr_eqx_tr g2 (jr_eqx_up _ _ _ (by decide))
    have hT := ti_C_of h.1 (g3 1 (by decide)) (g3 2 (by decide)) (g3 3 (by decide))
    have hn3 := fn_x hn g3 (by decide)
    refine jr_aload_n 0 65 dX9_laws_64 rfl rfl rfl ?_
    refine jr_iload_n 2 66 dX9_laws_65 rfl rfl rfl ?_
    refine jr_aload_n 0 67 dX9_laws_66 rfl rfl rfl ?_
    refine jr_iload_n 1 68 dX9_laws_67 rfl rfl rfl ?_
    refine cs_X9_292 71 dX9_laws_68 rfl rfl rfl (Nat.le_of_ble_eq_true rfl) (wp_filmLength hn3 ?_)
    refine cs_X9_229 74 dX9_laws_71 rfl rfl rfl (Nat.le_of_ble_eq_true rfl) (wp_playThought (len := 5 * z) hT (by omega) ht (iv_none h) (by have := hn.2.1; omega) hj (fun σ4 g4 g5 => ?_))
    have g6 : jr_eqx iv_CX σ σ4 := jr_eqx_tr g3 (jr_eqx_w g4 (by decide))
    have hn4 := fn_x hn g6 (by decide)
    have e45 : σ4 45 = σ 45 := g6 45 (by decide)
    refine jr_iload 76 dX9_laws_74 rfl rfl ?_
    refine jr_aload_n 0 77 dX9_laws_76 rfl rfl rfl ?_
    refine jr_iload_n 1 78 dX9_laws_77 rfl rfl rfl ?_
    refine jr_iload_n 2 79 dX9_laws_78 rfl rfl rfl ?_
    refine cs_X9_295 82 dX9_laws_79 rfl rfl rfl (Nat.le_of_ble_eq_true rfl) (wp_firstOther (len := 5 * z) hn4 (by omega) (Nat.le_refl _) g5 ?_)
    rw [e45]
    refine jr_iconst ((-1)) 83 dX9_laws_82 rfl rfl ?_
    refine jr_icmp_ne 93 86 dX9_laws_83 rfl rfl (fun q83 => ?_) (fun q83 => ?_)
    · refine jr_iconst (0) 94 dX9_laws_93 rfl rfl ?_
      refine jr_ior 95 dX9_laws_94 rfl ?_
      refine jr_istore (L' := [_, _, _, _, _, _]) 97 dX9_laws_95 rfl (by decide) rfl ?_
      refine jr_iinc (v := nI (i + 1)) (L' := [_, _, _, _, _, _]) 100 dX9_laws_97 rfl rfl (nI_1 i) (by decide) rfl ?_
      refine jr_goto 32 dX9_laws_100 rfl ?_
      exact ih (i + 1) _ σ4 (by omega) (bo_f (A := (fun t => oI (fo (σ 45) (sm_R T t nf nc kd se σ j) j0 z))) e q83) g6
    · refine jr_iconst (1) 87 dX9_laws_86 rfl rfl ?_
      refine jr_iload 89 dX9_laws_87 rfl rfl ?_
      refine jr_ishl 90 dX9_laws_89 rfl ?_
      refine jr_goto 94 dX9_laws_90 rfl ?_
      refine jr_ior 95 dX9_laws_94 rfl ?_
      refine jr_istore (L' := [_, _, _, _, _, _]) 97 dX9_laws_95 rfl (by decide) rfl ?_
      refine jr_iinc (v := nI (i + 1)) (L' := [_, _, _, _, _, _]) 100 dX9_laws_97 rfl rfl (nI_1 i) (by decide) rfl ?_
      refine jr_goto 32 dX9_laws_100 rfl ?_
      exact ih (i + 1) _ σ4 (by omega) (bo_t (A := (fun t => oI (fo (σ 45) (sm_R T t nf nc kd se σ j) j0 z))) e q83) g6
theorem fn_46 {σ σ' : jr_Sg} {j z : Nat} (h : fr_no σ j z) (g : ∀ a, a ∈ [43, 44, 45, 57, 58, 59] → σ' a = σ a) : fr_no σ' j z := by
  unfold fr_no at h ⊢
  rw [g 43 (by decide), g 44 (by decide), g 45 (by decide), g 57 (by decide), g 58 (by decide), g 59 (by decide)]
  exact h
theorem laws_r {G : jr_G} {d : Nat} {σ : jr_Sg} {k : Value → jr_Sg → Prop} {T : Nat → Nat → List Nat} {n nf nc lw tp j0 z j : Nat} {kd se : Nat → Nat} (h : iv T n nf nc kd se lw tp σ) (hn : fr_no σ j0 z) (hj : j < nf) {σ1 : jr_Sg} (g1 : jr_eqx iv_CX σ σ1) (fin : ∀ σ2 : jr_Sg, jr_eqs [13] σ1 σ2 → σ2 46 13 = σ1 46 13 → k (.int (bo (fun t => oI (fo (σ 45) (sm_R T t nf nc kd se σ j) j0 z)) n)) σ2) : ∀ (m i : Nat) (x : Int32) (σ2 : jr_Sg), i + m = n → x = bo (fun t => oI (fo (σ 45) (sm_R T t nf nc kd se σ j) j0 z)) i → jr_eqs [13] σ1 σ2 → jr_R G (d + 20) mi_X10_laws (jr_k k) 25 [some (.ref 46), some (.int (nI j0)), some (.int (nI j)), some (.int 0), some (.int (σ1 46 13)), some (.int x), some (.int (nI i))] [] σ2 := by
  have h1 := iv_mov (iv_cx g1) h
  have r1 := rr_of h1
  have hn1 := fn_x hn g1 (by decide)
  have hn6 : n ≤ 6 := h.1.2.1
  intro m
  induction m with
  | zero =>
    intro i x σ2 hi e g
    have ei : i = n := hi
    subst ei
    have hnf1 : σ2 46 12 = nI i := by rw [g.2 12 (by decide)]; exact h1.2.1.1
    refine jr_iload 27 dX10_laws_25 rfl rfl ?_
    refine jr_aload_n 0 28 dX10_laws_27 rfl rfl rfl ?_
    refine gf_X10_115 31 dX10_laws_28 rfl rfl rfl rfl ?_
    rw [hnf1]
    refine jr_icmp_ge 69 34 dX10_laws_31 rfl rfl (fun q31 => ?_) (fun q => absurd (Int32.le_refl _) q)
    refine jr_aload_n 0 70 dX10_laws_69 rfl rfl rfl ?_
    refine jr_iload 72 dX10_laws_70 rfl rfl ?_
    refine pf_X10_118 75 dX10_laws_72 rfl rfl rfl rfl ?_
    refine jr_iload 77 dX10_laws_75 rfl rfl ?_
    refine jr_ireturn dX10_laws_77 rfl rfl ?_
    rw [e]
    exact fin _ (eqs_tr g (eqs_up _ _ (by decide))) rfl
  | succ m ih =>
    intro i x σ2 hi e g
    have h5 : nf ≤ 5 := r1.1.2.1
    have hnf1 : σ2 46 12 = nI n := by rw [g.2 12 (by decide)]; exact h1.2.1.1
    have gg : jr_eqs [13] σ1 (jr_up σ2 46 13 (nI i)) := eqs_tr g (eqs_up _ _ (by decide))
    have hn2 : fr_no (jr_up σ2 46 13 (nI i)) j0 z := fn_46 hn1 (fun a ha => gg.1 a (by revert a; decide) (by revert a; decide))
    have r2 : rr_ok T n nf nc kd se i (jr_up σ2 46 13 (nI i)) := by
      have q := rr_ag (rr_law (t := i) r1 (by omega)) (σ' := jr_up σ2 46 13 (nI i)) ⟨fun a ha => by
        rw [gg.1 a (by revert a; decide) (by revert a; decide)]
        unfold jr_up
        rw [if_neg (by revert a; decide)], fun k hk => by
        show upd (σ2 46) 13 (nI i) k = upd (σ1 46) 13 (nI i) k
        by_cases e : k = 13
        · subst e; rw [pk_us, pk_us]
        · rw [pk_un e, pk_un e]; exact g.2 k (by simpa using e)⟩
      exact q
    have eW : sm_R T i nf nc kd se (jr_up σ2 46 13 (nI i)) j = sm_R T i nf nc kd se σ j := (sm_R_ag (σ := σ1) ⟨fun a ha => gg.1 a (by revert a; decide) (by revert a; decide), fun k hk => gg.2 k (by revert k; decide)⟩).trans (sm_R_of g1)
    have eA : oI (fo ((jr_up σ2 46 13 (nI i)) 59) (sm_R T i nf nc kd se (jr_up σ2 46 13 (nI i)) j) j0 z) = (fun t => oI (fo (σ 45) (sm_R T t nf nc kd se σ j) j0 z)) i := by
      show _ = oI (fo (σ 45) (sm_R T i nf nc kd se σ j) j0 z)
      rw [eW, ← fo_congr (C := (jr_up σ2 46 13 (nI i)) 45) (fun q hq => hn2.2.2.2.2.2.2 q hq), gg.1 45 (by decide) (by decide), g1 45 (by decide)]
    refine jr_iload 27 dX10_laws_25 rfl rfl ?_
    refine jr_aload_n 0 28 dX10_laws_27 rfl rfl rfl ?_
    refine gf_X10_115 31 dX10_laws_28 rfl rfl rfl rfl ?_
    rw [hnf1]
    refine jr_icmp_ge 69 34 dX10_laws_31 rfl rfl (fun q => absurd q (nI_ge (by omega) (by omega))) (fun q31 => ?_)
    refine jr_aload_n 0 35 dX10_laws_34 rfl rfl rfl ?_
    refine jr_iload 37 dX10_laws_35 rfl rfl ?_
    refine pf_X10_118 40 dX10_laws_37 rfl rfl rfl rfl ?_
    refine jr_iload 42 dX10_laws_40 rfl rfl ?_
    refine jr_aload_n 0 43 dX10_laws_42 rfl rfl rfl ?_
    refine jr_iload_n 1 44 dX10_laws_43 rfl rfl rfl ?_
    refine jr_iload_n 2 45 dX10_laws_44 rfl rfl rfl ?_
    refine cs_X10_325 48 dX10_laws_45 rfl rfl rfl (Nat.le_of_ble_eq_true rfl) (wp_unlike r2 hn2.1 hn2.2.1 hn2.2.2.2.1 (f := j) (by omega) (fun σ3 g3 => ?_))
    rw [eA]
    refine jr_iconst ((-1)) 49 dX10_laws_48 rfl rfl ?_
    refine jr_icmp_ne 59 52 dX10_laws_49 rfl rfl (fun q49 => ?_) (fun q49 => ?_)
    · refine jr_iconst (0) 60 dX10_laws_59 rfl rfl ?_
      refine jr_ior 61 dX10_laws_60 rfl ?_
      refine jr_istore (L' := [_, _, _, _, _, _, _]) 63 dX10_laws_61 rfl (by decide) rfl ?_
      refine jr_iinc (v := nI (i + 1)) (L' := [_, _, _, _, _, _, _]) 66 dX10_laws_63 rfl rfl (nI_1 i) (by decide) rfl ?_
      refine jr_goto 25 dX10_laws_66 rfl ?_
      exact ih (i + 1) _ σ3 (by omega) (bo_f (A := (fun t => oI (fo (σ 45) (sm_R T t nf nc kd se σ j) j0 z))) e q49) (eqs_tr gg (eqs_rx g3))
    · refine jr_iconst (1) 53 dX10_laws_52 rfl rfl ?_
      refine jr_iload 55 dX10_laws_53 rfl rfl ?_
      refine jr_ishl 56 dX10_laws_55 rfl ?_
      refine jr_goto 60 dX10_laws_56 rfl ?_
      refine jr_ior 61 dX10_laws_60 rfl ?_
      refine jr_istore (L' := [_, _, _, _, _, _, _]) 63 dX10_laws_61 rfl (by decide) rfl ?_
      refine jr_iinc (v := nI (i + 1)) (L' := [_, _, _, _, _, _, _]) 66 dX10_laws_63 rfl rfl (nI_1 i) (by decide) rfl ?_
      refine jr_goto 25 dX10_laws_66 rfl ?_
      exact ih (i + 1) _ σ3 (by omega) (bo_t (A := (fun t => oI (fo (σ 45) (sm_R T t nf nc kd se σ j) j0 z))) e q49) (eqs_tr gg (eqs_rx g3))
theorem pp_laws {G : jr_G} {d : Nat} {σ : jr_Sg} {a f : Int32} (h : IV σ) : jr_pair G (d + 20) mi_X9_laws mi_X10_laws [.int a, .int f] σ := by
  obtain ⟨T, n, nf, nc, kd, se, lw, tp, h⟩ := h
  have hh := h
  obtain ⟨hTC, hTR, ⟨hsc, hsr, hl1, hl2, hlw, hfc, hli, hca⟩, htp, himg, hsh, hrest, hwd⟩ := hh
  have hnf := hsc.1
  have h5 := hsc.2.1
  have hnc := hsc.2.2.1
  have h8 := hsc.2.2.2.1
  have rnf := hsr.1
  have rnc := hsr.2.2.1
  have hlm := hrest.2.2.2.1
  unfold jr_pair
  rcases fr_cases hsh a with ⟨r, hr⟩ | ⟨j0, z, rfl, hn⟩
  · refine jr_enter (L := [some (.ref 0), some (.int a), some (.int f), none, none, none]) (by decide) (Nat.le_of_ble_eq_true rfl) rfl ?_
    refine jr_aload_n 0 1 dX9_laws_0 rfl rfl rfl ?_
    refine jr_iload_n 1 2 dX9_laws_1 rfl rfl rfl ?_
    refine cs_X9_289 5 dX9_laws_2 rfl rfl rfl (Nat.le_of_ble_eq_true rfl) (wp_filmRefusalF hsh hr ?_)
    refine jr_istore_n 3 (L' := [_, _, _, _, _, _]) 6 dX9_laws_5 rfl rfl (by decide) rfl ?_
    refine jr_iload_n 3 7 dX9_laws_6 rfl rfl rfl ?_
    refine jr_if_ge 12 10 dX9_laws_7 rfl rfl (fun q => absurd q (Int32.not_le.mpr (fr_neg hr))) (fun q7 => ?_)
    refine jr_iload_n 3 11 dX9_laws_10 rfl rfl rfl ?_
    refine jr_ireturn dX9_laws_11 rfl rfl ?_
    refine jr_enter (L := [some (.ref 46), some (.int a), some (.int f), none, none, none, none]) (by decide) (Nat.le_of_ble_eq_true rfl) rfl ?_
    refine jr_aload_n 0 1 dX10_laws_0 rfl rfl rfl ?_
    refine jr_iload_n 1 2 dX10_laws_1 rfl rfl rfl ?_
    refine jr_iload_n 2 3 dX10_laws_2 rfl rfl rfl ?_
    refine cs_X10_322 6 dX10_laws_3 rfl rfl rfl (Nat.le_of_ble_eq_true rfl) (wp_toldWrongF hr ?_)
    refine jr_istore_n 3 (L' := [_, _, _, _, _, _, _]) 7 dX10_laws_6 rfl rfl (by decide) rfl ?_
    refine jr_iload_n 3 8 dX10_laws_7 rfl rfl rfl ?_
    refine jr_if_eq 13 11 dX10_laws_8 rfl rfl (fun q => absurd q (fr_ne hr)) (fun q8 => ?_)
    refine jr_iload_n 3 12 dX10_laws_11 rfl rfl rfl ?_
    refine jr_ireturn dX10_laws_12 rfl rfl ?_
    exact ⟨rfl, IV_mov (iv_same_x (jr_eqx_rf [] _) (by decide)) h⟩
  · rcases jr_fc f h5 with hf | ⟨j, hj, rfl⟩
    · refine jr_enter (L := [some (.ref 0), some (.int (nI j0)), some (.int f), none, none, none]) (by decide) (Nat.le_of_ble_eq_true rfl) rfl ?_
      refine jr_aload_n 0 1 dX9_laws_0 rfl rfl rfl ?_
      refine jr_iload_n 1 2 dX9_laws_1 rfl rfl rfl ?_
      refine cs_X9_289 5 dX9_laws_2 rfl rfl rfl (Nat.le_of_ble_eq_true rfl) (wp_filmRefusalT hn ?_)
      refine jr_istore_n 3 (L' := [_, _, _, _, _, _]) 6 dX9_laws_5 rfl rfl (by decide) rfl ?_
      refine jr_iload_n 3 7 dX9_laws_6 rfl rfl rfl ?_
      refine jr_if_ge 12 10 dX9_laws_7 rfl rfl (fun q7 => ?_) (fun q => absurd (by decide) q)
      refine jr_aload_n 0 13 dX9_laws_12 rfl rfl rfl ?_
      refine gf_X9_44 16 dX9_laws_13 rfl rfl rfl rfl ?_
      refine jr_iload_n 2 17 dX9_laws_16 rfl rfl rfl ?_
      refine cs_X9_146 20 dX9_laws_17 rfl rfl rfl (Nat.le_of_ble_eq_true rfl) (wp_has_15 hnf h5 (fun j hj e => absurd hf (by rw [e]; exact jr_fcn hj (by omega))) (fun _ => ?_))
      refine jr_if_ne 26 23 dX9_laws_20 rfl rfl (fun q => absurd (by decide) q) (fun q20 => ?_)
      refine jr_bipush ((-5)) 25 dX9_laws_23 rfl rfl ?_
      refine jr_ireturn dX9_laws_25 rfl rfl ?_
      refine jr_enter (L := [some (.ref 46), some (.int (nI j0)), some (.int f), none, none, none, none]) (by decide) (Nat.le_of_ble_eq_true rfl) rfl ?_
      refine jr_aload_n 0 1 dX10_laws_0 rfl rfl rfl ?_
      refine jr_iload_n 1 2 dX10_laws_1 rfl rfl rfl ?_
      refine jr_iload_n 2 3 dX10_laws_2 rfl rfl rfl ?_
      refine cs_X10_322 6 dX10_laws_3 rfl rfl rfl (Nat.le_of_ble_eq_true rfl) (wp_toldWrongN rnf h5 hf hn ?_)
      refine jr_istore_n 3 (L' := [_, _, _, _, _, _, _]) 7 dX10_laws_6 rfl rfl (by decide) rfl ?_
      refine jr_iload_n 3 8 dX10_laws_7 rfl rfl rfl ?_
      refine jr_if_eq 13 11 dX10_laws_8 rfl rfl (fun q => absurd q (by decide)) (fun q8 => ?_)
      refine jr_iload_n 3 12 dX10_laws_11 rfl rfl rfl ?_
      refine jr_ireturn dX10_laws_12 rfl rfl ?_
      exact ⟨rfl, IV_mov (iv_same_x (jr_eqx_rf [] _) (by decide)) h⟩
    · refine jr_enter (L := [some (.ref 0), some (.int (nI j0)), some (.int (nI j)), none, none, none]) (by decide) (Nat.le_of_ble_eq_true rfl) rfl ?_
      refine jr_aload_n 0 1 dX9_laws_0 rfl rfl rfl ?_
      refine jr_iload_n 1 2 dX9_laws_1 rfl rfl rfl ?_
      refine cs_X9_289 5 dX9_laws_2 rfl rfl rfl (Nat.le_of_ble_eq_true rfl) (wp_filmRefusalT hn ?_)
      refine jr_istore_n 3 (L' := [_, _, _, _, _, _]) 6 dX9_laws_5 rfl rfl (by decide) rfl ?_
      refine jr_iload_n 3 7 dX9_laws_6 rfl rfl rfl ?_
      refine jr_if_ge 12 10 dX9_laws_7 rfl rfl (fun q7 => ?_) (fun q => absurd (by decide) q)
      refine jr_aload_n 0 13 dX9_laws_12 rfl rfl rfl ?_
      refine gf_X9_44 16 dX9_laws_13 rfl rfl rfl rfl ?_
      refine jr_iload_n 2 17 dX9_laws_16 rfl rfl rfl ?_
      refine cs_X9_146 20 dX9_laws_17 rfl rfl rfl (Nat.le_of_ble_eq_true rfl) (wp_hasT_15 hnf h5 hj ?_)
      refine jr_if_ne 26 23 dX9_laws_20 rfl rfl (fun q20 => ?_) (fun q => absurd q (by decide))
      refine jr_iconst (0) 27 dX9_laws_26 rfl rfl ?_
      refine jr_istore (L' := [_, _, _, _, _, _]) 29 dX9_laws_27 rfl (by decide) rfl ?_
      refine jr_iconst (0) 30 dX9_laws_29 rfl rfl ?_
      refine jr_istore (L' := [_, _, _, _, _, _]) 32 dX9_laws_30 rfl (by decide) rfl ?_
      refine laws_x h hn hj (fun σ1 g1 => ?_) n 0 _ σ (Nat.zero_add _) rfl (jr_eqx_rf _ _)
      have h1 := iv_mov (iv_cx g1) h
      have r1 := rr_of h1
      have hn1 := fn_x hn g1 (by decide)
      refine jr_enter (L := [some (.ref 46), some (.int (nI j0)), some (.int (nI j)), none, none, none, none]) (by decide) (Nat.le_of_ble_eq_true rfl) rfl ?_
      refine jr_aload_n 0 1 dX10_laws_0 rfl rfl rfl ?_
      refine jr_iload_n 1 2 dX10_laws_1 rfl rfl rfl ?_
      refine jr_iload_n 2 3 dX10_laws_2 rfl rfl rfl ?_
      refine cs_X10_322 6 dX10_laws_3 rfl rfl rfl (Nat.le_of_ble_eq_true rfl) (wp_toldWrongT r1.1.1 h5 hj hn1 ?_)
      refine jr_istore_n 3 (L' := [_, _, _, _, _, _, _]) 7 dX10_laws_6 rfl rfl (by decide) rfl ?_
      refine jr_iload_n 3 8 dX10_laws_7 rfl rfl rfl ?_
      refine jr_if_eq 13 11 dX10_laws_8 rfl rfl (fun q8 => ?_) (fun q => absurd (by decide) q)
      refine jr_aload_n 0 14 dX10_laws_13 rfl rfl rfl ?_
      refine gf_X10_118 17 dX10_laws_14 rfl rfl rfl rfl ?_
      refine jr_istore (L' := [_, _, _, _, _, _, _]) 19 dX10_laws_17 rfl (by decide) rfl ?_
      refine jr_iconst (0) 20 dX10_laws_19 rfl rfl ?_
      refine jr_istore (L' := [_, _, _, _, _, _, _]) 22 dX10_laws_20 rfl (by decide) rfl ?_
      refine jr_iconst (0) 23 dX10_laws_22 rfl rfl ?_
      refine jr_istore (L' := [_, _, _, _, _, _, _]) 25 dX10_laws_23 rfl (by decide) rfl ?_
      refine laws_r h hn hj g1 (fun σ2 g3 e3 => ?_) n 0 _ _ (Nat.zero_add _) rfl (eqs_rf _ _)
      exact ⟨rfl, IV_mov (iv_same_tr (iv_cx g1) (iv_eqs (FX := [13]) g3 (fun k hk hk2 => by
          obtain rfl := (by simpa using hk : k = 13)
          exact e3))) h⟩
/-- f's KIND is c, its MORE b -/
def kS (σ : jr_Sg) (f c b : Nat) : jr_Sg := jr_up (jr_up σ 48 f (nI c)) 49 f (nI b)
def kup (kd : Nat → Nat) (f c x : Nat) : Nat := if x = f then c else kd x
theorem kup_s {kd : Nat → Nat} {f c : Nat} : kup kd f c f = c := if_pos rfl
theorem kup_n {kd : Nat → Nat} {f c x : Nat} (h : ¬ x = f) : kup kd f c x = kd x := if_neg h
theorem kup_up {kd : Nat → Nat} {f c x : Nat} {g : Nat → Int32} (h : g x = nI (kd x)) : upd g f (nI c) x = nI (kup kd f c x) := by
  by_cases e : x = f
  · subst e; rw [pk_us, kup_s]
  · rw [pk_un e, kup_n e, h]
theorem kup_b {kd : Nat → Nat} {f c x m : Nat} (hc : c < m) (h : kd x < m) : kup kd f c x < m := by
  unfold kup
  split
  · exact hc
  · exact h
theorem th_kind {nf nc lw f c b : Nat} {kd se : Nat → Nat} {σ σR : jr_Sg} (h : th_ok nf nc lw kd se σ σR) (hc : c < 6) (eb : σR 49 f = nI b) : th_ok nf nc lw (kup kd f c) se (jr_up σ 25 f (nI c)) (kS σR f c b) := by
  obtain ⟨hsc, hl, hx, hs2, hk⟩ := h
  refine ⟨⟨hsc.1, hsc.2.1, hsc.2.2.1, hsc.2.2.2.1, fun x hx2 => ⟨kup_b hc (hsc.2.2.2.2 x hx2).1, (hsc.2.2.2.2 x hx2).2.1, kup_up (hsc.2.2.2.2 x hx2).2.2.1, (hsc.2.2.2.2 x hx2).2.2.2⟩⟩, hl, fun x hx2 => ⟨?_, (hx x hx2).2⟩, hs2, hk⟩
  show σ 26 x = upd (σR 49) f (nI b) x
  by_cases e : x = f
  · subst e; rw [pk_us, ← eb]; exact (hx x hx2).1
  · rw [pk_un e]; exact (hx x hx2).1
theorem th_more {nf nc lw f b : Nat} {kd se : Nat → Nat} {σ σR : jr_Sg} (h : th_ok nf nc lw kd se σ σR) (hf : f < nf) : th_ok nf nc lw (kup kd f (kd f)) se (jr_up σ 26 f (nI b)) (kS σR f (kd f) b) := by
  obtain ⟨hsc, hl, hx, hs2, hk⟩ := h
  have ek : kup kd f (kd f) = kd := by
    funext x
    unfold kup
    split
    · rename_i e; rw [e]
    · rfl
  rw [ek]
  refine ⟨hsc, hl, fun x hx2 => ⟨?_, (hx x hx2).2⟩, hs2, hk⟩
  show upd (σ 26) f (nI b) x = upd (σR 49) f (nI b) x
  by_cases e : x = f
  · subst e; rw [pk_us, pk_us]
  · rw [pk_un e, pk_un e]; exact (hx x hx2).1
theorem rr_kind {T : Nat → Nat → List Nat} {n nf nc lw f c b : Nat} {kd se : Nat → Nat} {σ : jr_Sg} (h : rr_ok T n nf nc kd se lw σ) (hc : c < 6) (hb : b ≤ 9) : rr_ok T n nf nc (kup kd f c) se lw (kS σ f c b) := by
  obtain ⟨hr, hl, hT, hlw, hru⟩ := h
  refine ⟨⟨hr.1, hr.2.1, hr.2.2.1, hr.2.2.2.1, fun x hx => ⟨kup_b hc (hr.2.2.2.2 x hx).1, (hr.2.2.2.2 x hx).2.1, kup_up (hr.2.2.2.2 x hx).2.2.1, (hr.2.2.2.2 x hx).2.2.2.1, ?_⟩⟩, hl, hT, hlw, hru⟩
  show ∃ b2 : Nat, b2 ≤ 9 ∧ upd (σ 49) f (nI b) x = nI b2
  by_cases e : x = f
  · subst e; exact ⟨b, hb, pk_us⟩
  · rw [pk_un e]; exact (hr.2.2.2.2 x hx).2.2.2.2
def ks_in (f : Nat) (σ1 σ2 : jr_Sg) : Prop := jr_eqx (48 :: 49 :: iv_RX) σ1 σ2 ∧ ∀ i, i ≠ f → σ2 48 i = σ1 48 i ∧ σ2 49 i = σ1 49 i
theorem ks_eq {f c b : Nat} {σ1 σ2 : jr_Sg} (h : ks_in f σ1 σ2) : jr_eqx iv_RX (kS σ1 f c b) (kS σ2 f c b) := fun a ha => by
  unfold kS jr_up
  by_cases e9 : a = 49
  · subst e9; rw [if_pos rfl, if_pos rfl]; exact up_back (fun i hi => (h.2 i hi).2)
  · rw [if_neg e9, if_neg e9]
    by_cases e8 : a = 48
    · subst e8; rw [if_pos rfl, if_pos rfl]; exact up_back (fun i hi => (h.2 i hi).1)
    · rw [if_neg e8, if_neg e8]
      exact h.1 a (by simp only [List.mem_cons]; exact fun q => q.elim e8 (fun q => q.elim e9 ha))
theorem ks_on {f c b : Nat} {σ1 σ2 σ3 : jr_Sg} (h : ks_in f σ1 σ2) (g : jr_eqx iv_RX (kS σ2 f c b) σ3) : ks_in f σ1 σ3 := by
  refine ⟨fun a ha => ?_, fun i hi => ?_⟩
  · rw [g a (fun q => ha (List.mem_cons_of_mem _ (List.mem_cons_of_mem _ q)))]
    have e8 : ¬ a = 48 := fun q => ha (by rw [q]; decide)
    have e9 : ¬ a = 49 := fun q => ha (by rw [q]; decide)
    exact (show kS σ2 f c b a = σ2 a by unfold kS jr_up; rw [if_neg e9, if_neg e8]).trans (h.1 a ha)
  · rw [g 48 (by decide), g 49 (by decide)]
    exact ⟨(show upd (σ2 48) f (nI c) i = _ from pk_un hi).trans (h.2 i hi).1, (show upd (σ2 49) f (nI b) i = _ from pk_un hi).trans (h.2 i hi).2⟩
theorem kS_cx {f c b : Nat} {σ σ' : jr_Sg} (g : jr_eqx iv_CX σ σ') : jr_eqx iv_CX (kS σ f c b) (kS σ' f c b) := jr_eqx_upb (jr_eqx_upb g (by decide)) (by decide)
theorem kinds_x0 {G : jr_G} {d : Nat} {σ : jr_Sg} {k : Value → jr_Sg → Prop} {T : Nat → Nat → List Nat} {n nf nc lw tp j0 z j b0 : Nat} {kd se : Nat → Nat} (h : iv T n nf nc kd se lw tp σ) (hn : fr_no σ j0 z) (hj : j < nf) (hb0 : b0 ≤ 9) (eb : σ 49 j = nI b0) (fin : ∀ σ1 : jr_Sg, jr_eqx iv_CX σ σ1 → k (.int (bo (fun t => oI (fo (σ 45) (sm_R T lw nf nc (kup kd j t) se (kS σ j t b0) j) j0 z)) 6)) σ1) : ∀ (m i : Nat) (x : Int32) (σ1 : jr_Sg), i + m = 6 → x = bo (fun t => oI (fo (σ 45) (sm_R T lw nf nc (kup kd j t) se (kS σ j t b0) j) j0 z)) i → jr_eqx iv_CX σ σ1 → jr_R G (d + 19) mi_X9_kinds (jr_k k) 58 [some (.ref 0), some (.int (nI j0)), some (.int (nI j)), some (.int (nI 0)), some (.int 0), some (.int (nI 5)), some (.int x), some (.int (nI i))] [] σ1 := by
  have h5 : nf ≤ 5 := h.2.2.1.2.1.2.1
  have hlw := h.2.2.1.2.2.2.2.1
  intro m
  induction m with
  | zero =>
    intro i x σ1 hi e g
    have ei : i = 6 := hi
    subst ei
    refine jr_iload 60 dX9_kinds_58 rfl rfl ?_
    refine jr_iload 62 dX9_kinds_60 rfl rfl ?_
    refine jr_icmp_gt 144 65 dX9_kinds_62 rfl rfl (fun q62 => ?_) (fun z => absurd (by decide) z)
    refine jr_iload 146 dX9_kinds_144 rfl rfl ?_
    refine jr_ireturn dX9_kinds_146 rfl rfl ?_
    rw [e]
    exact fin σ1 g
  | succ m ih =>
    intro i x σ1 hi e g
    refine jr_iload 60 dX9_kinds_58 rfl rfl ?_
    refine jr_iload 62 dX9_kinds_60 rfl rfl ?_
    refine jr_icmp_gt 144 65 dX9_kinds_62 rfl rfl (fun z => absurd z (nI_nlt (b := i) (a := 5) (by omega) (by omega))) (fun q62 => ?_)
    refine jr_aload_n 0 66 dX9_kinds_65 rfl rfl rfl ?_
    refine gf_X9_48 69 dX9_kinds_66 rfl rfl rfl rfl ?_
    refine jr_aload_n 0 70 dX9_kinds_69 rfl rfl rfl ?_
    refine gf_X9_44 73 dX9_kinds_70 rfl rfl rfl rfl ?_
    refine cs_X9_225 76 dX9_kinds_73 rfl rfl rfl (Nat.le_of_ble_eq_true rfl) (wp_become_24_15 (fun σ2 b => ?_))
    refine jr_iload_n 3 77 dX9_kinds_76 rfl rfl rfl ?_
    refine jr_if_ne 94 80 dX9_kinds_77 rfl rfl (fun q => absurd (by decide) q) (fun q77 => ?_)
    refine jr_aload_n 0 81 dX9_kinds_80 rfl rfl rfl ?_
    refine gf_X9_48 84 dX9_kinds_81 rfl rfl rfl rfl ?_
    refine gf_X9_161 87 dX9_kinds_84 rfl rfl rfl rfl ?_
    refine jr_iload_n 2 88 dX9_kinds_87 rfl rfl rfl ?_
    refine jr_iload 90 dX9_kinds_88 rfl rfl ?_
    refine jr_iast rfl rfl (by omega) 91 dX9_kinds_90 rfl ?_
    refine jr_goto 105 dX9_kinds_91 rfl ?_
    have ht := th_kind (f := j) (c := i) (b := b0) (th_become h g b) (by omega) eb
    have g2 := bc_cx g b
    have g3 : jr_eqx iv_CX σ (jr_up σ2 25 j (nI i)) := jr_eqx_tr g2 (jr_eqx_up _ _ _ (by decide))
    have hT := ti_C_of h.1 (g3 1 (by decide)) (g3 2 (by decide)) (g3 3 (by decide))
    have hn3 := fn_x hn g3 (by decide)
    have hnone : r_none (kS σ j i b0) := by have z := iv_none h; exact z
    refine jr_aload_n 0 106 dX9_kinds_105 rfl rfl rfl ?_
    refine jr_iload_n 2 107 dX9_kinds_106 rfl rfl rfl ?_
    refine jr_aload_n 0 108 dX9_kinds_107 rfl rfl rfl ?_
    refine jr_iload_n 1 109 dX9_kinds_108 rfl rfl rfl ?_
    refine cs_X9_292 112 dX9_kinds_109 rfl rfl rfl (Nat.le_of_ble_eq_true rfl) (wp_filmLength hn3 ?_)
    refine cs_X9_229 115 dX9_kinds_112 rfl rfl rfl (Nat.le_of_ble_eq_true rfl) (wp_playThought (len := 5 * z) hT hlw ht hnone (by have := hn.2.1; omega) hj (fun σ4 g4 g5 => ?_))
    have g6 : jr_eqx iv_CX σ σ4 := jr_eqx_tr g3 (jr_eqx_w g4 (by decide))
    have hn4 := fn_x hn g6 (by decide)
    have e45 : σ4 45 = σ 45 := g6 45 (by decide)
    refine jr_iload 117 dX9_kinds_115 rfl rfl ?_
    refine jr_aload_n 0 118 dX9_kinds_117 rfl rfl rfl ?_
    refine jr_iload_n 1 119 dX9_kinds_118 rfl rfl rfl ?_
    refine jr_iload_n 2 120 dX9_kinds_119 rfl rfl rfl ?_
    refine cs_X9_295 123 dX9_kinds_120 rfl rfl rfl (Nat.le_of_ble_eq_true rfl) (wp_firstOther (len := 5 * z) hn4 (by omega) (Nat.le_refl _) g5 ?_)
    rw [e45]
    refine jr_iconst ((-1)) 124 dX9_kinds_123 rfl rfl ?_
    refine jr_icmp_ne 134 127 dX9_kinds_124 rfl rfl (fun q124 => ?_) (fun q124 => ?_)
    · refine jr_iconst (0) 135 dX9_kinds_134 rfl rfl ?_
      refine jr_ior 136 dX9_kinds_135 rfl ?_
      refine jr_istore (L' := [_, _, _, _, _, _, _, _]) 138 dX9_kinds_136 rfl (by decide) rfl ?_
      refine jr_iinc (v := nI (i + 1)) (L' := [_, _, _, _, _, _, _, _]) 141 dX9_kinds_138 rfl rfl (nI_1 i) (by decide) rfl ?_
      refine jr_goto 58 dX9_kinds_141 rfl ?_
      exact ih (i + 1) _ σ4 (by omega) (bo_f (A := (fun t => oI (fo (σ 45) (sm_R T lw nf nc (kup kd j t) se (kS σ j t b0) j) j0 z))) e q124) g6
    · refine jr_iconst (1) 128 dX9_kinds_127 rfl rfl ?_
      refine jr_iload 130 dX9_kinds_128 rfl rfl ?_
      refine jr_ishl 131 dX9_kinds_130 rfl ?_
      refine jr_goto 135 dX9_kinds_131 rfl ?_
      refine jr_ior 136 dX9_kinds_135 rfl ?_
      refine jr_istore (L' := [_, _, _, _, _, _, _, _]) 138 dX9_kinds_136 rfl (by decide) rfl ?_
      refine jr_iinc (v := nI (i + 1)) (L' := [_, _, _, _, _, _, _, _]) 141 dX9_kinds_138 rfl rfl (nI_1 i) (by decide) rfl ?_
      refine jr_goto 58 dX9_kinds_141 rfl ?_
      exact ih (i + 1) _ σ4 (by omega) (bo_t (A := (fun t => oI (fo (σ 45) (sm_R T lw nf nc (kup kd j t) se (kS σ j t b0) j) j0 z))) e q124) g6
theorem kinds_r0 {G : jr_G} {d : Nat} {σ : jr_Sg} {k : Value → jr_Sg → Prop} {T : Nat → Nat → List Nat} {n nf nc lw tp j0 z j b0 : Nat} {kd se : Nat → Nat} (h : iv T n nf nc kd se lw tp σ) (hn : fr_no σ j0 z) (hj : j < nf) (hb0 : b0 ≤ 9) (eb : σ 49 j = nI b0) {σ1 : jr_Sg} (g1 : jr_eqx iv_CX σ σ1) (fin : ∀ σ2 : jr_Sg, ks_in j σ1 σ2 → k (.int (bo (fun t => oI (fo (σ 45) (sm_R T lw nf nc (kup kd j t) se (kS σ j t b0) j) j0 z)) 6)) (kS σ2 j (kd j) b0)) : ∀ (m i : Nat) (x : Int32) (σ2 : jr_Sg), i + m = 6 → x = bo (fun t => oI (fo (σ 45) (sm_R T lw nf nc (kup kd j t) se (kS σ j t b0) j) j0 z)) i → ks_in j σ1 σ2 → jr_R G (d + 20) mi_X10_kinds (jr_k k) 50 [some (.ref 46), some (.int (nI j0)), some (.int (nI j)), some (.int (nI 0)), some (.int 0), some (.int (nI (kd j))), some (.int (nI b0)), some (.int x), some (.int (nI i))] [] σ2 := by
  have h1 := iv_mov (iv_cx g1) h
  have r1 := rr_of h1
  have hn1 := fn_x hn g1 (by decide)
  have hkj : kd j < 6 := (r1.1.2.2.2.2 j hj).1
  have h5 : nf ≤ 5 := r1.1.2.1
  intro m
  induction m with
  | zero =>
    intro i x σ2 hi e g
    have ei : i = 6 := hi
    subst ei
    refine jr_iload 52 dX10_kinds_50 rfl rfl ?_
    refine jr_iload_n 3 53 dX10_kinds_52 rfl rfl rfl ?_
    refine jr_if_ne 61 56 dX10_kinds_53 rfl rfl (fun q => absurd (by decide) q) (fun q53 => ?_)
    refine jr_bipush (nI 6) 58 dX10_kinds_56 rfl rfl ?_
    refine jr_goto 63 dX10_kinds_58 rfl ?_
    refine jr_icmp_ge 130 66 dX10_kinds_63 rfl rfl (fun q63 => ?_) (fun z => absurd (by decide) z)
    refine jr_aload_n 0 131 dX10_kinds_130 rfl rfl rfl ?_
    refine gf_X10_13 134 dX10_kinds_131 rfl rfl rfl rfl ?_
    refine jr_iload_n 2 135 dX10_kinds_134 rfl rfl rfl ?_
    refine jr_iload 137 dX10_kinds_135 rfl rfl ?_
    refine jr_iast rfl rfl (by omega) 138 dX10_kinds_137 rfl ?_
    refine jr_aload_n 0 139 dX10_kinds_138 rfl rfl rfl ?_
    refine gf_X10_16 142 dX10_kinds_139 rfl rfl rfl rfl ?_
    refine jr_iload_n 2 143 dX10_kinds_142 rfl rfl rfl ?_
    refine jr_iload 145 dX10_kinds_143 rfl rfl ?_
    refine jr_iast rfl rfl (by omega) 146 dX10_kinds_145 rfl ?_
    refine jr_iload 148 dX10_kinds_146 rfl rfl ?_
    refine jr_ireturn dX10_kinds_148 rfl rfl ?_
    rw [e]
    exact fin _ g
  | succ m ih =>
    intro i x σ2 hi e g
    have gg := ks_eq (c := i) (b := b0) g
    have hn2 : fr_no (kS σ2 j i b0) j0 z := fn_x (fn_x hn1 g.1 (by decide)) (jr_eqx_tr (jr_eqx_up (X := [48, 49]) _ _ _ (by decide)) (jr_eqx_up _ _ _ (by decide))) (by decide)
    have r2 : rr_ok T n nf nc (kup kd j i) se lw (kS σ2 j i b0) := rr_rx (rr_kind r1 (by omega) (by omega)) gg
    have eA : oI (fo ((kS σ2 j i b0) 59) (sm_R T lw nf nc (kup kd j i) se (kS σ2 j i b0) j) j0 z) = (fun t => oI (fo (σ 45) (sm_R T lw nf nc (kup kd j t) se (kS σ j t b0) j) j0 z)) i := by
      show _ = oI (fo (σ 45) (sm_R T lw nf nc (kup kd j i) se (kS σ j i b0) j) j0 z)
      rw [sm_R_rx gg, sm_R_of (kS_cx g1), ← fo_congr (C := (kS σ2 j i b0) 45) (fun q hq => hn2.2.2.2.2.2.2 q hq), show (kS σ2 j i b0) 45 = σ2 45 from rfl, g.1 45 (by decide), g1 45 (by decide)]
    refine jr_iload 52 dX10_kinds_50 rfl rfl ?_
    refine jr_iload_n 3 53 dX10_kinds_52 rfl rfl rfl ?_
    refine jr_if_ne 61 56 dX10_kinds_53 rfl rfl (fun q => absurd (by decide) q) (fun q53 => ?_)
    refine jr_bipush (nI 6) 58 dX10_kinds_56 rfl rfl ?_
    refine jr_goto 63 dX10_kinds_58 rfl ?_
    refine jr_icmp_ge 130 66 dX10_kinds_63 rfl rfl (fun z => absurd z (nI_ge (b := 6) (by omega) (by decide))) (fun q63 => ?_)
    refine jr_aload_n 0 67 dX10_kinds_66 rfl rfl rfl ?_
    refine gf_X10_13 70 dX10_kinds_67 rfl rfl rfl rfl ?_
    refine jr_iload_n 2 71 dX10_kinds_70 rfl rfl rfl ?_
    refine jr_iload_n 3 72 dX10_kinds_71 rfl rfl rfl ?_
    refine jr_if_ne 80 75 dX10_kinds_72 rfl rfl (fun q => absurd (by decide) q) (fun q72 => ?_)
    refine jr_iload 77 dX10_kinds_75 rfl rfl ?_
    refine jr_goto 82 dX10_kinds_77 rfl ?_
    refine jr_iast rfl rfl (by omega) 83 dX10_kinds_82 rfl ?_
    refine jr_aload_n 0 84 dX10_kinds_83 rfl rfl rfl ?_
    refine gf_X10_16 87 dX10_kinds_84 rfl rfl rfl rfl ?_
    refine jr_iload_n 2 88 dX10_kinds_87 rfl rfl rfl ?_
    refine jr_iload_n 3 89 dX10_kinds_88 rfl rfl rfl ?_
    refine jr_iconst (nI 1) 90 dX10_kinds_89 rfl rfl ?_
    refine jr_icmp_ne 98 93 dX10_kinds_90 rfl rfl (fun q90 => ?_) (fun q => absurd q (by decide))
    refine jr_iload 100 dX10_kinds_98 rfl rfl ?_
    refine jr_iast rfl rfl (by omega) 101 dX10_kinds_100 rfl ?_
    refine jr_iload 103 dX10_kinds_101 rfl rfl ?_
    refine jr_aload_n 0 104 dX10_kinds_103 rfl rfl rfl ?_
    refine jr_iload_n 1 105 dX10_kinds_104 rfl rfl rfl ?_
    refine jr_iload_n 2 106 dX10_kinds_105 rfl rfl rfl ?_
    refine cs_X10_325 109 dX10_kinds_106 rfl rfl rfl (Nat.le_of_ble_eq_true rfl) (wp_unlike r2 hn2.1 hn2.2.1 hn2.2.2.2.1 (f := j) (by omega) (fun σ3 g3 => ?_))
    rw [eA]
    refine jr_iconst ((-1)) 110 dX10_kinds_109 rfl rfl ?_
    refine jr_icmp_ne 120 113 dX10_kinds_110 rfl rfl (fun q110 => ?_) (fun q110 => ?_)
    · refine jr_iconst (0) 121 dX10_kinds_120 rfl rfl ?_
      refine jr_ior 122 dX10_kinds_121 rfl ?_
      refine jr_istore (L' := [_, _, _, _, _, _, _, _, _]) 124 dX10_kinds_122 rfl (by decide) rfl ?_
      refine jr_iinc (v := nI (i + 1)) (L' := [_, _, _, _, _, _, _, _, _]) 127 dX10_kinds_124 rfl rfl (nI_1 i) (by decide) rfl ?_
      refine jr_goto 50 dX10_kinds_127 rfl ?_
      exact ih (i + 1) _ σ3 (by omega) (bo_f (A := (fun t => oI (fo (σ 45) (sm_R T lw nf nc (kup kd j t) se (kS σ j t b0) j) j0 z))) e q110) (ks_on g g3)
    · refine jr_iconst (1) 114 dX10_kinds_113 rfl rfl ?_
      refine jr_iload 116 dX10_kinds_114 rfl rfl ?_
      refine jr_ishl 117 dX10_kinds_116 rfl ?_
      refine jr_goto 121 dX10_kinds_117 rfl ?_
      refine jr_ior 122 dX10_kinds_121 rfl ?_
      refine jr_istore (L' := [_, _, _, _, _, _, _, _, _]) 124 dX10_kinds_122 rfl (by decide) rfl ?_
      refine jr_iinc (v := nI (i + 1)) (L' := [_, _, _, _, _, _, _, _, _]) 127 dX10_kinds_124 rfl rfl (nI_1 i) (by decide) rfl ?_
      refine jr_goto 50 dX10_kinds_127 rfl ?_
      exact ih (i + 1) _ σ3 (by omega) (bo_t (A := (fun t => oI (fo (σ 45) (sm_R T lw nf nc (kup kd j t) se (kS σ j t b0) j) j0 z))) e q110) (ks_on g g3)
theorem kinds_x1 {G : jr_G} {d : Nat} {σ : jr_Sg} {k : Value → jr_Sg → Prop} {T : Nat → Nat → List Nat} {n nf nc lw tp j0 z j b0 : Nat} {kd se : Nat → Nat} (h : iv T n nf nc kd se lw tp σ) (hn : fr_no σ j0 z) (hj : j < nf) (hb0 : b0 ≤ 9) (eb : σ 49 j = nI b0) (fin : ∀ σ1 : jr_Sg, jr_eqx iv_CX σ σ1 → k (.int (bo (fun t => oI (fo (σ 45) (sm_R T lw nf nc (kup kd j (kd j)) se (kS σ j (kd j) t) j) j0 z)) 10)) σ1) : ∀ (m i : Nat) (x : Int32) (σ1 : jr_Sg), i + m = 10 → x = bo (fun t => oI (fo (σ 45) (sm_R T lw nf nc (kup kd j (kd j)) se (kS σ j (kd j) t) j) j0 z)) i → jr_eqx iv_CX σ σ1 → jr_R G (d + 19) mi_X9_kinds (jr_k k) 58 [some (.ref 0), some (.int (nI j0)), some (.int (nI j)), some (.int (nI 1)), some (.int 0), some (.int (nI 9)), some (.int x), some (.int (nI i))] [] σ1 := by
  have h5 : nf ≤ 5 := h.2.2.1.2.1.2.1
  have hlw := h.2.2.1.2.2.2.2.1
  intro m
  induction m with
  | zero =>
    intro i x σ1 hi e g
    have ei : i = 10 := hi
    subst ei
    refine jr_iload 60 dX9_kinds_58 rfl rfl ?_
    refine jr_iload 62 dX9_kinds_60 rfl rfl ?_
    refine jr_icmp_gt 144 65 dX9_kinds_62 rfl rfl (fun q62 => ?_) (fun z => absurd (by decide) z)
    refine jr_iload 146 dX9_kinds_144 rfl rfl ?_
    refine jr_ireturn dX9_kinds_146 rfl rfl ?_
    rw [e]
    exact fin σ1 g
  | succ m ih =>
    intro i x σ1 hi e g
    refine jr_iload 60 dX9_kinds_58 rfl rfl ?_
    refine jr_iload 62 dX9_kinds_60 rfl rfl ?_
    refine jr_icmp_gt 144 65 dX9_kinds_62 rfl rfl (fun z => absurd z (nI_nlt (b := i) (a := 9) (by omega) (by omega))) (fun q62 => ?_)
    refine jr_aload_n 0 66 dX9_kinds_65 rfl rfl rfl ?_
    refine gf_X9_48 69 dX9_kinds_66 rfl rfl rfl rfl ?_
    refine jr_aload_n 0 70 dX9_kinds_69 rfl rfl rfl ?_
    refine gf_X9_44 73 dX9_kinds_70 rfl rfl rfl rfl ?_
    refine cs_X9_225 76 dX9_kinds_73 rfl rfl rfl (Nat.le_of_ble_eq_true rfl) (wp_become_24_15 (fun σ2 b => ?_))
    refine jr_iload_n 3 77 dX9_kinds_76 rfl rfl rfl ?_
    refine jr_if_ne 94 80 dX9_kinds_77 rfl rfl (fun q77 => ?_) (fun q => absurd q (by decide))
    refine jr_aload_n 0 95 dX9_kinds_94 rfl rfl rfl ?_
    refine gf_X9_48 98 dX9_kinds_95 rfl rfl rfl rfl ?_
    refine gf_X9_164 101 dX9_kinds_98 rfl rfl rfl rfl ?_
    refine jr_iload_n 2 102 dX9_kinds_101 rfl rfl rfl ?_
    refine jr_iload 104 dX9_kinds_102 rfl rfl ?_
    refine jr_iast rfl rfl (by omega) 105 dX9_kinds_104 rfl ?_
    have ht := th_more (f := j) (b := i) (th_become h g b) hj
    have g2 := bc_cx g b
    have g3 : jr_eqx iv_CX σ (jr_up σ2 26 j (nI i)) := jr_eqx_tr g2 (jr_eqx_up _ _ _ (by decide))
    have hT := ti_C_of h.1 (g3 1 (by decide)) (g3 2 (by decide)) (g3 3 (by decide))
    have hn3 := fn_x hn g3 (by decide)
    have hnone : r_none (kS σ j (kd j) i) := by have z := iv_none h; exact z
    refine jr_aload_n 0 106 dX9_kinds_105 rfl rfl rfl ?_
    refine jr_iload_n 2 107 dX9_kinds_106 rfl rfl rfl ?_
    refine jr_aload_n 0 108 dX9_kinds_107 rfl rfl rfl ?_
    refine jr_iload_n 1 109 dX9_kinds_108 rfl rfl rfl ?_
    refine cs_X9_292 112 dX9_kinds_109 rfl rfl rfl (Nat.le_of_ble_eq_true rfl) (wp_filmLength hn3 ?_)
    refine cs_X9_229 115 dX9_kinds_112 rfl rfl rfl (Nat.le_of_ble_eq_true rfl) (wp_playThought (len := 5 * z) hT hlw ht hnone (by have := hn.2.1; omega) hj (fun σ4 g4 g5 => ?_))
    have g6 : jr_eqx iv_CX σ σ4 := jr_eqx_tr g3 (jr_eqx_w g4 (by decide))
    have hn4 := fn_x hn g6 (by decide)
    have e45 : σ4 45 = σ 45 := g6 45 (by decide)
    refine jr_iload 117 dX9_kinds_115 rfl rfl ?_
    refine jr_aload_n 0 118 dX9_kinds_117 rfl rfl rfl ?_
    refine jr_iload_n 1 119 dX9_kinds_118 rfl rfl rfl ?_
    refine jr_iload_n 2 120 dX9_kinds_119 rfl rfl rfl ?_
    refine cs_X9_295 123 dX9_kinds_120 rfl rfl rfl (Nat.le_of_ble_eq_true rfl) (wp_firstOther (len := 5 * z) hn4 (by omega) (Nat.le_refl _) g5 ?_)
    rw [e45]
    refine jr_iconst ((-1)) 124 dX9_kinds_123 rfl rfl ?_
    refine jr_icmp_ne 134 127 dX9_kinds_124 rfl rfl (fun q124 => ?_) (fun q124 => ?_)
    · refine jr_iconst (0) 135 dX9_kinds_134 rfl rfl ?_
      refine jr_ior 136 dX9_kinds_135 rfl ?_
      refine jr_istore (L' := [_, _, _, _, _, _, _, _]) 138 dX9_kinds_136 rfl (by decide) rfl ?_
      refine jr_iinc (v := nI (i + 1)) (L' := [_, _, _, _, _, _, _, _]) 141 dX9_kinds_138 rfl rfl (nI_1 i) (by decide) rfl ?_
      refine jr_goto 58 dX9_kinds_141 rfl ?_
      exact ih (i + 1) _ σ4 (by omega) (bo_f (A := (fun t => oI (fo (σ 45) (sm_R T lw nf nc (kup kd j (kd j)) se (kS σ j (kd j) t) j) j0 z))) e q124) g6
    · refine jr_iconst (1) 128 dX9_kinds_127 rfl rfl ?_
      refine jr_iload 130 dX9_kinds_128 rfl rfl ?_
      refine jr_ishl 131 dX9_kinds_130 rfl ?_
      refine jr_goto 135 dX9_kinds_131 rfl ?_
      refine jr_ior 136 dX9_kinds_135 rfl ?_
      refine jr_istore (L' := [_, _, _, _, _, _, _, _]) 138 dX9_kinds_136 rfl (by decide) rfl ?_
      refine jr_iinc (v := nI (i + 1)) (L' := [_, _, _, _, _, _, _, _]) 141 dX9_kinds_138 rfl rfl (nI_1 i) (by decide) rfl ?_
      refine jr_goto 58 dX9_kinds_141 rfl ?_
      exact ih (i + 1) _ σ4 (by omega) (bo_t (A := (fun t => oI (fo (σ 45) (sm_R T lw nf nc (kup kd j (kd j)) se (kS σ j (kd j) t) j) j0 z))) e q124) g6
theorem kinds_r1 {G : jr_G} {d : Nat} {σ : jr_Sg} {k : Value → jr_Sg → Prop} {T : Nat → Nat → List Nat} {n nf nc lw tp j0 z j b0 : Nat} {kd se : Nat → Nat} (h : iv T n nf nc kd se lw tp σ) (hn : fr_no σ j0 z) (hj : j < nf) (hb0 : b0 ≤ 9) (eb : σ 49 j = nI b0) {σ1 : jr_Sg} (g1 : jr_eqx iv_CX σ σ1) (fin : ∀ σ2 : jr_Sg, ks_in j σ1 σ2 → k (.int (bo (fun t => oI (fo (σ 45) (sm_R T lw nf nc (kup kd j (kd j)) se (kS σ j (kd j) t) j) j0 z)) 10)) (kS σ2 j (kd j) b0)) : ∀ (m i : Nat) (x : Int32) (σ2 : jr_Sg), i + m = 10 → x = bo (fun t => oI (fo (σ 45) (sm_R T lw nf nc (kup kd j (kd j)) se (kS σ j (kd j) t) j) j0 z)) i → ks_in j σ1 σ2 → jr_R G (d + 20) mi_X10_kinds (jr_k k) 50 [some (.ref 46), some (.int (nI j0)), some (.int (nI j)), some (.int (nI 1)), some (.int 0), some (.int (nI (kd j))), some (.int (nI b0)), some (.int x), some (.int (nI i))] [] σ2 := by
  have h1 := iv_mov (iv_cx g1) h
  have r1 := rr_of h1
  have hn1 := fn_x hn g1 (by decide)
  have hkj : kd j < 6 := (r1.1.2.2.2.2 j hj).1
  have h5 : nf ≤ 5 := r1.1.2.1
  intro m
  induction m with
  | zero =>
    intro i x σ2 hi e g
    have ei : i = 10 := hi
    subst ei
    refine jr_iload 52 dX10_kinds_50 rfl rfl ?_
    refine jr_iload_n 3 53 dX10_kinds_52 rfl rfl rfl ?_
    refine jr_if_ne 61 56 dX10_kinds_53 rfl rfl (fun q53 => ?_) (fun q => absurd q (by decide))
    refine jr_bipush (nI 10) 63 dX10_kinds_61 rfl rfl ?_
    refine jr_icmp_ge 130 66 dX10_kinds_63 rfl rfl (fun q63 => ?_) (fun z => absurd (by decide) z)
    refine jr_aload_n 0 131 dX10_kinds_130 rfl rfl rfl ?_
    refine gf_X10_13 134 dX10_kinds_131 rfl rfl rfl rfl ?_
    refine jr_iload_n 2 135 dX10_kinds_134 rfl rfl rfl ?_
    refine jr_iload 137 dX10_kinds_135 rfl rfl ?_
    refine jr_iast rfl rfl (by omega) 138 dX10_kinds_137 rfl ?_
    refine jr_aload_n 0 139 dX10_kinds_138 rfl rfl rfl ?_
    refine gf_X10_16 142 dX10_kinds_139 rfl rfl rfl rfl ?_
    refine jr_iload_n 2 143 dX10_kinds_142 rfl rfl rfl ?_
    refine jr_iload 145 dX10_kinds_143 rfl rfl ?_
    refine jr_iast rfl rfl (by omega) 146 dX10_kinds_145 rfl ?_
    refine jr_iload 148 dX10_kinds_146 rfl rfl ?_
    refine jr_ireturn dX10_kinds_148 rfl rfl ?_
    rw [e]
    exact fin _ g
  | succ m ih =>
    intro i x σ2 hi e g
    have gg := ks_eq (c := (kd j)) (b := i) g
    have hn2 : fr_no (kS σ2 j (kd j) i) j0 z := fn_x (fn_x hn1 g.1 (by decide)) (jr_eqx_tr (jr_eqx_up (X := [48, 49]) _ _ _ (by decide)) (jr_eqx_up _ _ _ (by decide))) (by decide)
    have r2 : rr_ok T n nf nc (kup kd j (kd j)) se lw (kS σ2 j (kd j) i) := rr_rx (rr_kind r1 (by omega) (by omega)) gg
    have eA : oI (fo ((kS σ2 j (kd j) i) 59) (sm_R T lw nf nc (kup kd j (kd j)) se (kS σ2 j (kd j) i) j) j0 z) = (fun t => oI (fo (σ 45) (sm_R T lw nf nc (kup kd j (kd j)) se (kS σ j (kd j) t) j) j0 z)) i := by
      show _ = oI (fo (σ 45) (sm_R T lw nf nc (kup kd j (kd j)) se (kS σ j (kd j) i) j) j0 z)
      rw [sm_R_rx gg, sm_R_of (kS_cx g1), ← fo_congr (C := (kS σ2 j (kd j) i) 45) (fun q hq => hn2.2.2.2.2.2.2 q hq), show (kS σ2 j (kd j) i) 45 = σ2 45 from rfl, g.1 45 (by decide), g1 45 (by decide)]
    refine jr_iload 52 dX10_kinds_50 rfl rfl ?_
    refine jr_iload_n 3 53 dX10_kinds_52 rfl rfl rfl ?_
    refine jr_if_ne 61 56 dX10_kinds_53 rfl rfl (fun q53 => ?_) (fun q => absurd q (by decide))
    refine jr_bipush (nI 10) 63 dX10_kinds_61 rfl rfl ?_
    refine jr_icmp_ge 130 66 dX10_kinds_63 rfl rfl (fun z => absurd z (nI_ge (b := 10) (by omega) (by decide))) (fun q63 => ?_)
    refine jr_aload_n 0 67 dX10_kinds_66 rfl rfl rfl ?_
    refine gf_X10_13 70 dX10_kinds_67 rfl rfl rfl rfl ?_
    refine jr_iload_n 2 71 dX10_kinds_70 rfl rfl rfl ?_
    refine jr_iload_n 3 72 dX10_kinds_71 rfl rfl rfl ?_
    refine jr_if_ne 80 75 dX10_kinds_72 rfl rfl (fun q72 => ?_) (fun q => absurd q (by decide))
    refine jr_iload 82 dX10_kinds_80 rfl rfl ?_
    refine jr_iast rfl rfl (by omega) 83 dX10_kinds_82 rfl ?_
    refine jr_aload_n 0 84 dX10_kinds_83 rfl rfl rfl ?_
    refine gf_X10_16 87 dX10_kinds_84 rfl rfl rfl rfl ?_
    refine jr_iload_n 2 88 dX10_kinds_87 rfl rfl rfl ?_
    refine jr_iload_n 3 89 dX10_kinds_88 rfl rfl rfl ?_
    refine jr_iconst (nI 1) 90 dX10_kinds_89 rfl rfl ?_
    refine jr_icmp_ne 98 93 dX10_kinds_90 rfl rfl (fun q => absurd (by decide) q) (fun q90 => ?_)
    refine jr_iload 95 dX10_kinds_93 rfl rfl ?_
    refine jr_goto 100 dX10_kinds_95 rfl ?_
    refine jr_iast rfl rfl (by omega) 101 dX10_kinds_100 rfl ?_
    refine jr_iload 103 dX10_kinds_101 rfl rfl ?_
    refine jr_aload_n 0 104 dX10_kinds_103 rfl rfl rfl ?_
    refine jr_iload_n 1 105 dX10_kinds_104 rfl rfl rfl ?_
    refine jr_iload_n 2 106 dX10_kinds_105 rfl rfl rfl ?_
    refine cs_X10_325 109 dX10_kinds_106 rfl rfl rfl (Nat.le_of_ble_eq_true rfl) (wp_unlike r2 hn2.1 hn2.2.1 hn2.2.2.2.1 (f := j) (by omega) (fun σ3 g3 => ?_))
    rw [eA]
    refine jr_iconst ((-1)) 110 dX10_kinds_109 rfl rfl ?_
    refine jr_icmp_ne 120 113 dX10_kinds_110 rfl rfl (fun q110 => ?_) (fun q110 => ?_)
    · refine jr_iconst (0) 121 dX10_kinds_120 rfl rfl ?_
      refine jr_ior 122 dX10_kinds_121 rfl ?_
      refine jr_istore (L' := [_, _, _, _, _, _, _, _, _]) 124 dX10_kinds_122 rfl (by decide) rfl ?_
      refine jr_iinc (v := nI (i + 1)) (L' := [_, _, _, _, _, _, _, _, _]) 127 dX10_kinds_124 rfl rfl (nI_1 i) (by decide) rfl ?_
      refine jr_goto 50 dX10_kinds_127 rfl ?_
      exact ih (i + 1) _ σ3 (by omega) (bo_f (A := (fun t => oI (fo (σ 45) (sm_R T lw nf nc (kup kd j (kd j)) se (kS σ j (kd j) t) j) j0 z))) e q110) (ks_on g g3)
    · refine jr_iconst (1) 114 dX10_kinds_113 rfl rfl ?_
      refine jr_iload 116 dX10_kinds_114 rfl rfl ?_
      refine jr_ishl 117 dX10_kinds_116 rfl ?_
      refine jr_goto 121 dX10_kinds_117 rfl ?_
      refine jr_ior 122 dX10_kinds_121 rfl ?_
      refine jr_istore (L' := [_, _, _, _, _, _, _, _, _]) 124 dX10_kinds_122 rfl (by decide) rfl ?_
      refine jr_iinc (v := nI (i + 1)) (L' := [_, _, _, _, _, _, _, _, _]) 127 dX10_kinds_124 rfl rfl (nI_1 i) (by decide) rfl ?_
      refine jr_goto 50 dX10_kinds_127 rfl ?_
      exact ih (i + 1) _ σ3 (by omega) (bo_t (A := (fun t => oI (fo (σ 45) (sm_R T lw nf nc (kup kd j (kd j)) se (kS σ j (kd j) t) j) j0 z))) e q110) (ks_on g g3)
theorem pp_kinds {G : jr_G} {d : Nat} {σ : jr_Sg} {a f c : Int32} (h : IV σ) : jr_pair G (d + 20) mi_X9_kinds mi_X10_kinds [.int a, .int f, .int c] σ := by
  obtain ⟨T, n, nf, nc, kd, se, lw, tp, h⟩ := h
  have hh := h
  obtain ⟨hTC, hTR, ⟨hsc, hsr, hl1, hl2, hlw, hfc, hli, hca⟩, htp, himg, hsh, hrest, hwd⟩ := hh
  have hnf := hsc.1
  have h5 := hsc.2.1
  have hnc := hsc.2.2.1
  have h8 := hsc.2.2.2.1
  have rnf := hsr.1
  have rnc := hsr.2.2.1
  have hlm := hrest.2.2.2.1
  unfold jr_pair
  rcases fr_cases hsh a with ⟨r, hr⟩ | ⟨j0, z, rfl, hn⟩
  · refine jr_enter (L := [some (.ref 0), some (.int a), some (.int f), some (.int c), none, none, none, none]) (by decide) (Nat.le_of_ble_eq_true rfl) rfl ?_
    refine jr_aload_n 0 1 dX9_kinds_0 rfl rfl rfl ?_
    refine jr_iload_n 1 2 dX9_kinds_1 rfl rfl rfl ?_
    refine cs_X9_289 5 dX9_kinds_2 rfl rfl rfl (Nat.le_of_ble_eq_true rfl) (wp_filmRefusalF hsh hr ?_)
    refine jr_istore (L' := [_, _, _, _, _, _, _, _]) 7 dX9_kinds_5 rfl (by decide) rfl ?_
    refine jr_iload 9 dX9_kinds_7 rfl rfl ?_
    refine jr_if_ge 15 12 dX9_kinds_9 rfl rfl (fun q => absurd q (Int32.not_le.mpr (fr_neg hr))) (fun q9 => ?_)
    refine jr_iload 14 dX9_kinds_12 rfl rfl ?_
    refine jr_ireturn dX9_kinds_14 rfl rfl ?_
    refine jr_enter (L := [some (.ref 46), some (.int a), some (.int f), some (.int c), none, none, none, none, none]) (by decide) (Nat.le_of_ble_eq_true rfl) rfl ?_
    refine jr_aload_n 0 1 dX10_kinds_0 rfl rfl rfl ?_
    refine jr_iload_n 1 2 dX10_kinds_1 rfl rfl rfl ?_
    refine jr_iload_n 2 3 dX10_kinds_2 rfl rfl rfl ?_
    refine cs_X10_322 6 dX10_kinds_3 rfl rfl rfl (Nat.le_of_ble_eq_true rfl) (wp_toldWrongF hr ?_)
    refine jr_istore (L' := [_, _, _, _, _, _, _, _, _]) 8 dX10_kinds_6 rfl (by decide) rfl ?_
    refine jr_iload 10 dX10_kinds_8 rfl rfl ?_
    refine jr_if_eq 16 13 dX10_kinds_10 rfl rfl (fun q => absurd q (fr_ne hr)) (fun q10 => ?_)
    refine jr_iload 15 dX10_kinds_13 rfl rfl ?_
    refine jr_ireturn dX10_kinds_15 rfl rfl ?_
    exact ⟨rfl, IV_mov (iv_same_x (jr_eqx_rf [] _) (by decide)) h⟩
  · rcases jr_fc f h5 with hf | ⟨j, hj, rfl⟩
    · refine jr_enter (L := [some (.ref 0), some (.int (nI j0)), some (.int f), some (.int c), none, none, none, none]) (by decide) (Nat.le_of_ble_eq_true rfl) rfl ?_
      refine jr_aload_n 0 1 dX9_kinds_0 rfl rfl rfl ?_
      refine jr_iload_n 1 2 dX9_kinds_1 rfl rfl rfl ?_
      refine cs_X9_289 5 dX9_kinds_2 rfl rfl rfl (Nat.le_of_ble_eq_true rfl) (wp_filmRefusalT hn ?_)
      refine jr_istore (L' := [_, _, _, _, _, _, _, _]) 7 dX9_kinds_5 rfl (by decide) rfl ?_
      refine jr_iload 9 dX9_kinds_7 rfl rfl ?_
      refine jr_if_ge 15 12 dX9_kinds_9 rfl rfl (fun q9 => ?_) (fun q => absurd (by decide) q)
      refine jr_aload_n 0 16 dX9_kinds_15 rfl rfl rfl ?_
      refine gf_X9_44 19 dX9_kinds_16 rfl rfl rfl rfl ?_
      refine jr_iload_n 2 20 dX9_kinds_19 rfl rfl rfl ?_
      refine cs_X9_146 23 dX9_kinds_20 rfl rfl rfl (Nat.le_of_ble_eq_true rfl) (wp_has_15 hnf h5 (fun j hj e => absurd hf (by rw [e]; exact jr_fcn hj (by omega))) (fun _ => ?_))
      refine jr_if_ne 29 26 dX9_kinds_23 rfl rfl (fun q => absurd (by decide) q) (fun q23 => ?_)
      refine jr_bipush ((-5)) 28 dX9_kinds_26 rfl rfl ?_
      refine jr_ireturn dX9_kinds_28 rfl rfl ?_
      refine jr_enter (L := [some (.ref 46), some (.int (nI j0)), some (.int f), some (.int c), none, none, none, none, none]) (by decide) (Nat.le_of_ble_eq_true rfl) rfl ?_
      refine jr_aload_n 0 1 dX10_kinds_0 rfl rfl rfl ?_
      refine jr_iload_n 1 2 dX10_kinds_1 rfl rfl rfl ?_
      refine jr_iload_n 2 3 dX10_kinds_2 rfl rfl rfl ?_
      refine cs_X10_322 6 dX10_kinds_3 rfl rfl rfl (Nat.le_of_ble_eq_true rfl) (wp_toldWrongN rnf h5 hf hn ?_)
      refine jr_istore (L' := [_, _, _, _, _, _, _, _, _]) 8 dX10_kinds_6 rfl (by decide) rfl ?_
      refine jr_iload 10 dX10_kinds_8 rfl rfl ?_
      refine jr_if_eq 16 13 dX10_kinds_10 rfl rfl (fun q => absurd q (by decide)) (fun q10 => ?_)
      refine jr_iload 15 dX10_kinds_13 rfl rfl ?_
      refine jr_ireturn dX10_kinds_15 rfl rfl ?_
      exact ⟨rfl, IV_mov (iv_same_x (jr_eqx_rf [] _) (by decide)) h⟩
    · rcases jr_rg c (m := 1) (by decide) with qc2 | ⟨c2, hc2, rfl⟩
      · refine jr_enter (L := [some (.ref 0), some (.int (nI j0)), some (.int (nI j)), some (.int c), none, none, none, none]) (by decide) (Nat.le_of_ble_eq_true rfl) rfl ?_
        refine jr_aload_n 0 1 dX9_kinds_0 rfl rfl rfl ?_
        refine jr_iload_n 1 2 dX9_kinds_1 rfl rfl rfl ?_
        refine cs_X9_289 5 dX9_kinds_2 rfl rfl rfl (Nat.le_of_ble_eq_true rfl) (wp_filmRefusalT hn ?_)
        refine jr_istore (L' := [_, _, _, _, _, _, _, _]) 7 dX9_kinds_5 rfl (by decide) rfl ?_
        refine jr_iload 9 dX9_kinds_7 rfl rfl ?_
        refine jr_if_ge 15 12 dX9_kinds_9 rfl rfl (fun q9 => ?_) (fun q => absurd (by decide) q)
        refine jr_aload_n 0 16 dX9_kinds_15 rfl rfl rfl ?_
        refine gf_X9_44 19 dX9_kinds_16 rfl rfl rfl rfl ?_
        refine jr_iload_n 2 20 dX9_kinds_19 rfl rfl rfl ?_
        refine cs_X9_146 23 dX9_kinds_20 rfl rfl rfl (Nat.le_of_ble_eq_true rfl) (wp_hasT_15 hnf h5 hj ?_)
        refine jr_if_ne 29 26 dX9_kinds_23 rfl rfl (fun q23 => ?_) (fun q => absurd q (by decide))
        refine jr_iload_n 3 30 dX9_kinds_29 rfl rfl rfl ?_
        refine jr_iconst (1) 31 dX9_kinds_30 rfl rfl ?_
        refine cs_X9_104 34 dX9_kinds_31 rfl rfl (Nat.le_of_ble_eq_true rfl) (wp_wiF qc2 ?_)
        refine jr_if_ne 40 37 dX9_kinds_34 rfl rfl (fun q => absurd (by decide) q) (fun q34 => ?_)
        refine jr_bipush ((-7)) 39 dX9_kinds_37 rfl rfl ?_
        refine jr_ireturn dX9_kinds_39 rfl rfl ?_
        refine jr_enter (L := [some (.ref 46), some (.int (nI j0)), some (.int (nI j)), some (.int c), none, none, none, none, none]) (by decide) (Nat.le_of_ble_eq_true rfl) rfl ?_
        refine jr_aload_n 0 1 dX10_kinds_0 rfl rfl rfl ?_
        refine jr_iload_n 1 2 dX10_kinds_1 rfl rfl rfl ?_
        refine jr_iload_n 2 3 dX10_kinds_2 rfl rfl rfl ?_
        refine cs_X10_322 6 dX10_kinds_3 rfl rfl rfl (Nat.le_of_ble_eq_true rfl) (wp_toldWrongT rnf h5 hj hn ?_)
        refine jr_istore (L' := [_, _, _, _, _, _, _, _, _]) 8 dX10_kinds_6 rfl (by decide) rfl ?_
        refine jr_iload 10 dX10_kinds_8 rfl rfl ?_
        refine jr_if_eq 16 13 dX10_kinds_10 rfl rfl (fun q10 => ?_) (fun q => absurd (by decide) q)
        refine jr_iload_n 3 17 dX10_kinds_16 rfl rfl rfl ?_
        refine jr_iconst (0) 18 dX10_kinds_17 rfl rfl ?_
        refine jr_iconst (1) 19 dX10_kinds_18 rfl rfl ?_
        refine cs_X10_108 22 dX10_kinds_19 rfl rfl (Nat.le_of_ble_eq_true rfl) (wp_inF qc2 ?_)
        refine jr_if_ne 28 25 dX10_kinds_22 rfl rfl (fun q => absurd (by decide) q) (fun q22 => ?_)
        refine jr_bipush ((-7)) 27 dX10_kinds_25 rfl rfl ?_
        refine jr_ireturn dX10_kinds_27 rfl rfl ?_
        exact ⟨rfl, IV_mov (iv_same_x (jr_eqx_rf [] _) (by decide)) h⟩
      · obtain ⟨hk6, -, ek, -, b0, hb0, eb⟩ := hsr.2.2.2.2 j hj
        rcases (by omega : c2 = 0 ∨ c2 = 1) with rfl | rfl
        · refine jr_enter (L := [some (.ref 0), some (.int (nI j0)), some (.int (nI j)), some (.int (nI 0)), none, none, none, none]) (by decide) (Nat.le_of_ble_eq_true rfl) rfl ?_
          refine jr_aload_n 0 1 dX9_kinds_0 rfl rfl rfl ?_
          refine jr_iload_n 1 2 dX9_kinds_1 rfl rfl rfl ?_
          refine cs_X9_289 5 dX9_kinds_2 rfl rfl rfl (Nat.le_of_ble_eq_true rfl) (wp_filmRefusalT hn ?_)
          refine jr_istore (L' := [_, _, _, _, _, _, _, _]) 7 dX9_kinds_5 rfl (by decide) rfl ?_
          refine jr_iload 9 dX9_kinds_7 rfl rfl ?_
          refine jr_if_ge 15 12 dX9_kinds_9 rfl rfl (fun q9 => ?_) (fun q => absurd (by decide) q)
          refine jr_aload_n 0 16 dX9_kinds_15 rfl rfl rfl ?_
          refine gf_X9_44 19 dX9_kinds_16 rfl rfl rfl rfl ?_
          refine jr_iload_n 2 20 dX9_kinds_19 rfl rfl rfl ?_
          refine cs_X9_146 23 dX9_kinds_20 rfl rfl rfl (Nat.le_of_ble_eq_true rfl) (wp_hasT_15 hnf h5 hj ?_)
          refine jr_if_ne 29 26 dX9_kinds_23 rfl rfl (fun q23 => ?_) (fun q => absurd q (by decide))
          refine jr_iload_n 3 30 dX9_kinds_29 rfl rfl rfl ?_
          refine jr_iconst (nI 1) 31 dX9_kinds_30 rfl rfl ?_
          refine cs_X9_104 34 dX9_kinds_31 rfl rfl (Nat.le_of_ble_eq_true rfl) (wp_wiT hc2 (by decide) rfl ?_)
          refine jr_if_ne 40 37 dX9_kinds_34 rfl rfl (fun q34 => ?_) (fun q => absurd q (by decide))
          refine jr_iload_n 3 41 dX9_kinds_40 rfl rfl rfl ?_
          refine jr_if_ne 48 44 dX9_kinds_41 rfl rfl (fun q => absurd (by decide) q) (fun q41 => ?_)
          refine jr_iconst (nI 5) 45 dX9_kinds_44 rfl rfl ?_
          refine jr_goto 50 dX9_kinds_45 rfl ?_
          refine jr_istore (L' := [_, _, _, _, _, _, _, _]) 52 dX9_kinds_50 rfl (by decide) rfl ?_
          refine jr_iconst (0) 53 dX9_kinds_52 rfl rfl ?_
          refine jr_istore (L' := [_, _, _, _, _, _, _, _]) 55 dX9_kinds_53 rfl (by decide) rfl ?_
          refine jr_iconst (nI 0) 56 dX9_kinds_55 rfl rfl ?_
          refine jr_istore (L' := [_, _, _, _, _, _, _, _]) 58 dX9_kinds_56 rfl (by decide) rfl ?_
          refine kinds_x0 h hn hj hb0 eb (fun σ1 g1 => ?_) 6 0 _ σ (by omega) rfl (jr_eqx_rf _ _)
          have h1 := iv_mov (iv_cx g1) h
          have r1 := rr_of h1
          have hn1 := fn_x hn g1 (by decide)
          have ek1 : σ1 48 j = nI (kd j) := by rw [g1 48 (by decide)]; exact ek
          have eb1 : σ1 49 j = nI b0 := by rw [g1 49 (by decide)]; exact eb
          refine jr_enter (L := [some (.ref 46), some (.int (nI j0)), some (.int (nI j)), some (.int (nI 0)), none, none, none, none, none]) (by decide) (Nat.le_of_ble_eq_true rfl) rfl ?_
          refine jr_aload_n 0 1 dX10_kinds_0 rfl rfl rfl ?_
          refine jr_iload_n 1 2 dX10_kinds_1 rfl rfl rfl ?_
          refine jr_iload_n 2 3 dX10_kinds_2 rfl rfl rfl ?_
          refine cs_X10_322 6 dX10_kinds_3 rfl rfl rfl (Nat.le_of_ble_eq_true rfl) (wp_toldWrongT r1.1.1 h5 hj hn1 ?_)
          refine jr_istore (L' := [_, _, _, _, _, _, _, _, _]) 8 dX10_kinds_6 rfl (by decide) rfl ?_
          refine jr_iload 10 dX10_kinds_8 rfl rfl ?_
          refine jr_if_eq 16 13 dX10_kinds_10 rfl rfl (fun q10 => ?_) (fun q => absurd (by decide) q)
          refine jr_iload_n 3 17 dX10_kinds_16 rfl rfl rfl ?_
          refine jr_iconst (nI 0) 18 dX10_kinds_17 rfl rfl ?_
          refine jr_iconst (nI 1) 19 dX10_kinds_18 rfl rfl ?_
          refine cs_X10_108 22 dX10_kinds_19 rfl rfl (Nat.le_of_ble_eq_true rfl) (wp_inT hc2 (by decide) rfl ?_)
          refine jr_if_ne 28 25 dX10_kinds_22 rfl rfl (fun q22 => ?_) (fun q => absurd q (by decide))
          refine jr_aload_n 0 29 dX10_kinds_28 rfl rfl rfl ?_
          refine gf_X10_13 32 dX10_kinds_29 rfl rfl rfl rfl ?_
          refine jr_iload_n 2 33 dX10_kinds_32 rfl rfl rfl ?_
          refine jr_iald rfl rfl (by omega) 34 dX10_kinds_33 rfl ?_
          rw [ek1]
          refine jr_istore (L' := [_, _, _, _, _, _, _, _, _]) 36 dX10_kinds_34 rfl (by decide) rfl ?_
          refine jr_aload_n 0 37 dX10_kinds_36 rfl rfl rfl ?_
          refine gf_X10_16 40 dX10_kinds_37 rfl rfl rfl rfl ?_
          refine jr_iload_n 2 41 dX10_kinds_40 rfl rfl rfl ?_
          refine jr_iald rfl rfl (by omega) 42 dX10_kinds_41 rfl ?_
          rw [eb1]
          refine jr_istore (L' := [_, _, _, _, _, _, _, _, _]) 44 dX10_kinds_42 rfl (by decide) rfl ?_
          refine jr_iconst (0) 45 dX10_kinds_44 rfl rfl ?_
          refine jr_istore (L' := [_, _, _, _, _, _, _, _, _]) 47 dX10_kinds_45 rfl (by decide) rfl ?_
          refine jr_iconst (nI 0) 48 dX10_kinds_47 rfl rfl ?_
          refine jr_istore (L' := [_, _, _, _, _, _, _, _, _]) 50 dX10_kinds_48 rfl (by decide) rfl ?_
          refine kinds_r0 h hn hj hb0 eb g1 (fun σ2 g3 => ?_) 6 0 _ _ (by omega) rfl ⟨jr_eqx_rf _ _, fun _ _ => ⟨rfl, rfl⟩⟩
          refine ⟨rfl, IV_mov (iv_same_tr (iv_cx g1) ⟨fun a ha => ?_, fun k hk => ?_⟩) h⟩
          · unfold kS jr_up
            by_cases e9 : a = 49
            · subst e9
              show upd (σ2 49) j (nI b0) = σ1 49
              rw [← show σ1 49 j = nI b0 by rw [g1 49 (by decide)]; exact eb, up_back (fun i hi => (g3.2 i hi).2)]
              exact up_same _ _
            · rw [if_neg e9]
              by_cases e8 : a = 48
              · subst e8
                rw [if_pos rfl, ← show σ1 48 j = nI (kd j) by rw [g1 48 (by decide)]; exact ek, up_back (fun i hi => (g3.2 i hi).1)]
                exact up_same _ _
              · rw [if_neg e8]
                exact g3.1 a (by simp only [List.mem_cons]; exact fun q => q.elim e8 (fun q => q.elim e9 (by revert a; decide)))
          · show σ2 46 k = σ1 46 k
            rw [g3.1 46 (by decide)]
        · refine jr_enter (L := [some (.ref 0), some (.int (nI j0)), some (.int (nI j)), some (.int (nI 1)), none, none, none, none]) (by decide) (Nat.le_of_ble_eq_true rfl) rfl ?_
          refine jr_aload_n 0 1 dX9_kinds_0 rfl rfl rfl ?_
          refine jr_iload_n 1 2 dX9_kinds_1 rfl rfl rfl ?_
          refine cs_X9_289 5 dX9_kinds_2 rfl rfl rfl (Nat.le_of_ble_eq_true rfl) (wp_filmRefusalT hn ?_)
          refine jr_istore (L' := [_, _, _, _, _, _, _, _]) 7 dX9_kinds_5 rfl (by decide) rfl ?_
          refine jr_iload 9 dX9_kinds_7 rfl rfl ?_
          refine jr_if_ge 15 12 dX9_kinds_9 rfl rfl (fun q9 => ?_) (fun q => absurd (by decide) q)
          refine jr_aload_n 0 16 dX9_kinds_15 rfl rfl rfl ?_
          refine gf_X9_44 19 dX9_kinds_16 rfl rfl rfl rfl ?_
          refine jr_iload_n 2 20 dX9_kinds_19 rfl rfl rfl ?_
          refine cs_X9_146 23 dX9_kinds_20 rfl rfl rfl (Nat.le_of_ble_eq_true rfl) (wp_hasT_15 hnf h5 hj ?_)
          refine jr_if_ne 29 26 dX9_kinds_23 rfl rfl (fun q23 => ?_) (fun q => absurd q (by decide))
          refine jr_iload_n 3 30 dX9_kinds_29 rfl rfl rfl ?_
          refine jr_iconst (nI 1) 31 dX9_kinds_30 rfl rfl ?_
          refine cs_X9_104 34 dX9_kinds_31 rfl rfl (Nat.le_of_ble_eq_true rfl) (wp_wiT hc2 (by decide) rfl ?_)
          refine jr_if_ne 40 37 dX9_kinds_34 rfl rfl (fun q34 => ?_) (fun q => absurd q (by decide))
          refine jr_iload_n 3 41 dX9_kinds_40 rfl rfl rfl ?_
          refine jr_if_ne 48 44 dX9_kinds_41 rfl rfl (fun q41 => ?_) (fun q => absurd q (by decide))
          refine jr_bipush (nI 9) 50 dX9_kinds_48 rfl rfl ?_
          refine jr_istore (L' := [_, _, _, _, _, _, _, _]) 52 dX9_kinds_50 rfl (by decide) rfl ?_
          refine jr_iconst (0) 53 dX9_kinds_52 rfl rfl ?_
          refine jr_istore (L' := [_, _, _, _, _, _, _, _]) 55 dX9_kinds_53 rfl (by decide) rfl ?_
          refine jr_iconst (nI 0) 56 dX9_kinds_55 rfl rfl ?_
          refine jr_istore (L' := [_, _, _, _, _, _, _, _]) 58 dX9_kinds_56 rfl (by decide) rfl ?_
          refine kinds_x1 h hn hj hb0 eb (fun σ1 g1 => ?_) 10 0 _ σ (by omega) rfl (jr_eqx_rf _ _)
          have h1 := iv_mov (iv_cx g1) h
          have r1 := rr_of h1
          have hn1 := fn_x hn g1 (by decide)
          have ek1 : σ1 48 j = nI (kd j) := by rw [g1 48 (by decide)]; exact ek
          have eb1 : σ1 49 j = nI b0 := by rw [g1 49 (by decide)]; exact eb
          refine jr_enter (L := [some (.ref 46), some (.int (nI j0)), some (.int (nI j)), some (.int (nI 1)), none, none, none, none, none]) (by decide) (Nat.le_of_ble_eq_true rfl) rfl ?_
          refine jr_aload_n 0 1 dX10_kinds_0 rfl rfl rfl ?_
          refine jr_iload_n 1 2 dX10_kinds_1 rfl rfl rfl ?_
          refine jr_iload_n 2 3 dX10_kinds_2 rfl rfl rfl ?_
          refine cs_X10_322 6 dX10_kinds_3 rfl rfl rfl (Nat.le_of_ble_eq_true rfl) (wp_toldWrongT r1.1.1 h5 hj hn1 ?_)
          refine jr_istore (L' := [_, _, _, _, _, _, _, _, _]) 8 dX10_kinds_6 rfl (by decide) rfl ?_
          refine jr_iload 10 dX10_kinds_8 rfl rfl ?_
          refine jr_if_eq 16 13 dX10_kinds_10 rfl rfl (fun q10 => ?_) (fun q => absurd (by decide) q)
          refine jr_iload_n 3 17 dX10_kinds_16 rfl rfl rfl ?_
          refine jr_iconst (nI 0) 18 dX10_kinds_17 rfl rfl ?_
          refine jr_iconst (nI 1) 19 dX10_kinds_18 rfl rfl ?_
          refine cs_X10_108 22 dX10_kinds_19 rfl rfl (Nat.le_of_ble_eq_true rfl) (wp_inT hc2 (by decide) rfl ?_)
          refine jr_if_ne 28 25 dX10_kinds_22 rfl rfl (fun q22 => ?_) (fun q => absurd q (by decide))
          refine jr_aload_n 0 29 dX10_kinds_28 rfl rfl rfl ?_
          refine gf_X10_13 32 dX10_kinds_29 rfl rfl rfl rfl ?_
          refine jr_iload_n 2 33 dX10_kinds_32 rfl rfl rfl ?_
          refine jr_iald rfl rfl (by omega) 34 dX10_kinds_33 rfl ?_
          rw [ek1]
          refine jr_istore (L' := [_, _, _, _, _, _, _, _, _]) 36 dX10_kinds_34 rfl (by decide) rfl ?_
          refine jr_aload_n 0 37 dX10_kinds_36 rfl rfl rfl ?_
          refine gf_X10_16 40 dX10_kinds_37 rfl rfl rfl rfl ?_
          refine jr_iload_n 2 41 dX10_kinds_40 rfl rfl rfl ?_
          refine jr_iald rfl rfl (by omega) 42 dX10_kinds_41 rfl ?_
          rw [eb1]
          refine jr_istore (L' := [_, _, _, _, _, _, _, _, _]) 44 dX10_kinds_42 rfl (by decide) rfl ?_
          refine jr_iconst (0) 45 dX10_kinds_44 rfl rfl ?_
          refine jr_istore (L' := [_, _, _, _, _, _, _, _, _]) 47 dX10_kinds_45 rfl (by decide) rfl ?_
          refine jr_iconst (nI 0) 48 dX10_kinds_47 rfl rfl ?_
          refine jr_istore (L' := [_, _, _, _, _, _, _, _, _]) 50 dX10_kinds_48 rfl (by decide) rfl ?_
          refine kinds_r1 h hn hj hb0 eb g1 (fun σ2 g3 => ?_) 10 0 _ _ (by omega) rfl ⟨jr_eqx_rf _ _, fun _ _ => ⟨rfl, rfl⟩⟩
          refine ⟨rfl, IV_mov (iv_same_tr (iv_cx g1) ⟨fun a ha => ?_, fun k hk => ?_⟩) h⟩
          · unfold kS jr_up
            by_cases e9 : a = 49
            · subst e9
              show upd (σ2 49) j (nI b0) = σ1 49
              rw [← show σ1 49 j = nI b0 by rw [g1 49 (by decide)]; exact eb, up_back (fun i hi => (g3.2 i hi).2)]
              exact up_same _ _
            · rw [if_neg e9]
              by_cases e8 : a = 48
              · subst e8
                rw [if_pos rfl, ← show σ1 48 j = nI (kd j) by rw [g1 48 (by decide)]; exact ek, up_back (fun i hi => (g3.2 i hi).1)]
                exact up_same _ _
              · rw [if_neg e8]
                exact g3.1 a (by simp only [List.mem_cons]; exact fun q => q.elim e8 (fun q => q.elim e9 (by revert a; decide)))
          · show σ2 46 k = σ1 46 k
            rw [g3.1 46 (by decide)]

theorem sm_R_x {X : List Nat} {T : Nat → Nat → List Nat} {lw nf nc f : Nat} {kd se : Nat → Nat} {σ σ' : jr_Sg} (h : jr_eqx X σ σ') (hX : ∀ a, a ∈ [46, 47, 49, 50, 52, 70, 71] → a ∉ X) : sm_R T lw nf nc kd se σ' f = sm_R T lw nf nc kd se σ f := sm_R_ag ⟨fun a ha => h a (hX a (by revert a; decide)), fun k _ => by rw [h 46 (hX 46 (by decide))]⟩
theorem pr_rf_x {X : List Nat} {kd se : Nat → Nat} {f : Nat} {σ σ' : jr_Sg} (h : jr_eqx X σ σ') (hX : ∀ a, a ∈ [47, 49] → a ∉ X) : pr_rf kd se σ' f = pr_rf kd se σ f := by
  unfold pr_rf
  rw [h 47 (hX 47 (by decide)), h 49 (hX 49 (by decide))]
theorem rr_x {X : List Nat} {T : Nat → Nat → List Nat} {n nf nc lw : Nat} {kd se : Nat → Nat} {σ σ' : jr_Sg} (h : rr_ok T n nf nc kd se lw σ) (g : jr_eqx X σ σ') (hX : ∀ a, a ∈ [46, 48, 49, 51, 54, 55] → a ∉ X) : rr_ok T n nf nc kd se lw σ' := rr_mod h (by rw [g 46 (hX 46 (by decide))]) (by rw [g 46 (hX 46 (by decide))]) (by rw [g 46 (hX 46 (by decide))]) (by rw [g 46 (hX 46 (by decide))]) (by rw [g 46 (hX 46 (by decide))]) (g _ (hX _ (by decide))) (g _ (hX _ (by decide))) (g _ (hX _ (by decide))) (g _ (hX _ (by decide))) (g _ (hX _ (by decide)))
theorem up_back {f g : Nat → Int32} {s : Nat} {v : Int32} (h : ∀ i, i ≠ s → f i = g i) : upd f s v = upd g s v := by
  funext i
  by_cases e : i = s
  · subst e; rw [pk_us, pk_us]
  · rw [pk_un e, pk_un e]; exact h i e
theorem up_same (g : Nat → Int32) (s : Nat) : upd g s (g s) = g := by
  funext i
  by_cases e : i = s
  · subst e; exact pk_us
  · exact pk_un e
theorem lay_back {nf : Nat} {σ1 σ2 σ3 σ4 : jr_Sg} {F : Nat → Int32} (g : jr_eqx (72 :: iv_RX) σ1 σ2) (k : ∀ i, i < 5 → σ2 72 i = σ2 51 i) (hF : ∀ i, 5 ≤ i → F i = σ2 51 i) (g3 : jr_eqx iv_RX (jr_upc σ2 51 F) σ3) (l1 : ∀ a, a ≠ 51 → σ4 a = σ3 a) (l2 : ∀ i, i < 5 → σ4 51 i = σ3 72 i) (l3 : ∀ i, 5 ≤ i → σ4 51 i = σ3 51 i) : jr_eqx (72 :: iv_RX) σ1 σ4 ∧ ∀ i, i < 5 → σ4 72 i = σ4 51 i := by
  have e72 : σ3 72 = σ2 72 := g3 72 (by decide)
  have e51 : σ3 51 = F := g3 51 (by decide)
  have f51 : σ4 51 = σ2 51 := by
    funext i
    by_cases hi : i < 5
    · rw [l2 i hi, e72, k i hi]
    · rw [l3 i (by omega), e51, hF i (by omega)]
  refine ⟨fun a ha => ?_, fun i hi => ?_⟩
  · by_cases e : a = 51
    · subst e; rw [f51]; exact g 51 (by decide)
    · rw [l1 a e, g3 a (fun q => ha (List.mem_cons_of_mem _ q))]
      exact (show jr_upc σ2 51 F a = σ2 a by unfold jr_upc; rw [if_neg e]).trans (g a ha)
  · rw [l1 72 (by decide), e72, f51]; exact k i hi
/-- the first least -/
def bw (A : Nat → Int32) : Nat → Int32 × Int32
  | 0 => (-1, 0)
  | n + 1 => if (bw A n).1 = -1 ∨ A n < (bw A n).2 then (nI n, A n) else bw A n
theorem bw_t {j : Nat} {A : Nat → Int32} {x y : Int32} (e : (x, y) = bw A j) (h2 : x = -1 ∨ A j < y) : (nI j, A j) = bw A (j + 1) := by rw [bw, ← e, if_pos h2]
theorem bw_k {j : Nat} {A : Nat → Int32} {x y : Int32} (e : (x, y) = bw A j) (h2 : ¬ x = -1) (h3 : y ≤ A j) : (x, y) = bw A (j + 1) := by rw [bw, ← e, if_neg (fun q => q.elim h2 (fun z => absurd z (Int32.not_lt.mpr h3)))]
theorem iv_none {T : Nat → Nat → List Nat} {n nf nc lw tp : Nat} {kd se : Nat → Nat} {σ : jr_Sg} (h : iv T n nf nc kd se lw tp σ) : r_none σ := ⟨h.2.2.2.2.2.2.1.1, h.2.2.2.2.2.2.1.2.1, h.2.2.2.2.2.2.1.2.2.2.2⟩
noncomputable def wh_A (T : Nat → Nat → List Nat) (lw nf nc : Nat) (kd se : Nat → Nat) (σ : jr_Sg) (j i : Nat) : Int32 := tr_rs (sm_R T lw nf nc kd (mv_se σ nf j i) σ j) (pr_rf kd (mv_se σ nf j i) σ j)
theorem where_x {G : jr_G} {d : Nat} {σ : jr_Sg} {k : Value → jr_Sg → Prop} {T : Nat → Nat → List Nat} {n nf nc lw tp j : Nat} {kd se : Nat → Nat} {c2 : Int32} (h : iv T n nf nc kd se lw tp σ) (hj : j < nf) (fin : ∀ (σ1 : jr_Sg) (x y : Int32) (x5 x6 : Option Value), (x, y) = bw (wh_A T lw nf nc kd se σ j) 8 → jr_eqx iv_CX σ σ1 → jr_R G (d + 19) mi_X9_where (jr_k k) 103 [some (.ref 0), some (.int (nI j)), some (.int c2), some (.int x), some (.int y), x5, x6] [] σ1) : ∀ (m i : Nat) (σ1 : jr_Sg) (x y : Int32) (x6 : Option Value), i + m = 8 → (x, y) = bw (wh_A T lw nf nc kd se σ j) i → jr_eqx iv_CX σ σ1 → jr_R G (d + 19) mi_X9_where (jr_k k) 33 [some (.ref 0), some (.int (nI j)), some (.int c2), some (.int x), some (.int y), some (.int (nI i)), x6] [] σ1 := by
  have h5 : nf ≤ 5 := h.2.2.1.2.1.2.1
  have hsr := h.2.2.1.2.1
  have hlw := h.2.2.1.2.2.2.2.1
  intro m
  induction m with
  | zero =>
    intro i σ1 x y x6 hi e g
    have ei : i = 8 := hi
    subst ei
    refine jr_iload 35 dX9_where_33 rfl rfl ?_
    refine jr_bipush (nI 8) 37 dX9_where_35 rfl rfl ?_
    refine jr_icmp_ge 103 40 dX9_where_37 rfl rfl (fun q37 => ?_) (fun z => absurd (by decide) z)
    exact fin σ1 _ _ _ _ e g
  | succ m ih =>
    intro i σ1 x y x6 hi e g
    refine jr_iload 35 dX9_where_33 rfl rfl ?_
    refine jr_bipush (nI 8) 37 dX9_where_35 rfl rfl ?_
    refine jr_icmp_ge 103 40 dX9_where_37 rfl rfl (fun z => absurd z (nI_ge (b := 8) (by omega) (by decide))) (fun q37 => ?_)
    refine jr_aload_n 0 41 dX9_where_40 rfl rfl rfl ?_
    refine gf_X9_48 44 dX9_where_41 rfl rfl rfl rfl ?_
    refine jr_aload_n 0 45 dX9_where_44 rfl rfl rfl ?_
    refine gf_X9_44 48 dX9_where_45 rfl rfl rfl rfl ?_
    refine cs_X9_225 51 dX9_where_48 rfl rfl rfl (Nat.le_of_ble_eq_true rfl) (wp_become_24_15 (fun σ2 b => ?_))
    have ht := th_become h g b
    have g2 := bc_cx g b
    refine jr_aload_n 0 52 dX9_where_51 rfl rfl rfl ?_
    refine gf_X9_48 55 dX9_where_52 rfl rfl rfl rfl ?_
    refine jr_iload_n 1 56 dX9_where_55 rfl rfl rfl ?_
    refine jr_iload 58 dX9_where_56 rfl rfl ?_
    refine cs_X9_155 61 dX9_where_58 rfl rfl rfl (Nat.le_of_ble_eq_true rfl) (wp_move_24 ht.1.1 h5 hj (by omega) ?_)
    have ht2 := th_seat hsr ht hj (s := i) (by omega)
    have g3 : jr_eqx iv_CX σ (jr_upc σ2 28 (pu_move (σ2 28) nf j (nI i))) := jr_eqx_tr g2 (jr_eqx_upc _ _ (by decide))
    have hT := ti_C_of h.1 (g3 1 (by decide)) (g3 2 (by decide)) (g3 3 (by decide))
    refine jr_aload_n 0 62 dX9_where_61 rfl rfl rfl ?_
    refine jr_iload_n 1 63 dX9_where_62 rfl rfl rfl ?_
    refine jr_bipush (nI 40) 65 dX9_where_63 rfl rfl ?_
    refine cs_X9_229 68 dX9_where_65 rfl rfl rfl (Nat.le_of_ble_eq_true rfl) (wp_playThought (len := 40) hT hlw ht2 (iv_none h) (by omega) hj (fun σ4 g4 g5 => ?_))
    refine jr_aload_n 0 69 dX9_where_68 rfl rfl rfl ?_
    refine gf_X9_37 72 dX9_where_69 rfl rfl rfl rfl ?_
    refine jr_iload_n 1 73 dX9_where_72 rfl rfl rfl ?_
    refine cs_X9_236 76 dX9_where_73 rfl rfl rfl (Nat.le_of_ble_eq_true rfl) (wp_redSeconds (by omega) ?_)
    refine jr_topi (y := (wh_A T lw nf nc kd se σ j) i) (pd_rs g5) ?_
    refine jr_istore (L' := [_, _, _, _, _, _, _]) 78 dX9_where_76 rfl (by decide) rfl ?_
    refine jr_iload_n 3 79 dX9_where_78 rfl rfl rfl ?_
    refine jr_iconst ((-1)) 80 dX9_where_79 rfl rfl ?_
    refine jr_icmp_eq 90 83 dX9_where_80 rfl rfl (fun q80 => ?_) (fun q80 => ?_)
    · refine jr_iload 92 dX9_where_90 rfl rfl ?_
      refine jr_istore_n 3 (L' := [_, _, _, _, _, _, _]) 93 dX9_where_92 rfl rfl (by decide) rfl ?_
      refine jr_iload 95 dX9_where_93 rfl rfl ?_
      refine jr_istore (L' := [_, _, _, _, _, _, _]) 97 dX9_where_95 rfl (by decide) rfl ?_
      refine jr_iinc (v := nI (i + 1)) (L' := [_, _, _, _, _, _, _]) 100 dX9_where_97 rfl rfl (nI_1 i) (by decide) rfl ?_
      refine jr_goto 33 dX9_where_100 rfl ?_
      exact ih (i + 1) σ4 _ _ _ (by omega) (bw_t (A := (wh_A T lw nf nc kd se σ j)) e (Or.inl q80)) (jr_eqx_tr g3 (jr_eqx_w g4 (by decide)))
    · refine jr_iload 85 dX9_where_83 rfl rfl ?_
      refine jr_iload 87 dX9_where_85 rfl rfl ?_
      refine jr_icmp_ge 97 90 dX9_where_87 rfl rfl (fun q87 => ?_) (fun q87 => ?_)
      · refine jr_iinc (v := nI (i + 1)) (L' := [_, _, _, _, _, _, _]) 100 dX9_where_97 rfl rfl (nI_1 i) (by decide) rfl ?_
        refine jr_goto 33 dX9_where_100 rfl ?_
        exact ih (i + 1) σ4 _ _ _ (by omega) (bw_k (A := (wh_A T lw nf nc kd se σ j)) e q80 q87) (jr_eqx_tr g3 (jr_eqx_w g4 (by decide)))
      · refine jr_iload 92 dX9_where_90 rfl rfl ?_
        refine jr_istore_n 3 (L' := [_, _, _, _, _, _, _]) 93 dX9_where_92 rfl rfl (by decide) rfl ?_
        refine jr_iload 95 dX9_where_93 rfl rfl ?_
        refine jr_istore (L' := [_, _, _, _, _, _, _]) 97 dX9_where_95 rfl (by decide) rfl ?_
        refine jr_iinc (v := nI (i + 1)) (L' := [_, _, _, _, _, _, _]) 100 dX9_where_97 rfl rfl (nI_1 i) (by decide) rfl ?_
        refine jr_goto 33 dX9_where_100 rfl ?_
        exact ih (i + 1) σ4 _ _ _ (by omega) (bw_t (A := (wh_A T lw nf nc kd se σ j)) e (Or.inr (Int32.not_le.mp q87))) (jr_eqx_tr g3 (jr_eqx_w g4 (by decide)))
theorem where_r {G : jr_G} {d : Nat} {σ : jr_Sg} {k : Value → jr_Sg → Prop} {T : Nat → Nat → List Nat} {n nf nc lw tp j : Nat} {kd se : Nat → Nat} {c2 : Int32} (h : iv T n nf nc kd se lw tp σ) (hj : j < nf) {σ1 : jr_Sg} (g1 : jr_eqx iv_CX σ σ1) (fin : ∀ (σ2 : jr_Sg) (x y : Int32) (x5 x6 x7 : Option Value), (x, y) = bw (wh_A T lw nf nc kd se σ j) 8 → jr_eqx (72 :: iv_RX) σ1 σ2 → jr_R G (d + 20) mi_X10_where (jr_k k) 113 [some (.ref 46), some (.int (nI j)), some (.int c2), some (.int x), some (.int y), x5, x6, x7] [] σ2) : ∀ (m i : Nat) (σ2 : jr_Sg) (x y : Int32) (x6 x7 : Option Value), i + m = 8 → (x, y) = bw (wh_A T lw nf nc kd se σ j) i → jr_eqx (72 :: iv_RX) σ1 σ2 → (∀ i, i < 5 → σ2 72 i = σ2 51 i) → jr_R G (d + 20) mi_X10_where (jr_k k) 35 [some (.ref 46), some (.int (nI j)), some (.int c2), some (.int x), some (.int y), some (.int (nI i)), x6, x7] [] σ2 := by
  have h1 := iv_mov (iv_cx g1) h
  have r1 := rr_of h1
  have h5 : nf ≤ 5 := r1.1.2.1
  intro m
  induction m with
  | zero =>
    intro i σ2 x y x6 x7 hi e g g72
    have ei : i = 8 := hi
    subst ei
    refine jr_iload 37 dX10_where_35 rfl rfl ?_
    refine jr_bipush (nI 8) 39 dX10_where_37 rfl rfl ?_
    refine jr_icmp_ge 113 42 dX10_where_39 rfl rfl (fun q39 => ?_) (fun z => absurd (by decide) z)
    exact fin σ2 _ _ _ _ _ e g
  | succ m ih =>
    intro i σ2 x y x6 x7 hi e g g72
    have r2 := rr_x r1 g (by decide)
    have e51 : σ2 51 = σ 51 := (g 51 (by decide)).trans (g1 51 (by decide))
    have emv : mv_se σ2 nf j i = mv_se σ nf j i := by unfold mv_se; rw [e51]
    have eA : tr_rt (sm_R T lw nf nc kd (mv_se σ2 nf j i) (jr_upc σ2 51 (pu_move (σ2 51) nf j (nI i))) j) (pr_rf kd (mv_se σ2 nf j i) (jr_upc σ2 51 (pu_move (σ2 51) nf j (nI i))) j) 1 = wh_A T lw nf nc kd se σ j i := by
      show tr_rs (sm_R T lw nf nc kd (mv_se σ2 nf j i) (jr_upc σ2 51 (pu_move (σ2 51) nf j (nI i))) j) (pr_rf kd (mv_se σ2 nf j i) (jr_upc σ2 51 (pu_move (σ2 51) nf j (nI i))) j) = _
      rw [sm_R_x (jr_eqx_upc (X := [51]) _ _ (by decide)) (by decide), pr_rf_x (jr_eqx_upc (X := [51]) _ _ (by decide)) (by decide), sm_R_x g (by decide), pr_rf_x g (by decide), sm_R_of g1, pr_rf_of g1, emv]
      rfl
    refine jr_iload 37 dX10_where_35 rfl rfl ?_
    refine jr_bipush (nI 8) 39 dX10_where_37 rfl rfl ?_
    refine jr_icmp_ge 113 42 dX10_where_39 rfl rfl (fun z => absurd z (nI_ge (b := 8) (by omega) (by decide))) (fun q39 => ?_)
    refine jr_aload_n 0 43 dX10_where_42 rfl rfl rfl ?_
    refine jr_iload_n 1 44 dX10_where_43 rfl rfl rfl ?_
    refine jr_iload 46 dX10_where_44 rfl rfl ?_
    refine cs_X10_207 49 dX10_where_46 rfl rfl rfl (Nat.le_of_ble_eq_true rfl) (wp_sits r2.1.1 h5 hj ?_)
    refine jr_pop 50 dX10_where_49 rfl rfl ?_
    refine jr_aload_n 0 51 dX10_where_50 rfl rfl rfl ?_
    refine jr_iload_n 1 52 dX10_where_51 rfl rfl rfl ?_
    refine jr_iconst (nI 1) 53 dX10_where_52 rfl rfl ?_
    refine cs_X10_275 56 dX10_where_53 rfl rfl rfl (Nat.le_of_ble_eq_true rfl) (wp_rrt (what := 1) (rr_seat r2 hj (s := i) (by omega)) hj (by omega) (fun σ3 g3 => ?_))
    rw [eA]
    refine jr_istore (L' := [_, _, _, _, _, _, _, _]) 58 dX10_where_56 rfl (by decide) rfl ?_
    refine jr_aload_n 0 59 dX10_where_58 rfl rfl rfl ?_
    refine cs_X10_301 62 dX10_where_59 rfl rfl rfl (Nat.le_of_ble_eq_true rfl) (wp_laysSeats (fun σ4 l1 l2 l3 => ?_))
    obtain ⟨g4, g5⟩ := lay_back (nf := nf) g g72 (fun i hi => mv_far hj (by omega)) g3 l1 l2 l3
    refine jr_iload_n 3 63 dX10_where_62 rfl rfl rfl ?_
    refine jr_iconst ((-1)) 64 dX10_where_63 rfl rfl ?_
    refine jr_icmp_eq 74 67 dX10_where_64 rfl rfl (fun q64 => ?_) (fun q64 => ?_)
    · refine jr_iconst (nI 1) 75 dX10_where_74 rfl rfl ?_
      refine jr_goto 79 dX10_where_75 rfl ?_
      refine jr_istore (L' := [_, _, _, _, _, _, _, _]) 81 dX10_where_79 rfl (by decide) rfl ?_
      refine jr_iload 83 dX10_where_81 rfl rfl ?_
      refine jr_if_eq 91 86 dX10_where_83 rfl rfl (fun q => absurd q (by decide)) (fun q83 => ?_)
      refine jr_iload 88 dX10_where_86 rfl rfl ?_
      refine jr_goto 92 dX10_where_88 rfl ?_
      refine jr_istore_n 3 (L' := [_, _, _, _, _, _, _, _]) 93 dX10_where_92 rfl rfl (by decide) rfl ?_
      refine jr_iload 95 dX10_where_93 rfl rfl ?_
      refine jr_if_eq 103 98 dX10_where_95 rfl rfl (fun q => absurd q (by decide)) (fun q95 => ?_)
      refine jr_iload 100 dX10_where_98 rfl rfl ?_
      refine jr_goto 105 dX10_where_100 rfl ?_
      refine jr_istore (L' := [_, _, _, _, _, _, _, _]) 107 dX10_where_105 rfl (by decide) rfl ?_
      refine jr_iinc (v := nI (i + 1)) (L' := [_, _, _, _, _, _, _, _]) 110 dX10_where_107 rfl rfl (nI_1 i) (by decide) rfl ?_
      refine jr_goto 35 dX10_where_110 rfl ?_
      exact ih (i + 1) σ4 _ _ _ _ (by omega) (bw_t (A := (wh_A T lw nf nc kd se σ j)) e (Or.inl q64)) g4 g5
    · refine jr_iload 69 dX10_where_67 rfl rfl ?_
      refine jr_iload 71 dX10_where_69 rfl rfl ?_
      refine jr_icmp_ge 78 74 dX10_where_71 rfl rfl (fun q71 => ?_) (fun q71 => ?_)
      · refine jr_iconst (nI 0) 79 dX10_where_78 rfl rfl ?_
        refine jr_istore (L' := [_, _, _, _, _, _, _, _]) 81 dX10_where_79 rfl (by decide) rfl ?_
        refine jr_iload 83 dX10_where_81 rfl rfl ?_
        refine jr_if_eq 91 86 dX10_where_83 rfl rfl (fun q83 => ?_) (fun q => absurd (by decide) q)
        refine jr_iload_n 3 92 dX10_where_91 rfl rfl rfl ?_
        refine jr_istore_n 3 (L' := [_, _, _, _, _, _, _, _]) 93 dX10_where_92 rfl rfl (by decide) rfl ?_
        refine jr_iload 95 dX10_where_93 rfl rfl ?_
        refine jr_if_eq 103 98 dX10_where_95 rfl rfl (fun q95 => ?_) (fun q => absurd (by decide) q)
        refine jr_iload 105 dX10_where_103 rfl rfl ?_
        refine jr_istore (L' := [_, _, _, _, _, _, _, _]) 107 dX10_where_105 rfl (by decide) rfl ?_
        refine jr_iinc (v := nI (i + 1)) (L' := [_, _, _, _, _, _, _, _]) 110 dX10_where_107 rfl rfl (nI_1 i) (by decide) rfl ?_
        refine jr_goto 35 dX10_where_110 rfl ?_
        exact ih (i + 1) σ4 _ _ _ _ (by omega) (bw_k (A := (wh_A T lw nf nc kd se σ j)) e q64 q71) g4 g5
      · refine jr_iconst (nI 1) 75 dX10_where_74 rfl rfl ?_
        refine jr_goto 79 dX10_where_75 rfl ?_
        refine jr_istore (L' := [_, _, _, _, _, _, _, _]) 81 dX10_where_79 rfl (by decide) rfl ?_
        refine jr_iload 83 dX10_where_81 rfl rfl ?_
        refine jr_if_eq 91 86 dX10_where_83 rfl rfl (fun q => absurd q (by decide)) (fun q83 => ?_)
        refine jr_iload 88 dX10_where_86 rfl rfl ?_
        refine jr_goto 92 dX10_where_88 rfl ?_
        refine jr_istore_n 3 (L' := [_, _, _, _, _, _, _, _]) 93 dX10_where_92 rfl rfl (by decide) rfl ?_
        refine jr_iload 95 dX10_where_93 rfl rfl ?_
        refine jr_if_eq 103 98 dX10_where_95 rfl rfl (fun q => absurd q (by decide)) (fun q95 => ?_)
        refine jr_iload 100 dX10_where_98 rfl rfl ?_
        refine jr_goto 105 dX10_where_100 rfl ?_
        refine jr_istore (L' := [_, _, _, _, _, _, _, _]) 107 dX10_where_105 rfl (by decide) rfl ?_
        refine jr_iinc (v := nI (i + 1)) (L' := [_, _, _, _, _, _, _, _]) 110 dX10_where_107 rfl rfl (nI_1 i) (by decide) rfl ?_
        refine jr_goto 35 dX10_where_110 rfl ?_
        exact ih (i + 1) σ4 _ _ _ _ (by omega) (bw_t (A := (wh_A T lw nf nc kd se σ j)) e (Or.inr (Int32.not_le.mp q71))) g4 g5
theorem pp_where {G : jr_G} {d : Nat} {σ : jr_Sg} {f c : Int32} (h : IV σ) : jr_pair G (d + 20) mi_X9_where mi_X10_where [.int f, .int c] σ := by
  obtain ⟨T, n, nf, nc, kd, se, lw, tp, h⟩ := h
  have hh := h
  obtain ⟨hTC, hTR, ⟨hsc, hsr, hl1, hl2, hlw, hfc, hli, hca⟩, htp, himg, hsh, hrest, hwd⟩ := hh
  have hnf := hsc.1
  have h5 := hsc.2.1
  have hnc := hsc.2.2.1
  have h8 := hsc.2.2.2.1
  have rnf := hsr.1
  have rnc := hsr.2.2.1
  have hlm := hrest.2.2.2.1
  unfold jr_pair
  rcases jr_fc f h5 with hf | ⟨j, hj, rfl⟩
  · refine jr_enter (L := [some (.ref 0), some (.int f), some (.int c), none, none, none, none]) (by decide) (Nat.le_of_ble_eq_true rfl) rfl ?_
    refine jr_aload_n 0 1 dX9_where_0 rfl rfl rfl ?_
    refine gf_X9_44 4 dX9_where_1 rfl rfl rfl rfl ?_
    refine jr_iload_n 1 5 dX9_where_4 rfl rfl rfl ?_
    refine cs_X9_146 8 dX9_where_5 rfl rfl rfl (Nat.le_of_ble_eq_true rfl) (wp_has_15 hnf h5 (fun j hj e => absurd hf (by rw [e]; exact jr_fcn hj (by omega))) (fun _ => ?_))
    refine jr_if_ne 14 11 dX9_where_8 rfl rfl (fun q => absurd (by decide) q) (fun q8 => ?_)
    refine jr_bipush ((-5)) 13 dX9_where_11 rfl rfl ?_
    refine jr_ireturn dX9_where_13 rfl rfl ?_
    refine jr_enter (L := [some (.ref 46), some (.int f), some (.int c), none, none, none, none, none]) (by decide) (Nat.le_of_ble_eq_true rfl) rfl ?_
    refine jr_aload_n 0 1 dX10_where_0 rfl rfl rfl ?_
    refine jr_iload_n 1 2 dX10_where_1 rfl rfl rfl ?_
    refine cs_X10_204 5 dX10_where_2 rfl rfl rfl (Nat.le_of_ble_eq_true rfl) (wp_isFace rnf h5 (fun j hj e => absurd hf (by rw [e]; exact jr_fcn hj (by omega))) (fun _ => ?_))
    refine jr_if_ne 11 8 dX10_where_5 rfl rfl (fun q => absurd (by decide) q) (fun q5 => ?_)
    refine jr_bipush ((-5)) 10 dX10_where_8 rfl rfl ?_
    refine jr_ireturn dX10_where_10 rfl rfl ?_
    exact ⟨rfl, IV_mov (iv_same_x (jr_eqx_rf [] _) (by decide)) h⟩
  · rcases jr_rg c (m := 1) (by decide) with qc2 | ⟨c2, hc2, rfl⟩
    · refine jr_enter (L := [some (.ref 0), some (.int (nI j)), some (.int c), none, none, none, none]) (by decide) (Nat.le_of_ble_eq_true rfl) rfl ?_
      refine jr_aload_n 0 1 dX9_where_0 rfl rfl rfl ?_
      refine gf_X9_44 4 dX9_where_1 rfl rfl rfl rfl ?_
      refine jr_iload_n 1 5 dX9_where_4 rfl rfl rfl ?_
      refine cs_X9_146 8 dX9_where_5 rfl rfl rfl (Nat.le_of_ble_eq_true rfl) (wp_hasT_15 hnf h5 hj ?_)
      refine jr_if_ne 14 11 dX9_where_8 rfl rfl (fun q8 => ?_) (fun q => absurd q (by decide))
      refine jr_iload_n 2 15 dX9_where_14 rfl rfl rfl ?_
      refine jr_iconst (1) 16 dX9_where_15 rfl rfl ?_
      refine cs_X9_104 19 dX9_where_16 rfl rfl (Nat.le_of_ble_eq_true rfl) (wp_wiF qc2 ?_)
      refine jr_if_ne 25 22 dX9_where_19 rfl rfl (fun q => absurd (by decide) q) (fun q19 => ?_)
      refine jr_bipush ((-7)) 24 dX9_where_22 rfl rfl ?_
      refine jr_ireturn dX9_where_24 rfl rfl ?_
      refine jr_enter (L := [some (.ref 46), some (.int (nI j)), some (.int c), none, none, none, none, none]) (by decide) (Nat.le_of_ble_eq_true rfl) rfl ?_
      refine jr_aload_n 0 1 dX10_where_0 rfl rfl rfl ?_
      refine jr_iload_n 1 2 dX10_where_1 rfl rfl rfl ?_
      refine cs_X10_204 5 dX10_where_2 rfl rfl rfl (Nat.le_of_ble_eq_true rfl) (wp_isFace rnf h5 (fun _ _ _ => ?_) (fun q => absurd q (jr_fcn hj (by omega))))
      refine jr_if_ne 11 8 dX10_where_5 rfl rfl (fun q5 => ?_) (fun q => absurd q (by decide))
      refine jr_iload_n 2 12 dX10_where_11 rfl rfl rfl ?_
      refine jr_iconst (0) 13 dX10_where_12 rfl rfl ?_
      refine jr_iconst (1) 14 dX10_where_13 rfl rfl ?_
      refine cs_X10_108 17 dX10_where_14 rfl rfl (Nat.le_of_ble_eq_true rfl) (wp_inF qc2 ?_)
      refine jr_if_ne 23 20 dX10_where_17 rfl rfl (fun q => absurd (by decide) q) (fun q17 => ?_)
      refine jr_bipush ((-7)) 22 dX10_where_20 rfl rfl ?_
      refine jr_ireturn dX10_where_22 rfl rfl ?_
      exact ⟨rfl, IV_mov (iv_same_x (jr_eqx_rf [] _) (by decide)) h⟩
    · rcases (by omega : c2 = 0 ∨ c2 = 1) with rfl | rfl
      · refine jr_enter (L := [some (.ref 0), some (.int (nI j)), some (.int (nI 0)), none, none, none, none]) (by decide) (Nat.le_of_ble_eq_true rfl) rfl ?_
        refine jr_aload_n 0 1 dX9_where_0 rfl rfl rfl ?_
        refine gf_X9_44 4 dX9_where_1 rfl rfl rfl rfl ?_
        refine jr_iload_n 1 5 dX9_where_4 rfl rfl rfl ?_
        refine cs_X9_146 8 dX9_where_5 rfl rfl rfl (Nat.le_of_ble_eq_true rfl) (wp_hasT_15 hnf h5 hj ?_)
        refine jr_if_ne 14 11 dX9_where_8 rfl rfl (fun q8 => ?_) (fun q => absurd q (by decide))
        refine jr_iload_n 2 15 dX9_where_14 rfl rfl rfl ?_
        refine jr_iconst (nI 1) 16 dX9_where_15 rfl rfl ?_
        refine cs_X9_104 19 dX9_where_16 rfl rfl (Nat.le_of_ble_eq_true rfl) (wp_wiT hc2 (by decide) rfl ?_)
        refine jr_if_ne 25 22 dX9_where_19 rfl rfl (fun q19 => ?_) (fun q => absurd q (by decide))
        refine jr_iconst ((-1)) 26 dX9_where_25 rfl rfl ?_
        refine jr_istore_n 3 (L' := [_, _, _, _, _, _, _]) 27 dX9_where_26 rfl rfl (by decide) rfl ?_
        refine jr_iconst (0) 28 dX9_where_27 rfl rfl ?_
        refine jr_istore (L' := [_, _, _, _, _, _, _]) 30 dX9_where_28 rfl (by decide) rfl ?_
        refine jr_iconst (nI 0) 31 dX9_where_30 rfl rfl ?_
        refine jr_istore (L' := [_, _, _, _, _, _, _]) 33 dX9_where_31 rfl (by decide) rfl ?_
        refine where_x h hj (fun σ1 x y x5 x6 e1 g1 => ?_) 8 0 σ _ _ _ (by omega) rfl (jr_eqx_rf _ _)
        refine jr_iload_n 2 104 dX9_where_103 rfl rfl rfl ?_
        refine jr_if_ne 111 107 dX9_where_104 rfl rfl (fun q => absurd (by decide) q) (fun q104 => ?_)
        refine jr_iload_n 3 108 dX9_where_107 rfl rfl rfl ?_
        refine jr_goto 113 dX9_where_108 rfl ?_
        refine jr_ireturn dX9_where_113 rfl rfl ?_
        have h1 := iv_mov (iv_cx g1) h
        have r1 := rr_of h1
        refine jr_enter (L := [some (.ref 46), some (.int (nI j)), some (.int (nI 0)), none, none, none, none, none]) (by decide) (Nat.le_of_ble_eq_true rfl) rfl ?_
        refine jr_aload_n 0 1 dX10_where_0 rfl rfl rfl ?_
        refine jr_iload_n 1 2 dX10_where_1 rfl rfl rfl ?_
        refine cs_X10_204 5 dX10_where_2 rfl rfl rfl (Nat.le_of_ble_eq_true rfl) (wp_isFace r1.1.1 h5 (fun _ _ _ => ?_) (fun q => absurd q (jr_fcn hj (by omega))))
        refine jr_if_ne 11 8 dX10_where_5 rfl rfl (fun q5 => ?_) (fun q => absurd q (by decide))
        refine jr_iload_n 2 12 dX10_where_11 rfl rfl rfl ?_
        refine jr_iconst (nI 0) 13 dX10_where_12 rfl rfl ?_
        refine jr_iconst (nI 1) 14 dX10_where_13 rfl rfl ?_
        refine cs_X10_108 17 dX10_where_14 rfl rfl (Nat.le_of_ble_eq_true rfl) (wp_inT hc2 (by decide) rfl ?_)
        refine jr_if_ne 23 20 dX10_where_17 rfl rfl (fun q17 => ?_) (fun q => absurd q (by decide))
        refine jr_iconst ((-1)) 24 dX10_where_23 rfl rfl ?_
        refine jr_istore_n 3 (L' := [_, _, _, _, _, _, _, _]) 25 dX10_where_24 rfl rfl (by decide) rfl ?_
        refine jr_iconst (0) 26 dX10_where_25 rfl rfl ?_
        refine jr_istore (L' := [_, _, _, _, _, _, _, _]) 28 dX10_where_26 rfl (by decide) rfl ?_
        refine jr_aload_n 0 29 dX10_where_28 rfl rfl rfl ?_
        refine cs_X10_298 32 dX10_where_29 rfl rfl rfl (Nat.le_of_ble_eq_true rfl) (wp_keepsSeats (fun σ8 l1 l2 l3 => ?_))
        refine jr_iconst (nI 0) 33 dX10_where_32 rfl rfl ?_
        refine jr_istore (L' := [_, _, _, _, _, _, _, _]) 35 dX10_where_33 rfl (by decide) rfl ?_
        refine where_r h hj g1 (fun σ2 x2 y2 x5 x6 x7 e2 g2 => ?_) 8 0 σ8 _ _ _ _ (by omega) rfl (fun a ha => l1 a (fun e => ha (by rw [e]; decide))) (fun i hi => (l2 i hi).trans (by rw [l1 51 (by decide)]))
        refine jr_iload_n 2 114 dX10_where_113 rfl rfl rfl ?_
        refine jr_if_ne 121 117 dX10_where_114 rfl rfl (fun q => absurd (by decide) q) (fun q114 => ?_)
        refine jr_iload_n 3 118 dX10_where_117 rfl rfl rfl ?_
        refine jr_goto 123 dX10_where_118 rfl ?_
        refine jr_ireturn dX10_where_123 rfl rfl ?_
        have exy := Prod.mk.inj (e2.trans e1.symm)
        exact ⟨congrArg Value.int exy.1, IV_mov (iv_same_tr (iv_cx g1) (iv_same_x g2 (by decide))) h⟩
      · refine jr_enter (L := [some (.ref 0), some (.int (nI j)), some (.int (nI 1)), none, none, none, none]) (by decide) (Nat.le_of_ble_eq_true rfl) rfl ?_
        refine jr_aload_n 0 1 dX9_where_0 rfl rfl rfl ?_
        refine gf_X9_44 4 dX9_where_1 rfl rfl rfl rfl ?_
        refine jr_iload_n 1 5 dX9_where_4 rfl rfl rfl ?_
        refine cs_X9_146 8 dX9_where_5 rfl rfl rfl (Nat.le_of_ble_eq_true rfl) (wp_hasT_15 hnf h5 hj ?_)
        refine jr_if_ne 14 11 dX9_where_8 rfl rfl (fun q8 => ?_) (fun q => absurd q (by decide))
        refine jr_iload_n 2 15 dX9_where_14 rfl rfl rfl ?_
        refine jr_iconst (nI 1) 16 dX9_where_15 rfl rfl ?_
        refine cs_X9_104 19 dX9_where_16 rfl rfl (Nat.le_of_ble_eq_true rfl) (wp_wiT hc2 (by decide) rfl ?_)
        refine jr_if_ne 25 22 dX9_where_19 rfl rfl (fun q19 => ?_) (fun q => absurd q (by decide))
        refine jr_iconst ((-1)) 26 dX9_where_25 rfl rfl ?_
        refine jr_istore_n 3 (L' := [_, _, _, _, _, _, _]) 27 dX9_where_26 rfl rfl (by decide) rfl ?_
        refine jr_iconst (0) 28 dX9_where_27 rfl rfl ?_
        refine jr_istore (L' := [_, _, _, _, _, _, _]) 30 dX9_where_28 rfl (by decide) rfl ?_
        refine jr_iconst (nI 0) 31 dX9_where_30 rfl rfl ?_
        refine jr_istore (L' := [_, _, _, _, _, _, _]) 33 dX9_where_31 rfl (by decide) rfl ?_
        refine where_x h hj (fun σ1 x y x5 x6 e1 g1 => ?_) 8 0 σ _ _ _ (by omega) rfl (jr_eqx_rf _ _)
        refine jr_iload_n 2 104 dX9_where_103 rfl rfl rfl ?_
        refine jr_if_ne 111 107 dX9_where_104 rfl rfl (fun q104 => ?_) (fun q => absurd q (by decide))
        refine jr_iload 113 dX9_where_111 rfl rfl ?_
        refine jr_ireturn dX9_where_113 rfl rfl ?_
        have h1 := iv_mov (iv_cx g1) h
        have r1 := rr_of h1
        refine jr_enter (L := [some (.ref 46), some (.int (nI j)), some (.int (nI 1)), none, none, none, none, none]) (by decide) (Nat.le_of_ble_eq_true rfl) rfl ?_
        refine jr_aload_n 0 1 dX10_where_0 rfl rfl rfl ?_
        refine jr_iload_n 1 2 dX10_where_1 rfl rfl rfl ?_
        refine cs_X10_204 5 dX10_where_2 rfl rfl rfl (Nat.le_of_ble_eq_true rfl) (wp_isFace r1.1.1 h5 (fun _ _ _ => ?_) (fun q => absurd q (jr_fcn hj (by omega))))
        refine jr_if_ne 11 8 dX10_where_5 rfl rfl (fun q5 => ?_) (fun q => absurd q (by decide))
        refine jr_iload_n 2 12 dX10_where_11 rfl rfl rfl ?_
        refine jr_iconst (nI 0) 13 dX10_where_12 rfl rfl ?_
        refine jr_iconst (nI 1) 14 dX10_where_13 rfl rfl ?_
        refine cs_X10_108 17 dX10_where_14 rfl rfl (Nat.le_of_ble_eq_true rfl) (wp_inT hc2 (by decide) rfl ?_)
        refine jr_if_ne 23 20 dX10_where_17 rfl rfl (fun q17 => ?_) (fun q => absurd q (by decide))
        refine jr_iconst ((-1)) 24 dX10_where_23 rfl rfl ?_
        refine jr_istore_n 3 (L' := [_, _, _, _, _, _, _, _]) 25 dX10_where_24 rfl rfl (by decide) rfl ?_
        refine jr_iconst (0) 26 dX10_where_25 rfl rfl ?_
        refine jr_istore (L' := [_, _, _, _, _, _, _, _]) 28 dX10_where_26 rfl (by decide) rfl ?_
        refine jr_aload_n 0 29 dX10_where_28 rfl rfl rfl ?_
        refine cs_X10_298 32 dX10_where_29 rfl rfl rfl (Nat.le_of_ble_eq_true rfl) (wp_keepsSeats (fun σ8 l1 l2 l3 => ?_))
        refine jr_iconst (nI 0) 33 dX10_where_32 rfl rfl ?_
        refine jr_istore (L' := [_, _, _, _, _, _, _, _]) 35 dX10_where_33 rfl (by decide) rfl ?_
        refine where_r h hj g1 (fun σ2 x2 y2 x5 x6 x7 e2 g2 => ?_) 8 0 σ8 _ _ _ _ (by omega) rfl (fun a ha => l1 a (fun e => ha (by rw [e]; decide))) (fun i hi => (l2 i hi).trans (by rw [l1 51 (by decide)]))
        refine jr_iload_n 2 114 dX10_where_113 rfl rfl rfl ?_
        refine jr_if_ne 121 117 dX10_where_114 rfl rfl (fun q114 => ?_) (fun q => absurd q (by decide))
        refine jr_iload 123 dX10_where_121 rfl rfl ?_
        refine jr_ireturn dX10_where_123 rfl rfl ?_
        have exy := Prod.mk.inj (e2.trans e1.symm)
        exact ⟨congrArg Value.int exy.2, IV_mov (iv_same_tr (iv_cx g1) (iv_same_x g2 (by decide))) h⟩
noncomputable def ra_A (T : Nat → Nat → List Nat) (lw nf nc : Nat) (kd se : Nat → Nat) (σ : jr_Sg) : Int32 := lp (fun f a => a + tr_rs (sm_R T lw nf nc kd se σ f) (pr_rf kd se σ f)) 0 nf
theorem ra_A_x {X : List Nat} {T : Nat → Nat → List Nat} {lw nf nc : Nat} {kd se : Nat → Nat} {σ σ' : jr_Sg} (h : jr_eqx X σ σ') (hX : ∀ a, a ∈ [46, 47, 49, 50, 52, 70, 71] → a ∉ X) : ra_A T lw nf nc kd se σ' = ra_A T lw nf nc kd se σ := lp_congr (fun i _ x => by rw [sm_R_x h hX, pr_rf_x h (fun a ha => hX a (by revert a; decide))])
theorem th_light {nf nc lw s : Nat} {kd se : Nat → Nat} {v : Int32} {σ σR : jr_Sg} (h : th_ok nf nc lw kd se σ σR) : th_ok nf nc lw kd se (jr_up σ 29 s v) (jr_up σR 47 s v) := by
  obtain ⟨hsc, hl, hx, hs2, hk⟩ := h
  refine ⟨hsc, hl, hx, fun x hx2 => ?_, hk⟩
  show upd (σ 29) s v x = upd (σR 47) s v x
  by_cases e : x = s
  · subst e; rw [pk_us, pk_us]
  · rw [pk_un e, pk_un e]; exact hs2 x hx2
theorem th_warm {nf nc lw f : Nat} {kd se : Nat → Nat} {v : Int32} {σ σR : jr_Sg} (h : th_ok nf nc lw kd se σ σR) : th_ok nf nc lw kd se (jr_up σ 27 f v) (jr_up σR 50 f v) := by
  obtain ⟨hsc, hl, hx, hs2, hk⟩ := h
  refine ⟨hsc, hl, fun x hx2 => ⟨(hx x hx2).1, ?_⟩, hs2, hk⟩
  show upd (σ 27) f v x = upd (σR 50) f v x
  by_cases e : x = f
  · subst e; rw [pk_us, pk_us]
  · rw [pk_un e, pk_un e]; exact (hx x hx2).2
theorem shade_x {G : jr_G} {d : Nat} {σ : jr_Sg} {k : Value → jr_Sg → Prop} {T : Nat → Nat → List Nat} {n nf nc lw tp j : Nat} {kd se : Nat → Nat} {c2 : Int32} (h : iv T n nf nc kd se lw tp σ) (hj : j < 8) (fin : ∀ (σ1 : jr_Sg) (x y : Int32) (x5 x6 : Option Value), (x, y) = bw (fun v => ra_A T lw nf nc kd se (jr_up σ 47 j (nI v))) 10 → jr_eqx iv_CX σ σ1 → jr_R G (d + 19) mi_X9_shade (jr_k k) 98 [some (.ref 0), some (.int (nI j)), some (.int c2), some (.int x), some (.int y), x5, x6] [] σ1) : ∀ (m i : Nat) (σ1 : jr_Sg) (x y : Int32) (x6 : Option Value), i + m = 10 → (x, y) = bw (fun v => ra_A T lw nf nc kd se (jr_up σ 47 j (nI v))) i → jr_eqx iv_CX σ σ1 → jr_R G (d + 19) mi_X9_shade (jr_k k) 29 [some (.ref 0), some (.int (nI j)), some (.int c2), some (.int x), some (.int y), some (.int (nI i)), x6] [] σ1 := by
  have h5 : nf ≤ 5 := h.2.2.1.2.1.2.1
  have hlw := h.2.2.1.2.2.2.2.1
  intro m
  induction m with
  | zero =>
    intro i σ1 x y x6 hi e g
    have ei : i = 10 := hi
    subst ei
    refine jr_iload 31 dX9_shade_29 rfl rfl ?_
    refine jr_bipush (nI 9) 33 dX9_shade_31 rfl rfl ?_
    refine jr_icmp_gt 98 36 dX9_shade_33 rfl rfl (fun q33 => ?_) (fun z => absurd (by decide) z)
    exact fin σ1 _ _ _ _ e g
  | succ m ih =>
    intro i σ1 x y x6 hi e g
    refine jr_iload 31 dX9_shade_29 rfl rfl ?_
    refine jr_bipush (nI 9) 33 dX9_shade_31 rfl rfl ?_
    refine jr_icmp_gt 98 36 dX9_shade_33 rfl rfl (fun z => absurd z (nI_nlt (b := i) (a := 9) (by omega) (by omega))) (fun q33 => ?_)
    refine jr_aload_n 0 37 dX9_shade_36 rfl rfl rfl ?_
    refine gf_X9_48 40 dX9_shade_37 rfl rfl rfl rfl ?_
    refine jr_aload_n 0 41 dX9_shade_40 rfl rfl rfl ?_
    refine gf_X9_44 44 dX9_shade_41 rfl rfl rfl rfl ?_
    refine cs_X9_225 47 dX9_shade_44 rfl rfl rfl (Nat.le_of_ble_eq_true rfl) (wp_become_24_15 (fun σ2 b => ?_))
    refine jr_aload_n 0 48 dX9_shade_47 rfl rfl rfl ?_
    refine gf_X9_48 51 dX9_shade_48 rfl rfl rfl rfl ?_
    refine gf_X9_158 54 dX9_shade_51 rfl rfl rfl rfl ?_
    refine jr_iload_n 1 55 dX9_shade_54 rfl rfl rfl ?_
    refine jr_iload 57 dX9_shade_55 rfl rfl ?_
    refine jr_iast rfl rfl (by omega) 58 dX9_shade_57 rfl ?_
    have ht := th_light (s := j) (v := nI i) (th_become h g b)
    have g2 := bc_cx g b
    have g3 : jr_eqx iv_CX σ (jr_up σ2 29 j (nI i)) := jr_eqx_tr g2 (jr_eqx_up _ _ _ (by decide))
    have hT := ti_C_of h.1 (g3 1 (by decide)) (g3 2 (by decide)) (g3 3 (by decide))
    refine jr_aload_n 0 59 dX9_shade_58 rfl rfl rfl ?_
    refine jr_bipush (nI 40) 61 dX9_shade_59 rfl rfl ?_
    refine cs_X9_262 64 dX9_shade_61 rfl rfl rfl (Nat.le_of_ble_eq_true rfl) (wp_playAllThought (len := 40) hT hlw ht (σR := jr_up σ 47 j (nI i)) (by have z := iv_none h; exact z) (by omega) (fun σ4 g4 g6 g5 => ?_))
    refine jr_aload_n 0 65 dX9_shade_64 rfl rfl rfl ?_
    refine gf_X9_37 68 dX9_shade_65 rfl rfl rfl rfl ?_
    refine cs_X9_259 71 dX9_shade_68 rfl rfl rfl (Nat.le_of_ble_eq_true rfl) (wp_redSecondsOfAll (nf := nf) g6 h5 ?_)
    refine jr_topi (y := (fun v => ra_A T lw nf nc kd se (jr_up σ 47 j (nI v))) i) (lp_congr (fun f hf x => by rw [pd_rs (g5 f hf)])) ?_
    refine jr_istore (L' := [_, _, _, _, _, _, _]) 73 dX9_shade_71 rfl (by decide) rfl ?_
    refine jr_iload_n 3 74 dX9_shade_73 rfl rfl rfl ?_
    refine jr_iconst ((-1)) 75 dX9_shade_74 rfl rfl ?_
    refine jr_icmp_eq 85 78 dX9_shade_75 rfl rfl (fun q75 => ?_) (fun q75 => ?_)
    · refine jr_iload 87 dX9_shade_85 rfl rfl ?_
      refine jr_istore_n 3 (L' := [_, _, _, _, _, _, _]) 88 dX9_shade_87 rfl rfl (by decide) rfl ?_
      refine jr_iload 90 dX9_shade_88 rfl rfl ?_
      refine jr_istore (L' := [_, _, _, _, _, _, _]) 92 dX9_shade_90 rfl (by decide) rfl ?_
      refine jr_iinc (v := nI (i + 1)) (L' := [_, _, _, _, _, _, _]) 95 dX9_shade_92 rfl rfl (nI_1 i) (by decide) rfl ?_
      refine jr_goto 29 dX9_shade_95 rfl ?_
      exact ih (i + 1) σ4 _ _ _ (by omega) (bw_t (A := (fun v => ra_A T lw nf nc kd se (jr_up σ 47 j (nI v)))) e (Or.inl q75)) (jr_eqx_tr g3 (jr_eqx_w g4 (by decide)))
    · refine jr_iload 80 dX9_shade_78 rfl rfl ?_
      refine jr_iload 82 dX9_shade_80 rfl rfl ?_
      refine jr_icmp_ge 92 85 dX9_shade_82 rfl rfl (fun q82 => ?_) (fun q82 => ?_)
      · refine jr_iinc (v := nI (i + 1)) (L' := [_, _, _, _, _, _, _]) 95 dX9_shade_92 rfl rfl (nI_1 i) (by decide) rfl ?_
        refine jr_goto 29 dX9_shade_95 rfl ?_
        exact ih (i + 1) σ4 _ _ _ (by omega) (bw_k (A := (fun v => ra_A T lw nf nc kd se (jr_up σ 47 j (nI v)))) e q75 q82) (jr_eqx_tr g3 (jr_eqx_w g4 (by decide)))
      · refine jr_iload 87 dX9_shade_85 rfl rfl ?_
        refine jr_istore_n 3 (L' := [_, _, _, _, _, _, _]) 88 dX9_shade_87 rfl rfl (by decide) rfl ?_
        refine jr_iload 90 dX9_shade_88 rfl rfl ?_
        refine jr_istore (L' := [_, _, _, _, _, _, _]) 92 dX9_shade_90 rfl (by decide) rfl ?_
        refine jr_iinc (v := nI (i + 1)) (L' := [_, _, _, _, _, _, _]) 95 dX9_shade_92 rfl rfl (nI_1 i) (by decide) rfl ?_
        refine jr_goto 29 dX9_shade_95 rfl ?_
        exact ih (i + 1) σ4 _ _ _ (by omega) (bw_t (A := (fun v => ra_A T lw nf nc kd se (jr_up σ 47 j (nI v)))) e (Or.inr (Int32.not_le.mp q82))) (jr_eqx_tr g3 (jr_eqx_w g4 (by decide)))
theorem shade_r {G : jr_G} {d : Nat} {σ : jr_Sg} {k : Value → jr_Sg → Prop} {T : Nat → Nat → List Nat} {n nf nc lw tp j : Nat} {kd se : Nat → Nat} {c2 : Int32} (h : iv T n nf nc kd se lw tp σ) (hj : j < 8) {σ1 : jr_Sg} (g1 : jr_eqx iv_CX σ σ1) (fin : ∀ (σ2 : jr_Sg) (x y : Int32) (x5 x6 x7 : Option Value), (x, y) = bw (fun v => ra_A T lw nf nc kd se (jr_up σ 47 j (nI v))) 10 → jr_eqx (47 :: iv_RX) σ1 σ2 → (∀ i, i ≠ j → σ2 47 i = σ1 47 i) → jr_R G (d + 20) mi_X10_shade (jr_k k) 113 [some (.ref 46), some (.int (nI j)), some (.int c2), some (.int (σ1 47 j)), some (.int x), some (.int y), x5, x6, x7] [] σ2) : ∀ (m i : Nat) (σ2 : jr_Sg) (x y : Int32) (x6 x7 : Option Value), i + m = 10 → (x, y) = bw (fun v => ra_A T lw nf nc kd se (jr_up σ 47 j (nI v))) i → jr_eqx (47 :: iv_RX) σ1 σ2 → (∀ i, i ≠ j → σ2 47 i = σ1 47 i) → jr_R G (d + 20) mi_X10_shade (jr_k k) 38 [some (.ref 46), some (.int (nI j)), some (.int c2), some (.int (σ1 47 j)), some (.int x), some (.int y), some (.int (nI i)), x6, x7] [] σ2 := by
  have h1 := iv_mov (iv_cx g1) h
  have r1 := rr_of h1
  have h5 : nf ≤ 5 := r1.1.2.1
  intro m
  induction m with
  | zero =>
    intro i σ2 x y x6 x7 hi e g g47
    have ei : i = 10 := hi
    subst ei
    refine jr_iload 40 dX10_shade_38 rfl rfl ?_
    refine jr_bipush (nI 9) 42 dX10_shade_40 rfl rfl ?_
    refine jr_icmp_gt 113 45 dX10_shade_42 rfl rfl (fun q42 => ?_) (fun z => absurd (by decide) z)
    exact fin σ2 _ _ _ _ _ e g g47
  | succ m ih =>
    intro i σ2 x y x6 x7 hi e g g47
    have e47 : jr_eqx iv_RX (jr_up σ1 47 j (nI i)) (jr_up σ2 47 j (nI i)) := fun a ha => by
      unfold jr_up
      by_cases ea : a = 47
      · subst ea; rw [if_pos rfl, if_pos rfl]; exact up_back g47
      · rw [if_neg ea, if_neg ea]; exact g a (fun q => (List.mem_cons.mp q).elim ea ha)
    have r2 : rr_ok T n nf nc kd se lw (jr_up σ2 47 j (nI i)) := rr_x (rr_x r1 (jr_eqx_up (X := [47]) σ1 j (nI i) (by decide)) (by decide)) e47 (by decide)
    have eA : ra_A T lw nf nc kd se (jr_up σ2 47 j (nI i)) = ra_A T lw nf nc kd se (jr_up σ 47 j (nI i)) := (ra_A_x e47 (by decide)).trans (ra_A_x (jr_eqx_upb g1 (by decide)) (by decide))
    refine jr_iload 40 dX10_shade_38 rfl rfl ?_
    refine jr_bipush (nI 9) 42 dX10_shade_40 rfl rfl ?_
    refine jr_icmp_gt 113 45 dX10_shade_42 rfl rfl (fun z => absurd z (nI_nlt (b := i) (a := 9) (by omega) (by omega))) (fun q42 => ?_)
    refine jr_aload_n 0 46 dX10_shade_45 rfl rfl rfl ?_
    refine gf_X10_7 49 dX10_shade_46 rfl rfl rfl rfl ?_
    refine jr_iload_n 1 50 dX10_shade_49 rfl rfl rfl ?_
    refine jr_iload 52 dX10_shade_50 rfl rfl ?_
    refine jr_iast rfl rfl (by omega) 53 dX10_shade_52 rfl ?_
    refine jr_aload_n 0 54 dX10_shade_53 rfl rfl rfl ?_
    refine cs_X10_304 57 dX10_shade_54 rfl rfl rfl (Nat.le_of_ble_eq_true rfl) (wp_redOfAll r2 (fun σ3 g3 => ?_))
    refine jr_topi (y := (fun v => ra_A T lw nf nc kd se (jr_up σ 47 j (nI v))) i) eA ?_
    have g4 : jr_eqx (47 :: iv_RX) σ1 σ3 := jr_eqx_tr (jr_eqx_tr g (jr_eqx_up _ _ _ (by decide))) (jr_eqx_w g3 (by decide))
    have g5 : ∀ i, i ≠ j → σ3 47 i = σ1 47 i := fun q hq => by
      rw [g3 47 (by decide)]
      exact (pk_un hq).trans (g47 q hq)
    refine jr_istore (L' := [_, _, _, _, _, _, _, _, _]) 59 dX10_shade_57 rfl (by decide) rfl ?_
    refine jr_iload 61 dX10_shade_59 rfl rfl ?_
    refine jr_iconst ((-1)) 62 dX10_shade_61 rfl rfl ?_
    refine jr_icmp_eq 72 65 dX10_shade_62 rfl rfl (fun q62 => ?_) (fun q62 => ?_)
    · refine jr_iconst (nI 1) 73 dX10_shade_72 rfl rfl ?_
      refine jr_goto 77 dX10_shade_73 rfl ?_
      refine jr_istore (L' := [_, _, _, _, _, _, _, _, _]) 79 dX10_shade_77 rfl (by decide) rfl ?_
      refine jr_iload 81 dX10_shade_79 rfl rfl ?_
      refine jr_if_eq 89 84 dX10_shade_81 rfl rfl (fun q => absurd q (by decide)) (fun q81 => ?_)
      refine jr_iload 86 dX10_shade_84 rfl rfl ?_
      refine jr_goto 91 dX10_shade_86 rfl ?_
      refine jr_istore (L' := [_, _, _, _, _, _, _, _, _]) 93 dX10_shade_91 rfl (by decide) rfl ?_
      refine jr_iload 95 dX10_shade_93 rfl rfl ?_
      refine jr_if_eq 103 98 dX10_shade_95 rfl rfl (fun q => absurd q (by decide)) (fun q95 => ?_)
      refine jr_iload 100 dX10_shade_98 rfl rfl ?_
      refine jr_goto 105 dX10_shade_100 rfl ?_
      refine jr_istore (L' := [_, _, _, _, _, _, _, _, _]) 107 dX10_shade_105 rfl (by decide) rfl ?_
      refine jr_iinc (v := nI (i + 1)) (L' := [_, _, _, _, _, _, _, _, _]) 110 dX10_shade_107 rfl rfl (nI_1 i) (by decide) rfl ?_
      refine jr_goto 38 dX10_shade_110 rfl ?_
      exact ih (i + 1) σ3 _ _ _ _ (by omega) (bw_t (A := (fun v => ra_A T lw nf nc kd se (jr_up σ 47 j (nI v)))) e (Or.inl q62)) g4 g5
    · refine jr_iload 67 dX10_shade_65 rfl rfl ?_
      refine jr_iload 69 dX10_shade_67 rfl rfl ?_
      refine jr_icmp_ge 76 72 dX10_shade_69 rfl rfl (fun q69 => ?_) (fun q69 => ?_)
      · refine jr_iconst (nI 0) 77 dX10_shade_76 rfl rfl ?_
        refine jr_istore (L' := [_, _, _, _, _, _, _, _, _]) 79 dX10_shade_77 rfl (by decide) rfl ?_
        refine jr_iload 81 dX10_shade_79 rfl rfl ?_
        refine jr_if_eq 89 84 dX10_shade_81 rfl rfl (fun q81 => ?_) (fun q => absurd (by decide) q)
        refine jr_iload 91 dX10_shade_89 rfl rfl ?_
        refine jr_istore (L' := [_, _, _, _, _, _, _, _, _]) 93 dX10_shade_91 rfl (by decide) rfl ?_
        refine jr_iload 95 dX10_shade_93 rfl rfl ?_
        refine jr_if_eq 103 98 dX10_shade_95 rfl rfl (fun q95 => ?_) (fun q => absurd (by decide) q)
        refine jr_iload 105 dX10_shade_103 rfl rfl ?_
        refine jr_istore (L' := [_, _, _, _, _, _, _, _, _]) 107 dX10_shade_105 rfl (by decide) rfl ?_
        refine jr_iinc (v := nI (i + 1)) (L' := [_, _, _, _, _, _, _, _, _]) 110 dX10_shade_107 rfl rfl (nI_1 i) (by decide) rfl ?_
        refine jr_goto 38 dX10_shade_110 rfl ?_
        exact ih (i + 1) σ3 _ _ _ _ (by omega) (bw_k (A := (fun v => ra_A T lw nf nc kd se (jr_up σ 47 j (nI v)))) e q62 q69) g4 g5
      · refine jr_iconst (nI 1) 73 dX10_shade_72 rfl rfl ?_
        refine jr_goto 77 dX10_shade_73 rfl ?_
        refine jr_istore (L' := [_, _, _, _, _, _, _, _, _]) 79 dX10_shade_77 rfl (by decide) rfl ?_
        refine jr_iload 81 dX10_shade_79 rfl rfl ?_
        refine jr_if_eq 89 84 dX10_shade_81 rfl rfl (fun q => absurd q (by decide)) (fun q81 => ?_)
        refine jr_iload 86 dX10_shade_84 rfl rfl ?_
        refine jr_goto 91 dX10_shade_86 rfl ?_
        refine jr_istore (L' := [_, _, _, _, _, _, _, _, _]) 93 dX10_shade_91 rfl (by decide) rfl ?_
        refine jr_iload 95 dX10_shade_93 rfl rfl ?_
        refine jr_if_eq 103 98 dX10_shade_95 rfl rfl (fun q => absurd q (by decide)) (fun q95 => ?_)
        refine jr_iload 100 dX10_shade_98 rfl rfl ?_
        refine jr_goto 105 dX10_shade_100 rfl ?_
        refine jr_istore (L' := [_, _, _, _, _, _, _, _, _]) 107 dX10_shade_105 rfl (by decide) rfl ?_
        refine jr_iinc (v := nI (i + 1)) (L' := [_, _, _, _, _, _, _, _, _]) 110 dX10_shade_107 rfl rfl (nI_1 i) (by decide) rfl ?_
        refine jr_goto 38 dX10_shade_110 rfl ?_
        exact ih (i + 1) σ3 _ _ _ _ (by omega) (bw_t (A := (fun v => ra_A T lw nf nc kd se (jr_up σ 47 j (nI v)))) e (Or.inr (Int32.not_le.mp q69))) g4 g5
theorem pp_shade {G : jr_G} {d : Nat} {σ : jr_Sg} {f c : Int32} (h : IV σ) : jr_pair G (d + 20) mi_X9_shade mi_X10_shade [.int f, .int c] σ := by
  obtain ⟨T, n, nf, nc, kd, se, lw, tp, h⟩ := h
  have hh := h
  obtain ⟨hTC, hTR, ⟨hsc, hsr, hl1, hl2, hlw, hfc, hli, hca⟩, htp, himg, hsh, hrest, hwd⟩ := hh
  have hnf := hsc.1
  have h5 := hsc.2.1
  have hnc := hsc.2.2.1
  have h8 := hsc.2.2.2.1
  have rnf := hsr.1
  have rnc := hsr.2.2.1
  have hlm := hrest.2.2.2.1
  unfold jr_pair
  rcases jr_rg f (m := 7) (by decide) with qj | ⟨j, hj, rfl⟩
  · refine jr_enter (L := [some (.ref 0), some (.int f), some (.int c), none, none, none, none]) (by decide) (Nat.le_of_ble_eq_true rfl) rfl ?_
    refine jr_iload_n 1 1 dX9_shade_0 rfl rfl rfl ?_
    refine cs_X9_135 4 dX9_shade_1 rfl rfl (Nat.le_of_ble_eq_true rfl) (wp_isSeat (fun a b => absurd ⟨a, b⟩ qj) (fun _ => ?_))
    refine jr_if_ne 10 7 dX9_shade_4 rfl rfl (fun q => absurd (by decide) q) (fun q4 => ?_)
    refine jr_bipush ((-5)) 9 dX9_shade_7 rfl rfl ?_
    refine jr_ireturn dX9_shade_9 rfl rfl ?_
    refine jr_enter (L := [some (.ref 46), some (.int f), some (.int c), none, none, none, none, none, none]) (by decide) (Nat.le_of_ble_eq_true rfl) rfl ?_
    refine jr_iload_n 1 1 dX10_shade_0 rfl rfl rfl ?_
    refine cs_X10_198 4 dX10_shade_1 rfl rfl (Nat.le_of_ble_eq_true rfl) (wp_risSeat (fun a b => absurd ⟨a, b⟩ qj) (fun _ => ?_))
    refine jr_if_ne 10 7 dX10_shade_4 rfl rfl (fun q => absurd (by decide) q) (fun q4 => ?_)
    refine jr_bipush ((-5)) 9 dX10_shade_7 rfl rfl ?_
    refine jr_ireturn dX10_shade_9 rfl rfl ?_
    exact ⟨rfl, IV_mov (iv_same_x (jr_eqx_rf [] _) (by decide)) h⟩
  · rcases jr_rg c (m := 1) (by decide) with qc2 | ⟨c2, hc2, rfl⟩
    · refine jr_enter (L := [some (.ref 0), some (.int (nI j)), some (.int c), none, none, none, none]) (by decide) (Nat.le_of_ble_eq_true rfl) rfl ?_
      refine jr_iload_n 1 1 dX9_shade_0 rfl rfl rfl ?_
      refine cs_X9_135 4 dX9_shade_1 rfl rfl (Nat.le_of_ble_eq_true rfl) (wp_isSeat (fun _ _ => ?_) (fun q => absurd ⟨nI_pos' (by omega), nI_le (b := 7) hj (by decide)⟩ q))
      refine jr_if_ne 10 7 dX9_shade_4 rfl rfl (fun q4 => ?_) (fun q => absurd q (by decide))
      refine jr_iload_n 2 11 dX9_shade_10 rfl rfl rfl ?_
      refine jr_iconst (1) 12 dX9_shade_11 rfl rfl ?_
      refine cs_X9_104 15 dX9_shade_12 rfl rfl (Nat.le_of_ble_eq_true rfl) (wp_wiF qc2 ?_)
      refine jr_if_ne 21 18 dX9_shade_15 rfl rfl (fun q => absurd (by decide) q) (fun q15 => ?_)
      refine jr_bipush ((-7)) 20 dX9_shade_18 rfl rfl ?_
      refine jr_ireturn dX9_shade_20 rfl rfl ?_
      refine jr_enter (L := [some (.ref 46), some (.int (nI j)), some (.int c), none, none, none, none, none, none]) (by decide) (Nat.le_of_ble_eq_true rfl) rfl ?_
      refine jr_iload_n 1 1 dX10_shade_0 rfl rfl rfl ?_
      refine cs_X10_198 4 dX10_shade_1 rfl rfl (Nat.le_of_ble_eq_true rfl) (wp_risSeat (fun _ _ => ?_) (fun q => absurd ⟨nI_pos' (by omega), nI_le (b := 7) hj (by decide)⟩ q))
      refine jr_if_ne 10 7 dX10_shade_4 rfl rfl (fun q4 => ?_) (fun q => absurd q (by decide))
      refine jr_iload_n 2 11 dX10_shade_10 rfl rfl rfl ?_
      refine jr_iconst (0) 12 dX10_shade_11 rfl rfl ?_
      refine jr_iconst (1) 13 dX10_shade_12 rfl rfl ?_
      refine cs_X10_108 16 dX10_shade_13 rfl rfl (Nat.le_of_ble_eq_true rfl) (wp_inF qc2 ?_)
      refine jr_if_ne 22 19 dX10_shade_16 rfl rfl (fun q => absurd (by decide) q) (fun q16 => ?_)
      refine jr_bipush ((-7)) 21 dX10_shade_19 rfl rfl ?_
      refine jr_ireturn dX10_shade_21 rfl rfl ?_
      exact ⟨rfl, IV_mov (iv_same_x (jr_eqx_rf [] _) (by decide)) h⟩
    · have hj8 : j < 8 := by omega
      rcases (by omega : c2 = 0 ∨ c2 = 1) with rfl | rfl
      · refine jr_enter (L := [some (.ref 0), some (.int (nI j)), some (.int (nI 0)), none, none, none, none]) (by decide) (Nat.le_of_ble_eq_true rfl) rfl ?_
        refine jr_iload_n 1 1 dX9_shade_0 rfl rfl rfl ?_
        refine cs_X9_135 4 dX9_shade_1 rfl rfl (Nat.le_of_ble_eq_true rfl) (wp_isSeat (fun _ _ => ?_) (fun q => absurd ⟨nI_pos' (by omega), nI_le (b := 7) hj (by decide)⟩ q))
        refine jr_if_ne 10 7 dX9_shade_4 rfl rfl (fun q4 => ?_) (fun q => absurd q (by decide))
        refine jr_iload_n 2 11 dX9_shade_10 rfl rfl rfl ?_
        refine jr_iconst (nI 1) 12 dX9_shade_11 rfl rfl ?_
        refine cs_X9_104 15 dX9_shade_12 rfl rfl (Nat.le_of_ble_eq_true rfl) (wp_wiT hc2 (by decide) rfl ?_)
        refine jr_if_ne 21 18 dX9_shade_15 rfl rfl (fun q15 => ?_) (fun q => absurd q (by decide))
        refine jr_iconst ((-1)) 22 dX9_shade_21 rfl rfl ?_
        refine jr_istore_n 3 (L' := [_, _, _, _, _, _, _]) 23 dX9_shade_22 rfl rfl (by decide) rfl ?_
        refine jr_iconst (0) 24 dX9_shade_23 rfl rfl ?_
        refine jr_istore (L' := [_, _, _, _, _, _, _]) 26 dX9_shade_24 rfl (by decide) rfl ?_
        refine jr_iconst (nI 0) 27 dX9_shade_26 rfl rfl ?_
        refine jr_istore (L' := [_, _, _, _, _, _, _]) 29 dX9_shade_27 rfl (by decide) rfl ?_
        refine shade_x h hj8 (fun σ1 x y x5 x6 e1 g1 => ?_) 10 0 σ _ _ _ (by omega) rfl (jr_eqx_rf _ _)
        refine jr_iload_n 2 99 dX9_shade_98 rfl rfl rfl ?_
        refine jr_if_ne 106 102 dX9_shade_99 rfl rfl (fun q => absurd (by decide) q) (fun q99 => ?_)
        refine jr_iload_n 3 103 dX9_shade_102 rfl rfl rfl ?_
        refine jr_goto 108 dX9_shade_103 rfl ?_
        refine jr_ireturn dX9_shade_108 rfl rfl ?_
        have h1 := iv_mov (iv_cx g1) h
        have r1 := rr_of h1
        refine jr_enter (L := [some (.ref 46), some (.int (nI j)), some (.int (nI 0)), none, none, none, none, none, none]) (by decide) (Nat.le_of_ble_eq_true rfl) rfl ?_
        refine jr_iload_n 1 1 dX10_shade_0 rfl rfl rfl ?_
        refine cs_X10_198 4 dX10_shade_1 rfl rfl (Nat.le_of_ble_eq_true rfl) (wp_risSeat (fun _ _ => ?_) (fun q => absurd ⟨nI_pos' (by omega), nI_le (b := 7) hj (by decide)⟩ q))
        refine jr_if_ne 10 7 dX10_shade_4 rfl rfl (fun q4 => ?_) (fun q => absurd q (by decide))
        refine jr_iload_n 2 11 dX10_shade_10 rfl rfl rfl ?_
        refine jr_iconst (nI 0) 12 dX10_shade_11 rfl rfl ?_
        refine jr_iconst (nI 1) 13 dX10_shade_12 rfl rfl ?_
        refine cs_X10_108 16 dX10_shade_13 rfl rfl (Nat.le_of_ble_eq_true rfl) (wp_inT hc2 (by decide) rfl ?_)
        refine jr_if_ne 22 19 dX10_shade_16 rfl rfl (fun q16 => ?_) (fun q => absurd q (by decide))
        refine jr_aload_n 0 23 dX10_shade_22 rfl rfl rfl ?_
        refine gf_X10_7 26 dX10_shade_23 rfl rfl rfl rfl ?_
        refine jr_iload_n 1 27 dX10_shade_26 rfl rfl rfl ?_
        refine jr_iald rfl rfl (by omega) 28 dX10_shade_27 rfl ?_
        refine jr_istore_n 3 (L' := [_, _, _, _, _, _, _, _, _]) 29 dX10_shade_28 rfl rfl (by decide) rfl ?_
        refine jr_iconst ((-1)) 30 dX10_shade_29 rfl rfl ?_
        refine jr_istore (L' := [_, _, _, _, _, _, _, _, _]) 32 dX10_shade_30 rfl (by decide) rfl ?_
        refine jr_iconst (0) 33 dX10_shade_32 rfl rfl ?_
        refine jr_istore (L' := [_, _, _, _, _, _, _, _, _]) 35 dX10_shade_33 rfl (by decide) rfl ?_
        refine jr_iconst (nI 0) 36 dX10_shade_35 rfl rfl ?_
        refine jr_istore (L' := [_, _, _, _, _, _, _, _, _]) 38 dX10_shade_36 rfl (by decide) rfl ?_
        refine shade_r h hj8 g1 (fun σ2 x2 y2 x5 x6 x7 e2 g2 g47 => ?_) 10 0 σ1 _ _ _ _ (by omega) rfl (jr_eqx_rf _ _) (fun _ _ => rfl)
        refine jr_aload_n 0 114 dX10_shade_113 rfl rfl rfl ?_
        refine gf_X10_7 117 dX10_shade_114 rfl rfl rfl rfl ?_
        refine jr_iload_n 1 118 dX10_shade_117 rfl rfl rfl ?_
        refine jr_iload_n 3 119 dX10_shade_118 rfl rfl rfl ?_
        refine jr_iast rfl rfl (by omega) 120 dX10_shade_119 rfl ?_
        refine jr_iload_n 2 121 dX10_shade_120 rfl rfl rfl ?_
        refine jr_if_ne 129 124 dX10_shade_121 rfl rfl (fun q => absurd (by decide) q) (fun q121 => ?_)
        refine jr_iload 126 dX10_shade_124 rfl rfl ?_
        refine jr_goto 131 dX10_shade_126 rfl ?_
        refine jr_ireturn dX10_shade_131 rfl rfl ?_
        have exy := Prod.mk.inj (e2.trans e1.symm)
        refine ⟨congrArg Value.int exy.1, IV_mov (iv_same_tr (iv_cx g1) ⟨fun a ha => ?_, fun k hk => ?_⟩) h⟩
        · unfold jr_up
          by_cases ea : a = 47
          · subst ea; rw [if_pos rfl, up_back g47]; exact up_same _ _
          · rw [if_neg ea]; exact g2 a (by revert a; decide)
        · show σ2 46 k = σ1 46 k
          rw [g2 46 (by decide)]
      · refine jr_enter (L := [some (.ref 0), some (.int (nI j)), some (.int (nI 1)), none, none, none, none]) (by decide) (Nat.le_of_ble_eq_true rfl) rfl ?_
        refine jr_iload_n 1 1 dX9_shade_0 rfl rfl rfl ?_
        refine cs_X9_135 4 dX9_shade_1 rfl rfl (Nat.le_of_ble_eq_true rfl) (wp_isSeat (fun _ _ => ?_) (fun q => absurd ⟨nI_pos' (by omega), nI_le (b := 7) hj (by decide)⟩ q))
        refine jr_if_ne 10 7 dX9_shade_4 rfl rfl (fun q4 => ?_) (fun q => absurd q (by decide))
        refine jr_iload_n 2 11 dX9_shade_10 rfl rfl rfl ?_
        refine jr_iconst (nI 1) 12 dX9_shade_11 rfl rfl ?_
        refine cs_X9_104 15 dX9_shade_12 rfl rfl (Nat.le_of_ble_eq_true rfl) (wp_wiT hc2 (by decide) rfl ?_)
        refine jr_if_ne 21 18 dX9_shade_15 rfl rfl (fun q15 => ?_) (fun q => absurd q (by decide))
        refine jr_iconst ((-1)) 22 dX9_shade_21 rfl rfl ?_
        refine jr_istore_n 3 (L' := [_, _, _, _, _, _, _]) 23 dX9_shade_22 rfl rfl (by decide) rfl ?_
        refine jr_iconst (0) 24 dX9_shade_23 rfl rfl ?_
        refine jr_istore (L' := [_, _, _, _, _, _, _]) 26 dX9_shade_24 rfl (by decide) rfl ?_
        refine jr_iconst (nI 0) 27 dX9_shade_26 rfl rfl ?_
        refine jr_istore (L' := [_, _, _, _, _, _, _]) 29 dX9_shade_27 rfl (by decide) rfl ?_
        refine shade_x h hj8 (fun σ1 x y x5 x6 e1 g1 => ?_) 10 0 σ _ _ _ (by omega) rfl (jr_eqx_rf _ _)
        refine jr_iload_n 2 99 dX9_shade_98 rfl rfl rfl ?_
        refine jr_if_ne 106 102 dX9_shade_99 rfl rfl (fun q99 => ?_) (fun q => absurd q (by decide))
        refine jr_iload 108 dX9_shade_106 rfl rfl ?_
        refine jr_ireturn dX9_shade_108 rfl rfl ?_
        have h1 := iv_mov (iv_cx g1) h
        have r1 := rr_of h1
        refine jr_enter (L := [some (.ref 46), some (.int (nI j)), some (.int (nI 1)), none, none, none, none, none, none]) (by decide) (Nat.le_of_ble_eq_true rfl) rfl ?_
        refine jr_iload_n 1 1 dX10_shade_0 rfl rfl rfl ?_
        refine cs_X10_198 4 dX10_shade_1 rfl rfl (Nat.le_of_ble_eq_true rfl) (wp_risSeat (fun _ _ => ?_) (fun q => absurd ⟨nI_pos' (by omega), nI_le (b := 7) hj (by decide)⟩ q))
        refine jr_if_ne 10 7 dX10_shade_4 rfl rfl (fun q4 => ?_) (fun q => absurd q (by decide))
        refine jr_iload_n 2 11 dX10_shade_10 rfl rfl rfl ?_
        refine jr_iconst (nI 0) 12 dX10_shade_11 rfl rfl ?_
        refine jr_iconst (nI 1) 13 dX10_shade_12 rfl rfl ?_
        refine cs_X10_108 16 dX10_shade_13 rfl rfl (Nat.le_of_ble_eq_true rfl) (wp_inT hc2 (by decide) rfl ?_)
        refine jr_if_ne 22 19 dX10_shade_16 rfl rfl (fun q16 => ?_) (fun q => absurd q (by decide))
        refine jr_aload_n 0 23 dX10_shade_22 rfl rfl rfl ?_
        refine gf_X10_7 26 dX10_shade_23 rfl rfl rfl rfl ?_
        refine jr_iload_n 1 27 dX10_shade_26 rfl rfl rfl ?_
        refine jr_iald rfl rfl (by omega) 28 dX10_shade_27 rfl ?_
        refine jr_istore_n 3 (L' := [_, _, _, _, _, _, _, _, _]) 29 dX10_shade_28 rfl rfl (by decide) rfl ?_
        refine jr_iconst ((-1)) 30 dX10_shade_29 rfl rfl ?_
        refine jr_istore (L' := [_, _, _, _, _, _, _, _, _]) 32 dX10_shade_30 rfl (by decide) rfl ?_
        refine jr_iconst (0) 33 dX10_shade_32 rfl rfl ?_
        refine jr_istore (L' := [_, _, _, _, _, _, _, _, _]) 35 dX10_shade_33 rfl (by decide) rfl ?_
        refine jr_iconst (nI 0) 36 dX10_shade_35 rfl rfl ?_
        refine jr_istore (L' := [_, _, _, _, _, _, _, _, _]) 38 dX10_shade_36 rfl (by decide) rfl ?_
        refine shade_r h hj8 g1 (fun σ2 x2 y2 x5 x6 x7 e2 g2 g47 => ?_) 10 0 σ1 _ _ _ _ (by omega) rfl (jr_eqx_rf _ _) (fun _ _ => rfl)
        refine jr_aload_n 0 114 dX10_shade_113 rfl rfl rfl ?_
        refine gf_X10_7 117 dX10_shade_114 rfl rfl rfl rfl ?_
        refine jr_iload_n 1 118 dX10_shade_117 rfl rfl rfl ?_
        refine jr_iload_n 3 119 dX10_shade_118 rfl rfl rfl ?_
        refine jr_iast rfl rfl (by omega) 120 dX10_shade_119 rfl ?_
        refine jr_iload_n 2 121 dX10_shade_120 rfl rfl rfl ?_
        refine jr_if_ne 129 124 dX10_shade_121 rfl rfl (fun q121 => ?_) (fun q => absurd q (by decide))
        refine jr_iload 131 dX10_shade_129 rfl rfl ?_
        refine jr_ireturn dX10_shade_131 rfl rfl ?_
        have exy := Prod.mk.inj (e2.trans e1.symm)
        refine ⟨congrArg Value.int exy.2, IV_mov (iv_same_tr (iv_cx g1) ⟨fun a ha => ?_, fun k hk => ?_⟩) h⟩
        · unfold jr_up
          by_cases ea : a = 47
          · subst ea; rw [if_pos rfl, up_back g47]; exact up_same _ _
          · rw [if_neg ea]; exact g2 a (by revert a; decide)
        · show σ2 46 k = σ1 46 k
          rw [g2 46 (by decide)]

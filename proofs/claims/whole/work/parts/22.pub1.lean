abbrev jr_ty (r : Option FieldType) (v : Value) (P : Prop) : Prop := match r, v with
  | some .int, .int _ => P
  | some .long, .long _ => P
  | _, _ => False
def jr_pair (G : jr_G) (D : Nat) (mX mR : jr_MI) (as : List Value) (σ : jr_Sg) : Prop := jr_M G D mX (.ref 0 :: as) σ (jr_k (fun v σ1 => jr_ty mX.2.2.2 v (jr_M G D mR (.ref 46 :: as) σ1 (jr_k (fun v' σ2 => v' = v ∧ IV σ2)))))
theorem IV_mov {T : Nat → Nat → List Nat} {n nf nc : Nat} {kd se : Nat → Nat} {lw tp : Nat} {σ σ' : jr_Sg} (hs : iv_same σ σ') (h : iv T n nf nc kd se lw tp σ) : IV σ' := ⟨T, n, nf, nc, kd, se, lw, tp, iv_mov hs h⟩
theorem iv_rx {σ σ' : jr_Sg} (h : jr_eqx iv_RX σ σ') : iv_same σ σ' := iv_same_x h (by decide)
theorem jr_fc (f : Int32) {nf : Nat} (h5 : nf ≤ 5) : (f < 0 ∨ nI nf ≤ f) ∨ ∃ j : Nat, j < nf ∧ f = nI j := by
  rcases pk_ix f (n := nf) (by omega) with q | q | q
  · exact Or.inl (Or.inl q)
  · exact Or.inl (Or.inr q)
  · exact Or.inr q
theorem jr_fcn {j nf : Nat} (hj : j < nf) (h : nf < 2 ^ 31) : ¬ (nI j < 0 ∨ nI nf ≤ nI j) := fun q => q.elim (fun q => absurd q (nI_pos (by omega))) (fun q => absurd q (nI_ge hj h))
theorem jr_rg (v : Int32) {m : Nat} (hm : m + 1 < 2 ^ 31) : ¬ (0 ≤ v ∧ v ≤ nI m) ∨ ∃ j : Nat, j ≤ m ∧ v = nI j := by
  rcases pk_ix v (n := m + 1) hm with q | q | ⟨j, hj, e⟩
  · exact Or.inl (fun z => absurd q (Int32.not_lt.mpr z.1))
  · exact Or.inl (fun z => absurd (Int32.le_trans q z.2) (nI_ge (by omega) hm))
  · exact Or.inr ⟨j, by omega, e⟩
theorem wp_wiT {G : jr_G} {d : Nat} {σ : jr_Sg} {k : Value → jr_Sg → Prop} {j m : Nat} {M : Int32} (hj : j ≤ m) (hm : m < 2 ^ 31) (eM : M = nI m) (h : k (.int 1) σ) : jr_M G d mi_X9_isWithin [.int (nI j), .int M] σ (jr_k k) := wp_isWithin (fun _ _ => h) (fun q => absurd ⟨nI_pos' (by omega), by rw [eM]; exact nI_le hj hm⟩ q)
theorem wp_wiF {G : jr_G} {d : Nat} {σ : jr_Sg} {k : Value → jr_Sg → Prop} {v M : Int32} (hv : ¬ (0 ≤ v ∧ v ≤ M)) (h : k (.int 0) σ) : jr_M G d mi_X9_isWithin [.int v, .int M] σ (jr_k k) := wp_isWithin (fun a b => absurd ⟨a, b⟩ hv) (fun _ => h)
theorem wp_inT {G : jr_G} {d : Nat} {σ : jr_Sg} {k : Value → jr_Sg → Prop} {j m : Nat} {M : Int32} (hj : j ≤ m) (hm : m < 2 ^ 31) (eM : M = nI m) (h : k (.int 1) σ) : jr_M G d mi_X10_in [.int (nI j), .int 0, .int M] σ (jr_k k) := wp_in (fun _ _ => h) (fun q => absurd ⟨nI_pos' (by omega), by rw [eM]; exact nI_le hj hm⟩ q)
theorem wp_inF {G : jr_G} {d : Nat} {σ : jr_Sg} {k : Value → jr_Sg → Prop} {v M : Int32} (hv : ¬ (0 ≤ v ∧ v ≤ M)) (h : k (.int 0) σ) : jr_M G d mi_X10_in [.int v, .int 0, .int M] σ (jr_k k) := wp_in (fun a b => absurd ⟨a, b⟩ hv) (fun _ => h)
theorem iv_w0 {T : Nat → Nat → List Nat} {n nf nc lw tp f : Nat} {kd se : Nat → Nat} {σ : jr_Sg} (h : iv T n nf nc kd se lw tp σ) (hf : f < nf) : 0 ≤ (sm_R T lw nf nc kd se σ f 0).1 := by
  obtain ⟨v, hv, e⟩ := (h.2.2.1.2.2.2.2.2.1 f hf).2.2
  show 0 ≤ σ 50 f
  rw [e]
  exact nI_pos' (by omega)
theorem wp_taped {G : jr_G} {d : Nat} {σ : jr_Sg} {k : Value → jr_Sg → Prop} (h : k (.int (σ 5 2)) σ) : jr_M G d mi_X2_taped [.ref 5] σ (jr_k k) := by
  refine jr_enter (L := [some (.ref 5)]) (by decide) (Nat.le_of_ble_eq_true rfl) rfl ?_
  refine jr_aload_n 0 1 dX2_taped_0 rfl rfl rfl ?_
  refine gf_X2_15 4 dX2_taped_1 rfl rfl rfl rfl ?_
  refine jr_ireturn dX2_taped_4 rfl rfl ?_
  exact h
theorem pp_count {G : jr_G} {d : Nat} {σ : jr_Sg} {a : Int32} (h : IV σ) : jr_pair G (d + 20) mi_X9_count mi_X10_count [.int a] σ := by
  obtain ⟨T, n, nf, nc, kd, se, lw, tp, h⟩ := h
  have hh := h
  obtain ⟨hTC, hTR, ⟨hsc, hsr, hl1, hl2, hlw, hfc, hli, hca⟩, htp, himg, hsh, hrest, hwd⟩ := hh
  have hnf := hsc.1
  have h5 := hsc.2.1
  have hnc := hsc.2.2.1
  have h8 := hsc.2.2.2.1
  have rnf := hsr.1
  have rnc := hsr.2.2.1
  have hlm := hrest.2.2.2.1
  unfold jr_pair
  rcases jr_rg a (m := 4) (by decide) with qa | ⟨i, hi, rfl⟩
  · have ht : a.toInt < 0 ∨ 4 < a.toInt := by
      rcases pk_ix a (n := 5) (by omega) with z | z | ⟨j, hj, rfl⟩
      · exact Or.inl (by simpa using Int32.lt_iff_toInt_lt.mp z)
      · exact Or.inr (Int.lt_of_lt_of_le (by decide) (Int32.le_iff_toInt_le.mp z))
      · exact absurd ⟨nI_pos' (by omega), nI_le (by omega) (by omega)⟩ qa
    refine jr_enter (L := [some (.ref 0), some (.int a)]) (by decide) (Nat.le_of_ble_eq_true rfl) rfl ?_
    refine jr_iload_n 1 1 dX9_count_0 rfl rfl rfl ?_
    refine jr_tableOut 76 dX9_count_1 ht rfl ?_
    refine jr_bipush ((-2)) 78 dX9_count_76 rfl rfl ?_
    refine jr_ireturn dX9_count_78 rfl rfl ?_
    refine jr_enter (L := [some (.ref 46), some (.int a)]) (by decide) (Nat.le_of_ble_eq_true rfl) rfl ?_
    refine jr_iload_n 1 1 dX10_count_0 rfl rfl rfl ?_
    refine jr_tableOut 61 dX10_count_1 ht rfl ?_
    refine jr_bipush ((-2)) 63 dX10_count_61 rfl rfl ?_
    refine jr_ireturn dX10_count_63 rfl rfl ?_
    exact ⟨rfl, IV_mov (iv_same_x (jr_eqx_rf [] _) (by decide)) h⟩
  · rcases (by omega : i = 0 ∨ i = 1 ∨ i = 2 ∨ i = 3 ∨ i = 4) with rfl | rfl | rfl | rfl | rfl
    · refine jr_enter (L := [some (.ref 0), some (.int (nI 0))]) (by decide) (Nat.le_of_ble_eq_true rfl) rfl ?_
      refine jr_iload_n 1 1 dX9_count_0 rfl rfl rfl ?_
      refine jr_tableIn (off := 35) 36 dX9_count_1 (by decide) (by decide) (by decide) rfl ?_
      refine jr_aload_n 0 37 dX9_count_36 rfl rfl rfl ?_
      refine gf_X9_44 40 dX9_count_37 rfl rfl rfl rfl ?_
      refine gf_X9_84 43 dX9_count_40 rfl rfl rfl rfl ?_
      refine jr_ireturn dX9_count_43 rfl rfl ?_
      refine jr_enter (L := [some (.ref 46), some (.int (nI 0))]) (by decide) (Nat.le_of_ble_eq_true rfl) rfl ?_
      refine jr_iload_n 1 1 dX10_count_0 rfl rfl rfl ?_
      refine jr_tableIn (off := 35) 36 dX10_count_1 (by decide) (by decide) (by decide) rfl ?_
      refine jr_aload_n 0 37 dX10_count_36 rfl rfl rfl ?_
      refine gf_X10_105 40 dX10_count_37 rfl rfl rfl rfl ?_
      refine jr_ireturn dX10_count_40 rfl rfl ?_
      exact ⟨congrArg Value.int (rnf.trans hnf.symm), IV_mov (iv_same_x (jr_eqx_rf [] _) (by decide)) h⟩
    · refine jr_enter (L := [some (.ref 0), some (.int (nI 1))]) (by decide) (Nat.le_of_ble_eq_true rfl) rfl ?_
      refine jr_iload_n 1 1 dX9_count_0 rfl rfl rfl ?_
      refine jr_tableIn (off := 43) 44 dX9_count_1 (by decide) (by decide) (by decide) rfl ?_
      refine jr_aload_n 0 45 dX9_count_44 rfl rfl rfl ?_
      refine gf_X9_44 48 dX9_count_45 rfl rfl rfl rfl ?_
      refine gf_X9_88 51 dX9_count_48 rfl rfl rfl rfl ?_
      refine jr_ireturn dX9_count_51 rfl rfl ?_
      refine jr_enter (L := [some (.ref 46), some (.int (nI 1))]) (by decide) (Nat.le_of_ble_eq_true rfl) rfl ?_
      refine jr_iload_n 1 1 dX10_count_0 rfl rfl rfl ?_
      refine jr_tableIn (off := 40) 41 dX10_count_1 (by decide) (by decide) (by decide) rfl ?_
      refine jr_aload_n 0 42 dX10_count_41 rfl rfl rfl ?_
      refine gf_X10_112 45 dX10_count_42 rfl rfl rfl rfl ?_
      refine jr_ireturn dX10_count_45 rfl rfl ?_
      exact ⟨congrArg Value.int (rnc.trans hnc.symm), IV_mov (iv_same_x (jr_eqx_rf [] _) (by decide)) h⟩
    · refine jr_enter (L := [some (.ref 0), some (.int (nI 2))]) (by decide) (Nat.le_of_ble_eq_true rfl) rfl ?_
      refine jr_iload_n 1 1 dX9_count_0 rfl rfl rfl ?_
      refine jr_tableIn (off := 51) 52 dX9_count_1 (by decide) (by decide) (by decide) rfl ?_
      refine jr_aload_n 0 53 dX9_count_52 rfl rfl rfl ?_
      refine gf_X9_10 56 dX9_count_53 rfl rfl rfl rfl ?_
      refine gf_X9_91 59 dX9_count_56 rfl rfl rfl rfl ?_
      refine jr_ireturn dX9_count_59 rfl rfl ?_
      refine jr_enter (L := [some (.ref 46), some (.int (nI 2))]) (by decide) (Nat.le_of_ble_eq_true rfl) rfl ?_
      refine jr_iload_n 1 1 dX10_count_0 rfl rfl rfl ?_
      refine jr_tableIn (off := 45) 46 dX10_count_1 (by decide) (by decide) (by decide) rfl ?_
      refine jr_aload_n 0 47 dX10_count_46 rfl rfl rfl ?_
      refine gf_X10_115 50 dX10_count_47 rfl rfl rfl rfl ?_
      refine jr_ireturn dX10_count_50 rfl rfl ?_
      exact ⟨congrArg Value.int (hTR.1.trans hTC.1.symm), IV_mov (iv_same_x (jr_eqx_rf [] _) (by decide)) h⟩
    · refine jr_enter (L := [some (.ref 0), some (.int (nI 3))]) (by decide) (Nat.le_of_ble_eq_true rfl) rfl ?_
      refine jr_iload_n 1 1 dX9_count_0 rfl rfl rfl ?_
      refine jr_tableIn (off := 59) 60 dX9_count_1 (by decide) (by decide) (by decide) rfl ?_
      refine jr_aload_n 0 61 dX9_count_60 rfl rfl rfl ?_
      refine gf_X9_44 64 dX9_count_61 rfl rfl rfl rfl ?_
      refine gf_X9_94 67 dX9_count_64 rfl rfl rfl rfl ?_
      refine jr_ireturn dX9_count_67 rfl rfl ?_
      refine jr_enter (L := [some (.ref 46), some (.int (nI 3))]) (by decide) (Nat.le_of_ble_eq_true rfl) rfl ?_
      refine jr_iload_n 1 1 dX10_count_0 rfl rfl rfl ?_
      refine jr_tableIn (off := 50) 51 dX10_count_1 (by decide) (by decide) (by decide) rfl ?_
      refine jr_aload_n 0 52 dX10_count_51 rfl rfl rfl ?_
      refine gf_X10_118 55 dX10_count_52 rfl rfl rfl rfl ?_
      refine jr_ireturn dX10_count_55 rfl rfl ?_
      exact ⟨congrArg Value.int (hl2.trans hl1.symm), IV_mov (iv_same_x (jr_eqx_rf [] _) (by decide)) h⟩
    · refine jr_enter (L := [some (.ref 0), some (.int (nI 4))]) (by decide) (Nat.le_of_ble_eq_true rfl) rfl ?_
      refine jr_iload_n 1 1 dX9_count_0 rfl rfl rfl ?_
      refine jr_tableIn (off := 67) 68 dX9_count_1 (by decide) (by decide) (by decide) rfl ?_
      refine jr_aload_n 0 69 dX9_count_68 rfl rfl rfl ?_
      refine gf_X9_21 72 dX9_count_69 rfl rfl rfl rfl ?_
      refine cs_X9_97 75 dX9_count_72 rfl rfl rfl (Nat.le_of_ble_eq_true rfl) (wp_taped ?_)
      refine jr_ireturn dX9_count_75 rfl rfl ?_
      refine jr_enter (L := [some (.ref 46), some (.int (nI 4))]) (by decide) (Nat.le_of_ble_eq_true rfl) rfl ?_
      refine jr_iload_n 1 1 dX10_count_0 rfl rfl rfl ?_
      refine jr_tableIn (off := 55) 56 dX10_count_1 (by decide) (by decide) (by decide) rfl ?_
      refine jr_aload_n 0 57 dX10_count_56 rfl rfl rfl ?_
      refine gf_X10_98 60 dX10_count_57 rfl rfl rfl rfl ?_
      refine jr_ireturn dX10_count_60 rfl rfl ?_
      exact ⟨congrArg Value.int (htp.2.1.trans htp.1.symm), IV_mov (iv_same_x (jr_eqx_rf [] _) (by decide)) h⟩
theorem pp_red {G : jr_G} {d : Nat} {σ : jr_Sg} {f a : Int32} (h : IV σ) : jr_pair G (d + 20) mi_X9_red mi_X10_red [.int f, .int a] σ := by
  obtain ⟨T, n, nf, nc, kd, se, lw, tp, h⟩ := h
  have hh := h
  obtain ⟨hTC, hTR, ⟨hsc, hsr, hl1, hl2, hlw, hfc, hli, hca⟩, htp, himg, hsh, hrest, hwd⟩ := hh
  have hnf := hsc.1
  have h5 := hsc.2.1
  have hnc := hsc.2.2.1
  have h8 := hsc.2.2.2.1
  have rnf := hsr.1
  have rnc := hsr.2.2.1
  have hlm := hrest.2.2.2.1
  unfold jr_pair
  rcases jr_fc f h5 with hf | ⟨j, hj, rfl⟩
  · refine jr_enter (L := [some (.ref 0), some (.int f), some (.int a)]) (by decide) (Nat.le_of_ble_eq_true rfl) rfl ?_
    refine jr_aload_n 0 1 dX9_red_0 rfl rfl rfl ?_
    refine gf_X9_44 4 dX9_red_1 rfl rfl rfl rfl ?_
    refine jr_iload_n 1 5 dX9_red_4 rfl rfl rfl ?_
    refine cs_X9_146 8 dX9_red_5 rfl rfl rfl (Nat.le_of_ble_eq_true rfl) (wp_has_15 hnf h5 (fun j hj e => absurd hf (by rw [e]; exact jr_fcn hj (by omega))) (fun _ => ?_))
    refine jr_if_ne 14 11 dX9_red_8 rfl rfl (fun q => absurd (by decide) q) (fun q8 => ?_)
    refine jr_bipush ((-5)) 13 dX9_red_11 rfl rfl ?_
    refine jr_ireturn dX9_red_13 rfl rfl ?_
    refine jr_enter (L := [some (.ref 46), some (.int f), some (.int a)]) (by decide) (Nat.le_of_ble_eq_true rfl) rfl ?_
    refine jr_aload_n 0 1 dX10_red_0 rfl rfl rfl ?_
    refine jr_iload_n 1 2 dX10_red_1 rfl rfl rfl ?_
    refine cs_X10_204 5 dX10_red_2 rfl rfl rfl (Nat.le_of_ble_eq_true rfl) (wp_isFace rnf h5 (fun j hj e => absurd hf (by rw [e]; exact jr_fcn hj (by omega))) (fun _ => ?_))
    refine jr_if_ne 11 8 dX10_red_5 rfl rfl (fun q => absurd (by decide) q) (fun q5 => ?_)
    refine jr_bipush ((-5)) 10 dX10_red_8 rfl rfl ?_
    refine jr_ireturn dX10_red_10 rfl rfl ?_
    exact ⟨rfl, IV_mov (iv_same_x (jr_eqx_rf [] _) (by decide)) h⟩
  · rcases jr_rg a (m := 4) (by decide) with qi | ⟨i, hi, rfl⟩
    · refine jr_enter (L := [some (.ref 0), some (.int (nI j)), some (.int a)]) (by decide) (Nat.le_of_ble_eq_true rfl) rfl ?_
      refine jr_aload_n 0 1 dX9_red_0 rfl rfl rfl ?_
      refine gf_X9_44 4 dX9_red_1 rfl rfl rfl rfl ?_
      refine jr_iload_n 1 5 dX9_red_4 rfl rfl rfl ?_
      refine cs_X9_146 8 dX9_red_5 rfl rfl rfl (Nat.le_of_ble_eq_true rfl) (wp_hasT_15 hnf h5 hj ?_)
      refine jr_if_ne 14 11 dX9_red_8 rfl rfl (fun q8 => ?_) (fun q => absurd q (by decide))
      refine jr_iload_n 2 15 dX9_red_14 rfl rfl rfl ?_
      refine jr_iconst (4) 16 dX9_red_15 rfl rfl ?_
      refine cs_X9_104 19 dX9_red_16 rfl rfl (Nat.le_of_ble_eq_true rfl) (wp_wiF qi ?_)
      refine jr_if_ne 25 22 dX9_red_19 rfl rfl (fun q => absurd (by decide) q) (fun q19 => ?_)
      refine jr_bipush ((-7)) 24 dX9_red_22 rfl rfl ?_
      refine jr_ireturn dX9_red_24 rfl rfl ?_
      refine jr_enter (L := [some (.ref 46), some (.int (nI j)), some (.int a)]) (by decide) (Nat.le_of_ble_eq_true rfl) rfl ?_
      refine jr_aload_n 0 1 dX10_red_0 rfl rfl rfl ?_
      refine jr_iload_n 1 2 dX10_red_1 rfl rfl rfl ?_
      refine cs_X10_204 5 dX10_red_2 rfl rfl rfl (Nat.le_of_ble_eq_true rfl) (wp_isFace rnf h5 (fun _ _ _ => ?_) (fun q => absurd q (jr_fcn hj (by omega))))
      refine jr_if_ne 11 8 dX10_red_5 rfl rfl (fun q5 => ?_) (fun q => absurd q (by decide))
      refine jr_iload_n 2 12 dX10_red_11 rfl rfl rfl ?_
      refine jr_iconst (0) 13 dX10_red_12 rfl rfl ?_
      refine jr_iconst (4) 14 dX10_red_13 rfl rfl ?_
      refine cs_X10_108 17 dX10_red_14 rfl rfl (Nat.le_of_ble_eq_true rfl) (wp_inF qi ?_)
      refine jr_if_eq 29 20 dX10_red_17 rfl rfl (fun q17 => ?_) (fun q => absurd (by decide) q)
      refine jr_bipush ((-7)) 31 dX10_red_29 rfl rfl ?_
      refine jr_ireturn dX10_red_31 rfl rfl ?_
      exact ⟨rfl, IV_mov (iv_same_x (jr_eqx_rf [] _) (by decide)) h⟩
    · refine jr_enter (L := [some (.ref 0), some (.int (nI j)), some (.int (nI i))]) (by decide) (Nat.le_of_ble_eq_true rfl) rfl ?_
      refine jr_aload_n 0 1 dX9_red_0 rfl rfl rfl ?_
      refine gf_X9_44 4 dX9_red_1 rfl rfl rfl rfl ?_
      refine jr_iload_n 1 5 dX9_red_4 rfl rfl rfl ?_
      refine cs_X9_146 8 dX9_red_5 rfl rfl rfl (Nat.le_of_ble_eq_true rfl) (wp_hasT_15 hnf h5 hj ?_)
      refine jr_if_ne 14 11 dX9_red_8 rfl rfl (fun q8 => ?_) (fun q => absurd q (by decide))
      refine jr_iload_n 2 15 dX9_red_14 rfl rfl rfl ?_
      refine jr_iconst (4) 16 dX9_red_15 rfl rfl ?_
      refine cs_X9_104 19 dX9_red_16 rfl rfl (Nat.le_of_ble_eq_true rfl) (wp_wiT hi (by decide) rfl ?_)
      refine jr_if_ne 25 22 dX9_red_19 rfl rfl (fun q19 => ?_) (fun q => absurd q (by decide))
      refine jr_aload_n 0 26 dX9_red_25 rfl rfl rfl ?_
      refine jr_iload_n 1 27 dX9_red_26 rfl rfl rfl ?_
      refine jr_bipush (40) 29 dX9_red_27 rfl rfl ?_
      refine cs_X9_189 32 dX9_red_29 rfl rfl rfl (Nat.le_of_ble_eq_true rfl) (wp_playNow (len := 40) (by omega) h hj (jr_eqx_rf _ _) (fun σ1 g1 g2 => ?_))
      refine jr_aload_n 0 33 dX9_red_32 rfl rfl rfl ?_
      refine jr_iload_n 1 34 dX9_red_33 rfl rfl rfl ?_
      refine jr_iload_n 2 35 dX9_red_34 rfl rfl rfl ?_
      refine cs_X9_202 38 dX9_red_35 rfl rfl rfl (Nat.le_of_ble_eq_true rfl) (wp_cRedTold (by omega) g2 (iv_w0 h hj) (by omega) ?_)
      refine jr_ireturn dX9_red_38 rfl rfl ?_
      refine jr_enter (L := [some (.ref 46), some (.int (nI j)), some (.int (nI i))]) (by decide) (Nat.le_of_ble_eq_true rfl) rfl ?_
      have h1 := iv_mov (iv_cx g1) h
      refine jr_aload_n 0 1 dX10_red_0 rfl rfl rfl ?_
      refine jr_iload_n 1 2 dX10_red_1 rfl rfl rfl ?_
      refine cs_X10_204 5 dX10_red_2 rfl rfl rfl (Nat.le_of_ble_eq_true rfl) (wp_isFace h1.2.2.1.2.1.1 h5 (fun _ _ _ => ?_) (fun q => absurd q (jr_fcn hj (by omega))))
      refine jr_if_ne 11 8 dX10_red_5 rfl rfl (fun q5 => ?_) (fun q => absurd q (by decide))
      refine jr_iload_n 2 12 dX10_red_11 rfl rfl rfl ?_
      refine jr_iconst (0) 13 dX10_red_12 rfl rfl ?_
      refine jr_iconst (4) 14 dX10_red_13 rfl rfl ?_
      refine cs_X10_108 17 dX10_red_14 rfl rfl (Nat.le_of_ble_eq_true rfl) (wp_inT hi (by decide) rfl ?_)
      refine jr_if_eq 29 20 dX10_red_17 rfl rfl (fun q => absurd q (by decide)) (fun q17 => ?_)
      refine jr_aload_n 0 21 dX10_red_20 rfl rfl rfl ?_
      refine jr_iload_n 1 22 dX10_red_21 rfl rfl rfl ?_
      refine jr_iload_n 2 23 dX10_red_22 rfl rfl rfl ?_
      refine cs_X10_275 26 dX10_red_23 rfl rfl rfl (Nat.le_of_ble_eq_true rfl) (wp_rRedTold (what := i) h1.2.2.1.2.1 h1.2.2.2.2.2.2.1.2.2.2.1 h1.2.1 h1.2.2.1.2.2.2.2.1 h1.2.2.1.2.2.2.1 hj (by omega) (fun σ2 g3 => ?_))
      refine jr_goto 31 dX10_red_26 rfl ?_
      refine jr_ireturn dX10_red_31 rfl rfl ?_
      exact ⟨by rw [sm_R_of g1, pr_rf_of g1], IV_mov (iv_same_tr (iv_cx g1) (iv_rx g3)) h⟩

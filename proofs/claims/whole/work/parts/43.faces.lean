def fx_B (nf : Nat) (kd mo wa se : Nat → Nat) : Prop := nf ≤ 5 ∧ ∀ f, f < nf → kd f < 6 ∧ mo f ≤ 9 ∧ wa f ≤ 400 ∧ se f < 8
def fx_C (nf : Nat) (kd mo wa se : Nat → Nat) (σ : jr_Sg) : Prop := σ 15 8 = nI nf ∧ ∀ f, f < nf → σ 16 f = nI (kd f) ∧ σ 17 f = nI (mo f) ∧ σ 18 f = nI (wa f) ∧ σ 19 f = nI (se f)
def fx_R (nf : Nat) (kd mo wa se : Nat → Nat) (σ : jr_Sg) : Prop := σ 46 1 = nI nf ∧ ∀ f, f < nf → σ 48 f = nI (kd f) ∧ σ 49 f = nI (mo f) ∧ σ 50 f = nI (wa f) ∧ σ 51 f = nI (se f)
def fx_E (nf : Nat) (kd mo : Nat → Nat) (nf' : Nat) (kd' mo' : Nat → Nat) : Prop := nf ≤ nf' ∧ ∀ f, f < nf → kd' f = kd f ∧ mo' f = mo f
def fr_C (σ σ' : jr_Sg) : Prop := jr_eqx [15, 16, 17, 18, 19] σ σ' ∧ ∀ k, k ≠ 8 → σ' 15 k = σ 15 k
def fr_R (σ σ' : jr_Sg) : Prop := jr_eqx [46, 48, 49, 50, 51] σ σ' ∧ ∀ k, k ≠ 1 → σ' 46 k = σ 46 k
theorem frC_rf (σ : jr_Sg) : fr_C σ σ := ⟨jr_eqx_rf _ _, fun _ _ => rfl⟩
theorem frR_rf (σ : jr_Sg) : fr_R σ σ := ⟨jr_eqx_rf _ _, fun _ _ => rfl⟩
theorem frC_tr {a b c : jr_Sg} (h : fr_C a b) (g : fr_C b c) : fr_C a c := ⟨jr_eqx_tr h.1 g.1, fun k hk => (g.2 k hk).trans (h.2 k hk)⟩
theorem frR_tr {a b c : jr_Sg} (h : fr_R a b) (g : fr_R b c) : fr_R a c := ⟨jr_eqx_tr h.1 g.1, fun k hk => (g.2 k hk).trans (h.2 k hk)⟩
theorem fxE_rf (nf : Nat) (kd mo : Nat → Nat) : fx_E nf kd mo nf kd mo := ⟨Nat.le_refl _, fun _ _ => ⟨rfl, rfl⟩⟩
theorem fxE_tr {nf nf1 nf2 : Nat} {kd mo kd1 mo1 kd2 mo2 : Nat → Nat} (h : fx_E nf kd mo nf1 kd1 mo1) (g : fx_E nf1 kd1 mo1 nf2 kd2 mo2) : fx_E nf kd mo nf2 kd2 mo2 := ⟨Nat.le_trans h.1 g.1, fun f hf => ⟨((g.2 f (Nat.lt_of_lt_of_le hf h.1)).1).trans (h.2 f hf).1, ((g.2 f (Nat.lt_of_lt_of_le hf h.1)).2).trans (h.2 f hf).2⟩⟩
theorem kup_x {g : Nat → Int32} {kd : Nat → Nat} {nf c x : Nat} (hx : x < nf + 1) (h : x < nf → g x = nI (kd x)) : upd g nf (nI c) x = nI (kup kd nf c x) := by
  by_cases e : x = nf
  · subst e; rw [pk_us, kup_s]
  · rw [pk_un e, kup_n e, h (by omega)]
theorem kup_bd {kd : Nat → Nat} {P : Nat → Prop} {nf c x : Nat} (hx : x < nf + 1) (hc : P c) (h : x < nf → P (kd x)) : P (kup kd nf c x) := by
  by_cases e : x = nf
  · subst e; rw [kup_s]; exact hc
  · rw [kup_n e]; exact h (by omega)
theorem face_both {nf : Nat} {kd mo wa se : Nat → Nat} (hB : fx_B nf kd mo wa se) (a c e : Int32) : ∃ (r : Int32) (nf' : Nat) (kd' mo' wa' se' : Nat → Nat), fx_B nf' kd' mo' wa' se' ∧ fx_E nf kd mo nf' kd' mo' ∧ (∀ {G : jr_G} {d : Nat} {σ : jr_Sg} {k : Value → jr_Sg → Prop}, fx_C nf kd mo wa se σ → (∀ σ' : jr_Sg, fx_C nf' kd' mo' wa' se' σ' → fr_C σ σ' → k (.int r) σ') → jr_M G (d + 10) mi_X9_face [.ref 0, .int a, .int c, .int e] σ (jr_k k)) ∧ (∀ {G : jr_G} {d : Nat} {σ : jr_Sg} {k : Value → jr_Sg → Prop}, fx_R nf kd mo wa se σ → (∀ σ' : jr_Sg, fx_R nf' kd' mo' wa' se' σ' → fr_R σ σ' → k (.int r) σ') → jr_M G (d + 10) mi_X10_face [.ref 46, .int a, .int c, .int e] σ (jr_k k)) := by
  have h5 := hB.1
  rcases jr_rg a (m := 59) (by decide) with qm | ⟨m, hm, rfl⟩
  · refine ⟨-2, nf, kd, mo, wa, se, hB, fxE_rf _ _ _, ?_, ?_⟩
    · intro G d σ k hC hf
      refine jr_enter (L := [some (.ref 0), some (.int a), some (.int c), some (.int e)]) (by decide) (Nat.le_of_ble_eq_true rfl) rfl ?_
      refine jr_iload_n 1 1 dX9_face_0 rfl rfl rfl ?_
      refine jr_bipush (59) 3 dX9_face_1 rfl rfl ?_
      refine cs_X9_104 6 dX9_face_3 rfl rfl (Nat.le_of_ble_eq_true rfl) (wp_wiF qm ?_)
      refine jr_if_eq 26 9 dX9_face_6 rfl rfl (fun q6 => ?_) (fun q => absurd (by decide) q)
      refine jr_bipush ((-2)) 28 dX9_face_26 rfl rfl ?_
      refine jr_ireturn dX9_face_28 rfl rfl ?_
      exact (hf σ hC (frC_rf σ))
    · intro G d σ k hR hf
      refine jr_enter (L := [some (.ref 46), some (.int a), some (.int c), some (.int e)]) (by decide) (Nat.le_of_ble_eq_true rfl) rfl ?_
      refine jr_iload_n 1 1 dX10_face_0 rfl rfl rfl ?_
      refine jr_iconst (0) 2 dX10_face_1 rfl rfl ?_
      refine jr_bipush (59) 4 dX10_face_2 rfl rfl ?_
      refine cs_X10_108 7 dX10_face_4 rfl rfl (Nat.le_of_ble_eq_true rfl) (wp_inF qm ?_)
      refine jr_if_eq 24 10 dX10_face_7 rfl rfl (fun q7 => ?_) (fun q => absurd (by decide) q)
      refine jr_bipush ((-2)) 26 dX10_face_24 rfl rfl ?_
      refine jr_ireturn dX10_face_26 rfl rfl ?_
      exact (hf σ hR (frR_rf σ))
  · rcases jr_rg c (m := 400) (by decide) with qv | ⟨v, hv, rfl⟩
    · refine ⟨-2, nf, kd, mo, wa, se, hB, fxE_rf _ _ _, ?_, ?_⟩
      · intro G d σ k hC hf
        refine jr_enter (L := [some (.ref 0), some (.int (nI m)), some (.int c), some (.int e)]) (by decide) (Nat.le_of_ble_eq_true rfl) rfl ?_
        refine jr_iload_n 1 1 dX9_face_0 rfl rfl rfl ?_
        refine jr_bipush (59) 3 dX9_face_1 rfl rfl ?_
        refine cs_X9_104 6 dX9_face_3 rfl rfl (Nat.le_of_ble_eq_true rfl) (wp_wiT hm (by decide) rfl ?_)
        refine jr_if_eq 26 9 dX9_face_6 rfl rfl (fun q => absurd q (by decide)) (fun q6 => ?_)
        refine jr_iload_n 2 10 dX9_face_9 rfl rfl rfl ?_
        refine jr_sipush (400) 13 dX9_face_10 rfl rfl ?_
        refine cs_X9_104 16 dX9_face_13 rfl rfl (Nat.le_of_ble_eq_true rfl) (wp_wiF qv ?_)
        refine jr_if_eq 26 19 dX9_face_16 rfl rfl (fun q16 => ?_) (fun q => absurd (by decide) q)
        refine jr_bipush ((-2)) 28 dX9_face_26 rfl rfl ?_
        refine jr_ireturn dX9_face_28 rfl rfl ?_
        exact (hf σ hC (frC_rf σ))
      · intro G d σ k hR hf
        refine jr_enter (L := [some (.ref 46), some (.int (nI m)), some (.int c), some (.int e)]) (by decide) (Nat.le_of_ble_eq_true rfl) rfl ?_
        refine jr_iload_n 1 1 dX10_face_0 rfl rfl rfl ?_
        refine jr_iconst (0) 2 dX10_face_1 rfl rfl ?_
        refine jr_bipush (59) 4 dX10_face_2 rfl rfl ?_
        refine cs_X10_108 7 dX10_face_4 rfl rfl (Nat.le_of_ble_eq_true rfl) (wp_inT hm (by decide) rfl ?_)
        refine jr_if_eq 24 10 dX10_face_7 rfl rfl (fun q => absurd q (by decide)) (fun q7 => ?_)
        refine jr_iload_n 2 11 dX10_face_10 rfl rfl rfl ?_
        refine cs_X10_191 14 dX10_face_11 rfl rfl (Nat.le_of_ble_eq_true rfl) (wp_risMuch (fun a b => absurd ⟨a, b⟩ qv) (fun _ => ?_))
        refine jr_if_eq 24 17 dX10_face_14 rfl rfl (fun q14 => ?_) (fun q => absurd (by decide) q)
        refine jr_bipush ((-2)) 26 dX10_face_24 rfl rfl ?_
        refine jr_ireturn dX10_face_26 rfl rfl ?_
        exact (hf σ hR (frR_rf σ))
    · rcases jr_rg e (m := 7) (by decide) with qs | ⟨s, hs, rfl⟩
      · refine ⟨-2, nf, kd, mo, wa, se, hB, fxE_rf _ _ _, ?_, ?_⟩
        · intro G d σ k hC hf
          refine jr_enter (L := [some (.ref 0), some (.int (nI m)), some (.int (nI v)), some (.int e)]) (by decide) (Nat.le_of_ble_eq_true rfl) rfl ?_
          refine jr_iload_n 1 1 dX9_face_0 rfl rfl rfl ?_
          refine jr_bipush (59) 3 dX9_face_1 rfl rfl ?_
          refine cs_X9_104 6 dX9_face_3 rfl rfl (Nat.le_of_ble_eq_true rfl) (wp_wiT hm (by decide) rfl ?_)
          refine jr_if_eq 26 9 dX9_face_6 rfl rfl (fun q => absurd q (by decide)) (fun q6 => ?_)
          refine jr_iload_n 2 10 dX9_face_9 rfl rfl rfl ?_
          refine jr_sipush (400) 13 dX9_face_10 rfl rfl ?_
          refine cs_X9_104 16 dX9_face_13 rfl rfl (Nat.le_of_ble_eq_true rfl) (wp_wiT hv (by decide) rfl ?_)
          refine jr_if_eq 26 19 dX9_face_16 rfl rfl (fun q => absurd q (by decide)) (fun q16 => ?_)
          refine jr_iload_n 3 20 dX9_face_19 rfl rfl rfl ?_
          refine cs_X9_135 23 dX9_face_20 rfl rfl (Nat.le_of_ble_eq_true rfl) (wp_isSeat (fun a b => absurd ⟨a, b⟩ qs) (fun _ => ?_))
          refine jr_if_ne 29 26 dX9_face_23 rfl rfl (fun q => absurd (by decide) q) (fun q23 => ?_)
          refine jr_bipush ((-2)) 28 dX9_face_26 rfl rfl ?_
          refine jr_ireturn dX9_face_28 rfl rfl ?_
          exact (hf σ hC (frC_rf σ))
        · intro G d σ k hR hf
          refine jr_enter (L := [some (.ref 46), some (.int (nI m)), some (.int (nI v)), some (.int e)]) (by decide) (Nat.le_of_ble_eq_true rfl) rfl ?_
          refine jr_iload_n 1 1 dX10_face_0 rfl rfl rfl ?_
          refine jr_iconst (0) 2 dX10_face_1 rfl rfl ?_
          refine jr_bipush (59) 4 dX10_face_2 rfl rfl ?_
          refine cs_X10_108 7 dX10_face_4 rfl rfl (Nat.le_of_ble_eq_true rfl) (wp_inT hm (by decide) rfl ?_)
          refine jr_if_eq 24 10 dX10_face_7 rfl rfl (fun q => absurd q (by decide)) (fun q7 => ?_)
          refine jr_iload_n 2 11 dX10_face_10 rfl rfl rfl ?_
          refine cs_X10_191 14 dX10_face_11 rfl rfl (Nat.le_of_ble_eq_true rfl) (wp_risMuch (fun _ _ => ?_) (fun q => absurd ⟨nI_pos' (by omega), nI_le (b := 400) hv (by omega)⟩ q))
          refine jr_if_eq 24 17 dX10_face_14 rfl rfl (fun q => absurd q (by decide)) (fun q14 => ?_)
          refine jr_iload_n 3 18 dX10_face_17 rfl rfl rfl ?_
          refine cs_X10_198 21 dX10_face_18 rfl rfl (Nat.le_of_ble_eq_true rfl) (wp_risSeat (fun a b => absurd ⟨a, b⟩ qs) (fun _ => ?_))
          refine jr_if_ne 27 24 dX10_face_21 rfl rfl (fun q => absurd (by decide) q) (fun q21 => ?_)
          refine jr_bipush ((-2)) 26 dX10_face_24 rfl rfl ?_
          refine jr_ireturn dX10_face_26 rfl rfl ?_
          exact (hf σ hR (frR_rf σ))
      · by_cases e5 : nf = 5
        · refine ⟨-4, nf, kd, mo, wa, se, hB, fxE_rf _ _ _, ?_, ?_⟩
          · intro G d σ k hC hf
            refine jr_enter (L := [some (.ref 0), some (.int (nI m)), some (.int (nI v)), some (.int (nI s))]) (by decide) (Nat.le_of_ble_eq_true rfl) rfl ?_
            refine jr_iload_n 1 1 dX9_face_0 rfl rfl rfl ?_
            refine jr_bipush (nI 59) 3 dX9_face_1 rfl rfl ?_
            refine cs_X9_104 6 dX9_face_3 rfl rfl (Nat.le_of_ble_eq_true rfl) (wp_wiT hm (by decide) rfl ?_)
            refine jr_if_eq 26 9 dX9_face_6 rfl rfl (fun q => absurd q (by decide)) (fun q6 => ?_)
            refine jr_iload_n 2 10 dX9_face_9 rfl rfl rfl ?_
            refine jr_sipush (nI 400) 13 dX9_face_10 rfl rfl ?_
            refine cs_X9_104 16 dX9_face_13 rfl rfl (Nat.le_of_ble_eq_true rfl) (wp_wiT hv (by decide) rfl ?_)
            refine jr_if_eq 26 19 dX9_face_16 rfl rfl (fun q => absurd q (by decide)) (fun q16 => ?_)
            refine jr_iload_n 3 20 dX9_face_19 rfl rfl rfl ?_
            refine cs_X9_135 23 dX9_face_20 rfl rfl (Nat.le_of_ble_eq_true rfl) (wp_isSeat (fun _ _ => ?_) (fun q => absurd ⟨nI_pos' (by omega), nI_le (b := 7) hs (by decide)⟩ q))
            refine jr_if_ne 29 26 dX9_face_23 rfl rfl (fun q23 => ?_) (fun q => absurd q (by decide))
            refine jr_aload_n 0 30 dX9_face_29 rfl rfl rfl ?_
            refine gf_X9_44 33 dX9_face_30 rfl rfl rfl rfl ?_
            refine gf_X9_84 36 dX9_face_33 rfl rfl rfl rfl ?_
            rw [hC.1]
            refine jr_iconst (nI 5) 37 dX9_face_36 rfl rfl ?_
            refine jr_icmp_lt 43 40 dX9_face_37 rfl rfl (fun q => absurd q (by rw [e5]; decide)) (fun q37 => ?_)
            refine jr_bipush ((-4)) 42 dX9_face_40 rfl rfl ?_
            refine jr_ireturn dX9_face_42 rfl rfl ?_
            exact (hf σ hC (frC_rf σ))
          · intro G d σ k hR hf
            refine jr_enter (L := [some (.ref 46), some (.int (nI m)), some (.int (nI v)), some (.int (nI s))]) (by decide) (Nat.le_of_ble_eq_true rfl) rfl ?_
            refine jr_iload_n 1 1 dX10_face_0 rfl rfl rfl ?_
            refine jr_iconst (nI 0) 2 dX10_face_1 rfl rfl ?_
            refine jr_bipush (nI 59) 4 dX10_face_2 rfl rfl ?_
            refine cs_X10_108 7 dX10_face_4 rfl rfl (Nat.le_of_ble_eq_true rfl) (wp_inT hm (by decide) rfl ?_)
            refine jr_if_eq 24 10 dX10_face_7 rfl rfl (fun q => absurd q (by decide)) (fun q7 => ?_)
            refine jr_iload_n 2 11 dX10_face_10 rfl rfl rfl ?_
            refine cs_X10_191 14 dX10_face_11 rfl rfl (Nat.le_of_ble_eq_true rfl) (wp_risMuch (fun _ _ => ?_) (fun q => absurd ⟨nI_pos' (by omega), nI_le (b := 400) hv (by omega)⟩ q))
            refine jr_if_eq 24 17 dX10_face_14 rfl rfl (fun q => absurd q (by decide)) (fun q14 => ?_)
            refine jr_iload_n 3 18 dX10_face_17 rfl rfl rfl ?_
            refine cs_X10_198 21 dX10_face_18 rfl rfl (Nat.le_of_ble_eq_true rfl) (wp_risSeat (fun _ _ => ?_) (fun q => absurd ⟨nI_pos' (by omega), nI_le (b := 7) hs (by decide)⟩ q))
            refine jr_if_ne 27 24 dX10_face_21 rfl rfl (fun q21 => ?_) (fun q => absurd q (by decide))
            refine jr_aload_n 0 28 dX10_face_27 rfl rfl rfl ?_
            refine gf_X10_105 31 dX10_face_28 rfl rfl rfl rfl ?_
            rw [hR.1]
            refine jr_iconst (nI 5) 32 dX10_face_31 rfl rfl ?_
            refine jr_icmp_ne 38 35 dX10_face_32 rfl rfl (fun q => absurd (by rw [e5]) q) (fun q32 => ?_)
            refine jr_bipush ((-4)) 37 dX10_face_35 rfl rfl ?_
            refine jr_ireturn dX10_face_37 rfl rfl ?_
            exact (hf σ hR (frR_rf σ))
        · have ediv : nI m / nI 10 = nI (m / 10) := pk_div (by omega) (by omega) (by omega)
          have erem : nI m - nI m / nI 10 * nI 10 = nI (m % 10) := pk_rem (by omega) (by omega) (by omega)
          cases hsit : pu_sit (fun x => nI (se x)) (nI s) 0 nf with
          | some i =>
            have hi := (pu_sit_some _ _ _ hsit).2.1
            refine ⟨-3, nf, kd, mo, wa, se, hB, fxE_rf _ _ _, ?_, ?_⟩
            · intro G d σ k hC hf
              have hsit1 : pu_sit (σ 19) (nI s) 0 nf = pu_sit (fun x => nI (se x)) (nI s) 0 nf := pu_sit_congr nf 0 (fun y _ hy => (hC.2 y (by omega)).2.2.2)
              refine jr_enter (L := [some (.ref 0), some (.int (nI m)), some (.int (nI v)), some (.int (nI s))]) (by decide) (Nat.le_of_ble_eq_true rfl) rfl ?_
              refine jr_iload_n 1 1 dX9_face_0 rfl rfl rfl ?_
              refine jr_bipush (nI 59) 3 dX9_face_1 rfl rfl ?_
              refine cs_X9_104 6 dX9_face_3 rfl rfl (Nat.le_of_ble_eq_true rfl) (wp_wiT hm (by decide) rfl ?_)
              refine jr_if_eq 26 9 dX9_face_6 rfl rfl (fun q => absurd q (by decide)) (fun q6 => ?_)
              refine jr_iload_n 2 10 dX9_face_9 rfl rfl rfl ?_
              refine jr_sipush (nI 400) 13 dX9_face_10 rfl rfl ?_
              refine cs_X9_104 16 dX9_face_13 rfl rfl (Nat.le_of_ble_eq_true rfl) (wp_wiT hv (by decide) rfl ?_)
              refine jr_if_eq 26 19 dX9_face_16 rfl rfl (fun q => absurd q (by decide)) (fun q16 => ?_)
              refine jr_iload_n 3 20 dX9_face_19 rfl rfl rfl ?_
              refine cs_X9_135 23 dX9_face_20 rfl rfl (Nat.le_of_ble_eq_true rfl) (wp_isSeat (fun _ _ => ?_) (fun q => absurd ⟨nI_pos' (by omega), nI_le (b := 7) hs (by decide)⟩ q))
              refine jr_if_ne 29 26 dX9_face_23 rfl rfl (fun q23 => ?_) (fun q => absurd q (by decide))
              refine jr_aload_n 0 30 dX9_face_29 rfl rfl rfl ?_
              refine gf_X9_44 33 dX9_face_30 rfl rfl rfl rfl ?_
              refine gf_X9_84 36 dX9_face_33 rfl rfl rfl rfl ?_
              rw [hC.1]
              refine jr_iconst (nI 5) 37 dX9_face_36 rfl rfl ?_
              refine jr_icmp_lt 43 40 dX9_face_37 rfl rfl (fun q37 => ?_) (fun q => absurd (nI_lt (b := 5) (by omega) (by decide)) q)
              refine jr_aload_n 0 44 dX9_face_43 rfl rfl rfl ?_
              refine gf_X9_44 47 dX9_face_44 rfl rfl rfl rfl ?_
              refine jr_iload_n 3 48 dX9_face_47 rfl rfl rfl ?_
              refine cs_X9_138 51 dX9_face_48 rfl rfl rfl (Nat.le_of_ble_eq_true rfl) (wp_sitterOf_15 hC.1 h5 ?_)
              rw [hsit1, hsit]
              refine jr_if_lt 57 54 dX9_face_51 rfl rfl (fun q => absurd q (nI_pos (by omega))) (fun q51 => ?_)
              refine jr_bipush ((-3)) 56 dX9_face_54 rfl rfl ?_
              refine jr_ireturn dX9_face_56 rfl rfl ?_
              exact (hf σ hC (frC_rf σ))
            · intro G d σ k hR hf
              have hsit1 : pu_sit (σ 51) (nI s) 0 nf = pu_sit (fun x => nI (se x)) (nI s) 0 nf := pu_sit_congr nf 0 (fun y _ hy => (hR.2 y (by omega)).2.2.2)
              refine jr_enter (L := [some (.ref 46), some (.int (nI m)), some (.int (nI v)), some (.int (nI s))]) (by decide) (Nat.le_of_ble_eq_true rfl) rfl ?_
              refine jr_iload_n 1 1 dX10_face_0 rfl rfl rfl ?_
              refine jr_iconst (nI 0) 2 dX10_face_1 rfl rfl ?_
              refine jr_bipush (nI 59) 4 dX10_face_2 rfl rfl ?_
              refine cs_X10_108 7 dX10_face_4 rfl rfl (Nat.le_of_ble_eq_true rfl) (wp_inT hm (by decide) rfl ?_)
              refine jr_if_eq 24 10 dX10_face_7 rfl rfl (fun q => absurd q (by decide)) (fun q7 => ?_)
              refine jr_iload_n 2 11 dX10_face_10 rfl rfl rfl ?_
              refine cs_X10_191 14 dX10_face_11 rfl rfl (Nat.le_of_ble_eq_true rfl) (wp_risMuch (fun _ _ => ?_) (fun q => absurd ⟨nI_pos' (by omega), nI_le (b := 400) hv (by omega)⟩ q))
              refine jr_if_eq 24 17 dX10_face_14 rfl rfl (fun q => absurd q (by decide)) (fun q14 => ?_)
              refine jr_iload_n 3 18 dX10_face_17 rfl rfl rfl ?_
              refine cs_X10_198 21 dX10_face_18 rfl rfl (Nat.le_of_ble_eq_true rfl) (wp_risSeat (fun _ _ => ?_) (fun q => absurd ⟨nI_pos' (by omega), nI_le (b := 7) hs (by decide)⟩ q))
              refine jr_if_ne 27 24 dX10_face_21 rfl rfl (fun q21 => ?_) (fun q => absurd q (by decide))
              refine jr_aload_n 0 28 dX10_face_27 rfl rfl rfl ?_
              refine gf_X10_105 31 dX10_face_28 rfl rfl rfl rfl ?_
              refine jr_topi (y := nI nf) hR.1 ?_
              refine jr_iconst (nI 5) 32 dX10_face_31 rfl rfl ?_
              refine jr_icmp_ne 38 35 dX10_face_32 rfl rfl (fun q32 => ?_) (fun q => absurd (nI_inj (by omega) (by omega) q) e5)
              refine jr_aload_n 0 39 dX10_face_38 rfl rfl rfl ?_
              refine jr_iload_n 3 40 dX10_face_39 rfl rfl rfl ?_
              refine cs_X10_201 43 dX10_face_40 rfl rfl rfl (Nat.le_of_ble_eq_true rfl) (wp_whoSits hR.1 h5 ?_)
              rw [hsit1, hsit]
              refine jr_iconst ((-1)) 44 dX10_face_43 rfl rfl ?_
              refine jr_icmp_eq 50 47 dX10_face_44 rfl rfl (fun q => absurd q (jr_ne1 (by omega))) (fun q44 => ?_)
              refine jr_bipush ((-3)) 49 dX10_face_47 rfl rfl ?_
              refine jr_ireturn dX10_face_49 rfl rfl ?_
              exact (hf σ hR (frR_rf σ))
          | none =>
            refine ⟨nI nf, nf + 1, kup kd nf (m / 10), kup mo nf (m % 10), kup wa nf v, kup se nf s, ⟨by omega, fun x hx => ⟨kup_bd (P := fun y => y < 6) hx (by omega) (fun q => (hB.2 x q).1), kup_bd (P := fun y => y ≤ 9) hx (by omega) (fun q => (hB.2 x q).2.1), kup_bd (P := fun y => y ≤ 400) hx hv (fun q => (hB.2 x q).2.2.1), kup_bd (P := fun y => y < 8) hx (by omega) (fun q => (hB.2 x q).2.2.2)⟩⟩, ⟨by omega, fun f hf => ⟨kup_n (by omega), kup_n (by omega)⟩⟩, ?_, ?_⟩
            · intro G d σ k hC hf
              have hsit1 : pu_sit (σ 19) (nI s) 0 nf = pu_sit (fun x => nI (se x)) (nI s) 0 nf := pu_sit_congr nf 0 (fun y _ hy => (hC.2 y (by omega)).2.2.2)
              refine jr_enter (L := [some (.ref 0), some (.int (nI m)), some (.int (nI v)), some (.int (nI s))]) (by decide) (Nat.le_of_ble_eq_true rfl) rfl ?_
              refine jr_iload_n 1 1 dX9_face_0 rfl rfl rfl ?_
              refine jr_bipush (nI 59) 3 dX9_face_1 rfl rfl ?_
              refine cs_X9_104 6 dX9_face_3 rfl rfl (Nat.le_of_ble_eq_true rfl) (wp_wiT hm (by decide) rfl ?_)
              refine jr_if_eq 26 9 dX9_face_6 rfl rfl (fun q => absurd q (by decide)) (fun q6 => ?_)
              refine jr_iload_n 2 10 dX9_face_9 rfl rfl rfl ?_
              refine jr_sipush (nI 400) 13 dX9_face_10 rfl rfl ?_
              refine cs_X9_104 16 dX9_face_13 rfl rfl (Nat.le_of_ble_eq_true rfl) (wp_wiT hv (by decide) rfl ?_)
              refine jr_if_eq 26 19 dX9_face_16 rfl rfl (fun q => absurd q (by decide)) (fun q16 => ?_)
              refine jr_iload_n 3 20 dX9_face_19 rfl rfl rfl ?_
              refine cs_X9_135 23 dX9_face_20 rfl rfl (Nat.le_of_ble_eq_true rfl) (wp_isSeat (fun _ _ => ?_) (fun q => absurd ⟨nI_pos' (by omega), nI_le (b := 7) hs (by decide)⟩ q))
              refine jr_if_ne 29 26 dX9_face_23 rfl rfl (fun q23 => ?_) (fun q => absurd q (by decide))
              refine jr_aload_n 0 30 dX9_face_29 rfl rfl rfl ?_
              refine gf_X9_44 33 dX9_face_30 rfl rfl rfl rfl ?_
              refine gf_X9_84 36 dX9_face_33 rfl rfl rfl rfl ?_
              rw [hC.1]
              refine jr_iconst (nI 5) 37 dX9_face_36 rfl rfl ?_
              refine jr_icmp_lt 43 40 dX9_face_37 rfl rfl (fun q37 => ?_) (fun q => absurd (nI_lt (b := 5) (by omega) (by decide)) q)
              refine jr_aload_n 0 44 dX9_face_43 rfl rfl rfl ?_
              refine gf_X9_44 47 dX9_face_44 rfl rfl rfl rfl ?_
              refine jr_iload_n 3 48 dX9_face_47 rfl rfl rfl ?_
              refine cs_X9_138 51 dX9_face_48 rfl rfl rfl (Nat.le_of_ble_eq_true rfl) (wp_sitterOf_15 hC.1 h5 ?_)
              rw [hsit1, hsit]
              refine jr_if_lt 57 54 dX9_face_51 rfl rfl (fun q51 => ?_) (fun q => absurd (by decide) q)
              refine jr_aload_n 0 58 dX9_face_57 rfl rfl rfl ?_
              refine gf_X9_44 61 dX9_face_58 rfl rfl rfl rfl ?_
              refine jr_iload_n 1 62 dX9_face_61 rfl rfl rfl ?_
              refine jr_bipush (nI 10) 64 dX9_face_62 rfl rfl ?_
              refine jr_idiv 65 dX9_face_64 rfl (by decide) ?_
              rw [ediv]
              refine jr_iload_n 1 66 dX9_face_65 rfl rfl rfl ?_
              refine jr_bipush (nI 10) 68 dX9_face_66 rfl rfl ?_
              refine jr_irem 69 dX9_face_68 rfl (by decide) ?_
              rw [erem]
              refine jr_iload_n 2 70 dX9_face_69 rfl rfl rfl ?_
              refine jr_iload_n 3 71 dX9_face_70 rfl rfl rfl ?_
              refine cs_X9_142 74 dX9_face_71 rfl rfl rfl (Nat.le_of_ble_eq_true rfl) (wp_come hC.1 (by omega) ?_)
              refine jr_ireturn dX9_face_74 rfl rfl ?_
              exact (hf _ ⟨rfl, fun x hx => ⟨kup_x (g := σ 16) hx (fun q => (hC.2 x q).1), kup_x (g := σ 17) hx (fun q => (hC.2 x q).2.1), kup_x (g := σ 18) hx (fun q => (hC.2 x q).2.2.1), kup_x (g := σ 19) hx (fun q => (hC.2 x q).2.2.2)⟩⟩ ⟨jr_eqx_tr (jr_eqx_tr (jr_eqx_tr (jr_eqx_tr (jr_eqx_up _ _ _ (by decide)) (jr_eqx_up _ _ _ (by decide))) (jr_eqx_up _ _ _ (by decide))) (jr_eqx_up _ _ _ (by decide))) (jr_eqx_up _ _ _ (by decide)), fun k hk => (show upd (σ 15) 8 _ k = σ 15 k from pk_un hk)⟩)
            · intro G d σ k hR hf
              have hsit1 : pu_sit (σ 51) (nI s) 0 nf = pu_sit (fun x => nI (se x)) (nI s) 0 nf := pu_sit_congr nf 0 (fun y _ hy => (hR.2 y (by omega)).2.2.2)
              refine jr_enter (L := [some (.ref 46), some (.int (nI m)), some (.int (nI v)), some (.int (nI s))]) (by decide) (Nat.le_of_ble_eq_true rfl) rfl ?_
              refine jr_iload_n 1 1 dX10_face_0 rfl rfl rfl ?_
              refine jr_iconst (nI 0) 2 dX10_face_1 rfl rfl ?_
              refine jr_bipush (nI 59) 4 dX10_face_2 rfl rfl ?_
              refine cs_X10_108 7 dX10_face_4 rfl rfl (Nat.le_of_ble_eq_true rfl) (wp_inT hm (by decide) rfl ?_)
              refine jr_if_eq 24 10 dX10_face_7 rfl rfl (fun q => absurd q (by decide)) (fun q7 => ?_)
              refine jr_iload_n 2 11 dX10_face_10 rfl rfl rfl ?_
              refine cs_X10_191 14 dX10_face_11 rfl rfl (Nat.le_of_ble_eq_true rfl) (wp_risMuch (fun _ _ => ?_) (fun q => absurd ⟨nI_pos' (by omega), nI_le (b := 400) hv (by omega)⟩ q))
              refine jr_if_eq 24 17 dX10_face_14 rfl rfl (fun q => absurd q (by decide)) (fun q14 => ?_)
              refine jr_iload_n 3 18 dX10_face_17 rfl rfl rfl ?_
              refine cs_X10_198 21 dX10_face_18 rfl rfl (Nat.le_of_ble_eq_true rfl) (wp_risSeat (fun _ _ => ?_) (fun q => absurd ⟨nI_pos' (by omega), nI_le (b := 7) hs (by decide)⟩ q))
              refine jr_if_ne 27 24 dX10_face_21 rfl rfl (fun q21 => ?_) (fun q => absurd q (by decide))
              refine jr_aload_n 0 28 dX10_face_27 rfl rfl rfl ?_
              refine gf_X10_105 31 dX10_face_28 rfl rfl rfl rfl ?_
              refine jr_topi (y := nI nf) hR.1 ?_
              refine jr_iconst (nI 5) 32 dX10_face_31 rfl rfl ?_
              refine jr_icmp_ne 38 35 dX10_face_32 rfl rfl (fun q32 => ?_) (fun q => absurd (nI_inj (by omega) (by omega) q) e5)
              refine jr_aload_n 0 39 dX10_face_38 rfl rfl rfl ?_
              refine jr_iload_n 3 40 dX10_face_39 rfl rfl rfl ?_
              refine cs_X10_201 43 dX10_face_40 rfl rfl rfl (Nat.le_of_ble_eq_true rfl) (wp_whoSits hR.1 h5 ?_)
              refine jr_topi (y := -1) (show oI (pu_sit (σ 51) (nI s) 0 nf) = -1 by rw [hsit1, hsit]; rfl) ?_
              refine jr_iconst ((-1)) 44 dX10_face_43 rfl rfl ?_
              refine jr_icmp_eq 50 47 dX10_face_44 rfl rfl (fun q44 => ?_) (fun q => absurd rfl q)
              refine jr_aload_n 0 51 dX10_face_50 rfl rfl rfl ?_
              refine gf_X10_13 54 dX10_face_51 rfl rfl rfl rfl ?_
              refine jr_aload_n 0 55 dX10_face_54 rfl rfl rfl ?_
              refine gf_X10_105 58 dX10_face_55 rfl rfl rfl rfl ?_
              refine jr_topi (y := nI nf) hR.1 ?_
              refine jr_iload_n 1 59 dX10_face_58 rfl rfl rfl ?_
              refine jr_bipush (nI 10) 61 dX10_face_59 rfl rfl ?_
              refine jr_idiv 62 dX10_face_61 rfl (by decide) ?_
              rw [ediv]
              refine jr_iast rfl rfl (by omega) 63 dX10_face_62 rfl ?_
              refine jr_aload_n 0 64 dX10_face_63 rfl rfl rfl ?_
              refine gf_X10_16 67 dX10_face_64 rfl rfl rfl rfl ?_
              refine jr_aload_n 0 68 dX10_face_67 rfl rfl rfl ?_
              refine gf_X10_105 71 dX10_face_68 rfl rfl rfl rfl ?_
              refine jr_topi (y := nI nf) hR.1 ?_
              refine jr_iload_n 1 72 dX10_face_71 rfl rfl rfl ?_
              refine jr_bipush (nI 10) 74 dX10_face_72 rfl rfl ?_
              refine jr_irem 75 dX10_face_74 rfl (by decide) ?_
              rw [erem]
              refine jr_iast rfl rfl (by omega) 76 dX10_face_75 rfl ?_
              refine jr_aload_n 0 77 dX10_face_76 rfl rfl rfl ?_
              refine gf_X10_19 80 dX10_face_77 rfl rfl rfl rfl ?_
              refine jr_aload_n 0 81 dX10_face_80 rfl rfl rfl ?_
              refine gf_X10_105 84 dX10_face_81 rfl rfl rfl rfl ?_
              refine jr_topi (y := nI nf) hR.1 ?_
              refine jr_iload_n 2 85 dX10_face_84 rfl rfl rfl ?_
              refine jr_iast rfl rfl (by omega) 86 dX10_face_85 rfl ?_
              refine jr_aload_n 0 87 dX10_face_86 rfl rfl rfl ?_
              refine gf_X10_22 90 dX10_face_87 rfl rfl rfl rfl ?_
              refine jr_aload_n 0 91 dX10_face_90 rfl rfl rfl ?_
              refine gf_X10_105 94 dX10_face_91 rfl rfl rfl rfl ?_
              refine jr_topi (y := nI nf) hR.1 ?_
              refine jr_iload_n 3 95 dX10_face_94 rfl rfl rfl ?_
              refine jr_iast rfl rfl (by omega) 96 dX10_face_95 rfl ?_
              refine jr_aload_n 0 97 dX10_face_96 rfl rfl rfl ?_
              refine jr_dup 98 dX10_face_97 rfl rfl ?_
              refine gf_X10_105 101 dX10_face_98 rfl rfl rfl rfl ?_
              refine jr_topi (y := nI nf) hR.1 ?_
              refine jr_iconst (nI 1) 102 dX10_face_101 rfl rfl ?_
              refine jr_iadd 103 dX10_face_102 rfl ?_
              rw [nI_add]
              refine pf_X10_105 106 dX10_face_103 rfl rfl rfl rfl ?_
              refine jr_aload_n 0 107 dX10_face_106 rfl rfl rfl ?_
              refine gf_X10_105 110 dX10_face_107 rfl rfl rfl rfl ?_
              refine jr_topi (y := nI (nf + 1)) rfl ?_
              refine jr_iconst (nI 1) 111 dX10_face_110 rfl rfl ?_
              refine jr_isub 112 dX10_face_111 rfl ?_
              rw [show nI (nf + 1) - nI 1 = nI nf by rw [pk_sub (by omega)]; rfl]
              refine jr_ireturn dX10_face_112 rfl rfl ?_
              exact (hf _ ⟨rfl, fun x hx => ⟨kup_x (g := σ 48) hx (fun q => (hR.2 x q).1), kup_x (g := σ 49) hx (fun q => (hR.2 x q).2.1), kup_x (g := σ 50) hx (fun q => (hR.2 x q).2.2.1), kup_x (g := σ 51) hx (fun q => (hR.2 x q).2.2.2)⟩⟩ ⟨jr_eqx_tr (jr_eqx_tr (jr_eqx_tr (jr_eqx_tr (jr_eqx_up _ _ _ (by decide)) (jr_eqx_up _ _ _ (by decide))) (jr_eqx_up _ _ _ (by decide))) (jr_eqx_up _ _ _ (by decide))) (jr_eqx_up _ _ _ (by decide)), fun k hk => (show upd (σ 46) 1 _ k = σ 46 k from pk_un hk)⟩)
theorem z3_lt {z x : Nat} (hz : z ≤ 40) (hx : x < 2 ^ 31) (h : z < x + 3) : ¬ nI x ≤ nI z - nI 3 := by
  rcases Nat.lt_or_ge z 3 with q | q
  · have e : nI z - nI 3 < 0 := by rcases (by omega : z = 0 ∨ z = 1 ∨ z = 2) with rfl | rfl | rfl <;> decide
    exact fun y => absurd (Int32.lt_of_le_of_lt y e) (nI_pos hx)
  · rw [pk_sub (by omega)]
    exact nI_ge (by omega) hx
theorem z3_le {z x : Nat} (hz : z ≤ 40) (h : x + 3 ≤ z) : nI x ≤ nI z - nI 3 := by
  rw [pk_sub (by omega)]
  exact nI_le (by omega) (by omega)
theorem faces_both {j z p N : Nat} {C : Nat → Int32} (hj : j < 4) (hz : z ≤ 40) (hp : p ≤ 40) (hN : N ≤ 5) : ∀ (m i cc nf : Nat) (kd mo wa se : Nat → Nat), i + m = N → fx_B nf kd mo wa se → ∃ (r : Int32) (nf' : Nat) (kd' mo' wa' se' : Nat → Nat), fx_B nf' kd' mo' wa' se' ∧ fx_E nf kd mo nf' kd' mo' ∧ (∀ {G : jr_G} {d : Nat} {σ : jr_Sg} {k : Value → jr_Sg → Prop} {b : Int32} (x8 : Option Value), fx_C nf kd mo wa se σ → σ 44 j = nI z → (∀ q, q < z → σ 45 (40 * j + q) = C q) → (∀ σ' : jr_Sg, fx_C nf' kd' mo' wa' se' σ' → fr_C σ σ' → k (.int r) σ') → jr_R G (d + 19) mi_X9_facesBy (jr_k k) 80 [some (.ref 0), some (.int (nI j)), some (.int b), some (.int (nI p)), some (.int (nI N)), some (.int 1), some (.int (nI cc)), some (.int (nI i)), x8] [] σ) ∧ (∀ {G : jr_G} {d : Nat} {σ : jr_Sg} {k : Value → jr_Sg → Prop} {b : Int32} (x7 x8 : Option Value), fx_R nf kd mo wa se σ → σ 58 j = nI z → (∀ q, q < z → σ 59 (40 * j + q) = C q) → (∀ σ' : jr_Sg, fx_R nf' kd' mo' wa' se' σ' → fr_R σ σ' → k (.int r) σ') → jr_R G (d + 20) mi_X10_facesBy (jr_k k) 63 [some (.ref 46), some (.int (nI j)), some (.int b), some (.int (nI p)), some (.int (nI N)), some (.int (nI cc)), some (.int (nI i)), x7, x8] [] σ) := by
  intro m
  induction m with
  | zero =>
    intro i cc nf kd mo wa se hi hB
    have ei : i = N := hi
    subst ei
    refine ⟨nI cc, nf, kd, mo, wa, se, hB, fxE_rf _ _ _, ?_, ?_⟩
    · intro G d σ k b x8 hC ez hq hf
      refine jr_iload 82 dX9_facesBy_80 rfl rfl ?_
      refine jr_iload 84 dX9_facesBy_82 rfl rfl ?_
      refine jr_icmp_ge 166 87 dX9_facesBy_84 rfl rfl (fun q84 => ?_) (fun q => absurd (Int32.le_refl _) q)
      refine jr_iload 168 dX9_facesBy_166 rfl rfl ?_
      refine jr_ireturn dX9_facesBy_168 rfl rfl ?_
      exact hf σ hC (frC_rf σ)
    · intro G d σ k b x7 x8 hR ez hq hf
      refine jr_iload 65 dX10_facesBy_63 rfl rfl ?_
      refine jr_iload 67 dX10_facesBy_65 rfl rfl ?_
      refine jr_icmp_ge 161 70 dX10_facesBy_67 rfl rfl (fun q67 => ?_) (fun q => absurd (Int32.le_refl _) q)
      refine jr_iload 163 dX10_facesBy_161 rfl rfl ?_
      refine jr_ireturn dX10_facesBy_163 rfl rfl ?_
      exact hf σ hR (frR_rf σ)
  | succ m ih =>
    intro i cc nf kd mo wa se hi hB
    have e3 : nI 3 * (nI i + nI 1) = nI (3 * (i + 1)) := by rw [nI_add, pk_mul]
    have e4 : nI p + nI 3 * nI i = nI (p + 3 * i) := by rw [pk_mul, nI_add]
    have e5 : nI 40 * nI j + nI (p + 3 * i) = nI (40 * j + (p + 3 * i)) := by rw [pk_mul, nI_add]
    by_cases hfit : z < p + 3 * (i + 1)
    · refine ⟨-12, nf, kd, mo, wa, se, hB, fxE_rf _ _ _, ?_, ?_⟩
      · intro G d σ k b x8 hC ez hq hf
        refine jr_iload 82 dX9_facesBy_80 rfl rfl ?_
        refine jr_iload 84 dX9_facesBy_82 rfl rfl ?_
        refine jr_icmp_ge 166 87 dX9_facesBy_84 rfl rfl (fun q => absurd q (nI_ge (by omega) (by omega))) (fun q84 => ?_)
        refine jr_aload_n 0 88 dX9_facesBy_87 rfl rfl rfl ?_
        refine gf_X9_57 91 dX9_facesBy_88 rfl rfl rfl rfl ?_
        refine jr_iload_n 1 92 dX9_facesBy_91 rfl rfl rfl ?_
        refine jr_iload_n 3 93 dX9_facesBy_92 rfl rfl rfl ?_
        refine jr_iconst (nI 3) 94 dX9_facesBy_93 rfl rfl ?_
        refine jr_iload 96 dX9_facesBy_94 rfl rfl ?_
        refine jr_iconst (nI 1) 97 dX9_facesBy_96 rfl rfl ?_
        refine jr_iadd 98 dX9_facesBy_97 rfl ?_
        refine jr_imul 99 dX9_facesBy_98 rfl ?_
        rw [e3]
        refine cs_X9_315 102 dX9_facesBy_99 rfl rfl rfl (Nat.le_of_ble_eq_true rfl) (wp_holds hj (fun i1 i2 i3 => absurd i3 (hold_no ez (by omega) (by omega) (by omega) hfit)) (fun _ => ?_))
        refine jr_if_ne 108 105 dX9_facesBy_102 rfl rfl (fun q => absurd (by decide) q) (fun q102 => ?_)
        refine jr_bipush ((-12)) 107 dX9_facesBy_105 rfl rfl ?_
        refine jr_ireturn dX9_facesBy_107 rfl rfl ?_
        exact hf σ hC (frC_rf σ)
      · intro G d σ k b x7 x8 hR ez hq hf
        refine jr_iload 65 dX10_facesBy_63 rfl rfl ?_
        refine jr_iload 67 dX10_facesBy_65 rfl rfl ?_
        refine jr_icmp_ge 161 70 dX10_facesBy_67 rfl rfl (fun q => absurd q (nI_ge (by omega) (by omega))) (fun q67 => ?_)
        refine jr_iload_n 3 71 dX10_facesBy_70 rfl rfl rfl ?_
        refine jr_iconst (nI 3) 72 dX10_facesBy_71 rfl rfl ?_
        refine jr_iload 74 dX10_facesBy_72 rfl rfl ?_
        refine jr_imul 75 dX10_facesBy_74 rfl ?_
        refine jr_iadd 76 dX10_facesBy_75 rfl ?_
        rw [e4]
        refine jr_istore (L' := [_, _, _, _, _, _, _, _, _]) 78 dX10_facesBy_76 rfl (by decide) rfl ?_
        refine jr_iload_n 3 79 dX10_facesBy_78 rfl rfl rfl ?_
        refine jr_if_lt 101 82 dX10_facesBy_79 rfl rfl (fun q => absurd q (nI_pos (by omega))) (fun q79 => ?_)
        refine jr_iload 84 dX10_facesBy_82 rfl rfl ?_
        refine jr_iload_n 3 85 dX10_facesBy_84 rfl rfl rfl ?_
        refine jr_icmp_lt 101 88 dX10_facesBy_85 rfl rfl (fun q => absurd q (nI_nlt (by omega) (by omega))) (fun q85 => ?_)
        refine jr_iload 90 dX10_facesBy_88 rfl rfl ?_
        refine jr_aload_n 0 91 dX10_facesBy_90 rfl rfl rfl ?_
        refine gf_X10_43 94 dX10_facesBy_91 rfl rfl rfl rfl ?_
        refine jr_iload_n 1 95 dX10_facesBy_94 rfl rfl rfl ?_
        refine jr_iald rfl rfl (by omega) 96 dX10_facesBy_95 rfl ?_
        rw [ez]
        refine jr_iconst (nI 3) 97 dX10_facesBy_96 rfl rfl ?_
        refine jr_isub 98 dX10_facesBy_97 rfl ?_
        refine jr_icmp_le 104 101 dX10_facesBy_98 rfl rfl (fun q => absurd q (z3_lt hz (by omega) (by omega))) (fun q98 => ?_)
        refine jr_bipush ((-12)) 103 dX10_facesBy_101 rfl rfl ?_
        refine jr_ireturn dX10_facesBy_103 rfl rfl ?_
        exact hf σ hR (frR_rf σ)
    · obtain ⟨r0, nf1, kd1, mo1, wa1, se1, hB1, hE1, fC, fR⟩ := face_both hB (C (p + 3 * i)) (C (p + 3 * i + 1)) (C (p + 3 * i + 2))
      by_cases hr : r0 < 0
      · obtain ⟨r, nf2, kd2, mo2, wa2, se2, hB2, hE2, lC, lR⟩ := ih (i + 1) cc nf1 kd1 mo1 wa1 se1 (by omega) hB1
        refine ⟨r, nf2, kd2, mo2, wa2, se2, hB2, fxE_tr hE1 hE2, ?_, ?_⟩
        · intro G d σ k b x8 hC ez hq hf
          refine jr_iload 82 dX9_facesBy_80 rfl rfl ?_
          refine jr_iload 84 dX9_facesBy_82 rfl rfl ?_
          refine jr_icmp_ge 166 87 dX9_facesBy_84 rfl rfl (fun q => absurd q (nI_ge (by omega) (by omega))) (fun q84 => ?_)
          refine jr_aload_n 0 88 dX9_facesBy_87 rfl rfl rfl ?_
          refine gf_X9_57 91 dX9_facesBy_88 rfl rfl rfl rfl ?_
          refine jr_iload_n 1 92 dX9_facesBy_91 rfl rfl rfl ?_
          refine jr_iload_n 3 93 dX9_facesBy_92 rfl rfl rfl ?_
          refine jr_iconst (nI 3) 94 dX9_facesBy_93 rfl rfl ?_
          refine jr_iload 96 dX9_facesBy_94 rfl rfl ?_
          refine jr_iconst (nI 1) 97 dX9_facesBy_96 rfl rfl ?_
          refine jr_iadd 98 dX9_facesBy_97 rfl ?_
          refine jr_imul 99 dX9_facesBy_98 rfl ?_
          rw [e3]
          refine cs_X9_315 102 dX9_facesBy_99 rfl rfl rfl (Nat.le_of_ble_eq_true rfl) (wp_holdsT (n := 3 * (i + 1)) hj ez hz (by omega) ?_)
          refine jr_if_ne 108 105 dX9_facesBy_102 rfl rfl (fun q102 => ?_) (fun q => absurd q (by decide))
          refine jr_iload_n 3 109 dX9_facesBy_108 rfl rfl rfl ?_
          refine jr_iconst (nI 3) 110 dX9_facesBy_109 rfl rfl ?_
          refine jr_iload 112 dX9_facesBy_110 rfl rfl ?_
          refine jr_imul 113 dX9_facesBy_112 rfl ?_
          refine jr_iadd 114 dX9_facesBy_113 rfl ?_
          rw [e4]
          refine jr_istore (L' := [_, _, _, _, _, _, _, _, _]) 116 dX9_facesBy_114 rfl (by decide) rfl ?_
          refine jr_aload_n 0 117 dX9_facesBy_116 rfl rfl rfl ?_
          refine jr_aload_n 0 118 dX9_facesBy_117 rfl rfl rfl ?_
          refine gf_X9_57 121 dX9_facesBy_118 rfl rfl rfl rfl ?_
          refine jr_iload_n 1 122 dX9_facesBy_121 rfl rfl rfl ?_
          refine jr_iload 124 dX9_facesBy_122 rfl rfl ?_
          refine cs_X9_324 127 dX9_facesBy_124 rfl rfl rfl (Nat.le_of_ble_eq_true rfl) (wp_get (i := p + 3 * i) (z := z) hj ez hz (by omega) ?_)
          rw [show σ 45 (40 * j + (p + 3 * i)) = C (p + 3 * i) from hq _ (by omega)]
          refine jr_aload_n 0 128 dX9_facesBy_127 rfl rfl rfl ?_
          refine gf_X9_57 131 dX9_facesBy_128 rfl rfl rfl rfl ?_
          refine jr_iload_n 1 132 dX9_facesBy_131 rfl rfl rfl ?_
          refine jr_iload 134 dX9_facesBy_132 rfl rfl ?_
          refine jr_iconst (nI 1) 135 dX9_facesBy_134 rfl rfl ?_
          refine jr_iadd 136 dX9_facesBy_135 rfl ?_
          rw [nI_add]
          refine cs_X9_324 139 dX9_facesBy_136 rfl rfl rfl (Nat.le_of_ble_eq_true rfl) (wp_get (i := p + 3 * i + 1) (z := z) hj ez hz (by omega) ?_)
          rw [show σ 45 (40 * j + (p + 3 * i + 1)) = C (p + 3 * i + 1) from hq _ (by omega)]
          refine jr_aload_n 0 140 dX9_facesBy_139 rfl rfl rfl ?_
          refine gf_X9_57 143 dX9_facesBy_140 rfl rfl rfl rfl ?_
          refine jr_iload_n 1 144 dX9_facesBy_143 rfl rfl rfl ?_
          refine jr_iload 146 dX9_facesBy_144 rfl rfl ?_
          refine jr_iconst (nI 2) 147 dX9_facesBy_146 rfl rfl ?_
          refine jr_iadd 148 dX9_facesBy_147 rfl ?_
          rw [nI_add]
          refine cs_X9_324 151 dX9_facesBy_148 rfl rfl rfl (Nat.le_of_ble_eq_true rfl) (wp_get (i := p + 3 * i + 2) (z := z) hj ez hz (by omega) ?_)
          rw [show σ 45 (40 * j + (p + 3 * i + 2)) = C (p + 3 * i + 2) from hq _ (by omega)]
          refine cs_X9_327 154 dX9_facesBy_151 rfl rfl rfl (Nat.le_of_ble_eq_true rfl) (fC hC (fun σ1 hC1 g1 => ?_))
          refine jr_if_lt 160 157 dX9_facesBy_154 rfl rfl (fun q154 => ?_) (fun q => absurd hr q)
          refine jr_iinc (v := nI (i + 1)) (L' := [_, _, _, _, _, _, _, _, _]) 163 dX9_facesBy_160 rfl rfl (nI_1 i) (by decide) rfl ?_
          refine jr_goto 80 dX9_facesBy_163 rfl ?_
          exact lC _ hC1 (by rw [g1.1 44 (by decide)]; exact ez) (fun q hq2 => by rw [g1.1 45 (by decide)]; exact hq q hq2) (fun σ2 hC2 g2 => hf σ2 hC2 (frC_tr g1 g2))
        · intro G d σ k b x7 x8 hR ez hq hf
          refine jr_iload 65 dX10_facesBy_63 rfl rfl ?_
          refine jr_iload 67 dX10_facesBy_65 rfl rfl ?_
          refine jr_icmp_ge 161 70 dX10_facesBy_67 rfl rfl (fun q => absurd q (nI_ge (by omega) (by omega))) (fun q67 => ?_)
          refine jr_iload_n 3 71 dX10_facesBy_70 rfl rfl rfl ?_
          refine jr_iconst (nI 3) 72 dX10_facesBy_71 rfl rfl ?_
          refine jr_iload 74 dX10_facesBy_72 rfl rfl ?_
          refine jr_imul 75 dX10_facesBy_74 rfl ?_
          refine jr_iadd 76 dX10_facesBy_75 rfl ?_
          rw [e4]
          refine jr_istore (L' := [_, _, _, _, _, _, _, _, _]) 78 dX10_facesBy_76 rfl (by decide) rfl ?_
          refine jr_iload_n 3 79 dX10_facesBy_78 rfl rfl rfl ?_
          refine jr_if_lt 101 82 dX10_facesBy_79 rfl rfl (fun q => absurd q (nI_pos (by omega))) (fun q79 => ?_)
          refine jr_iload 84 dX10_facesBy_82 rfl rfl ?_
          refine jr_iload_n 3 85 dX10_facesBy_84 rfl rfl rfl ?_
          refine jr_icmp_lt 101 88 dX10_facesBy_85 rfl rfl (fun q => absurd q (nI_nlt (by omega) (by omega))) (fun q85 => ?_)
          refine jr_iload 90 dX10_facesBy_88 rfl rfl ?_
          refine jr_aload_n 0 91 dX10_facesBy_90 rfl rfl rfl ?_
          refine gf_X10_43 94 dX10_facesBy_91 rfl rfl rfl rfl ?_
          refine jr_iload_n 1 95 dX10_facesBy_94 rfl rfl rfl ?_
          refine jr_iald rfl rfl (by omega) 96 dX10_facesBy_95 rfl ?_
          rw [ez]
          refine jr_iconst (nI 3) 97 dX10_facesBy_96 rfl rfl ?_
          refine jr_isub 98 dX10_facesBy_97 rfl ?_
          refine jr_icmp_le 104 101 dX10_facesBy_98 rfl rfl (fun q98 => ?_) (fun q => absurd (z3_le hz (by omega)) q)
          refine jr_bipush (nI 40) 106 dX10_facesBy_104 rfl rfl ?_
          refine jr_iload_n 1 107 dX10_facesBy_106 rfl rfl rfl ?_
          refine jr_imul 108 dX10_facesBy_107 rfl ?_
          refine jr_iload 110 dX10_facesBy_108 rfl rfl ?_
          refine jr_iadd 111 dX10_facesBy_110 rfl ?_
          rw [e5]
          refine jr_istore (L' := [_, _, _, _, _, _, _, _, _]) 113 dX10_facesBy_111 rfl (by decide) rfl ?_
          refine jr_iload 115 dX10_facesBy_113 rfl rfl ?_
          refine jr_aload_n 0 116 dX10_facesBy_115 rfl rfl rfl ?_
          refine jr_aload_n 0 117 dX10_facesBy_116 rfl rfl rfl ?_
          refine gf_X10_46 120 dX10_facesBy_117 rfl rfl rfl rfl ?_
          refine jr_iload 122 dX10_facesBy_120 rfl rfl ?_
          refine jr_iald rfl rfl (by omega) 123 dX10_facesBy_122 rfl ?_
          rw [show σ 59 (40 * j + (p + 3 * i)) = C (p + 3 * i) from hq (p + 3 * i) (by omega)]
          refine jr_aload_n 0 124 dX10_facesBy_123 rfl rfl rfl ?_
          refine gf_X10_46 127 dX10_facesBy_124 rfl rfl rfl rfl ?_
          refine jr_iload 129 dX10_facesBy_127 rfl rfl ?_
          refine jr_iconst (nI 1) 130 dX10_facesBy_129 rfl rfl ?_
          refine jr_iadd 131 dX10_facesBy_130 rfl ?_
          refine jr_iald rfl (nI_add _ _) (by omega) 132 dX10_facesBy_131 rfl ?_
          rw [show σ 59 (40 * j + (p + 3 * i) + 1) = C (p + 3 * i + 1) from hq (p + 3 * i + 1) (by omega)]
          refine jr_aload_n 0 133 dX10_facesBy_132 rfl rfl rfl ?_
          refine gf_X10_46 136 dX10_facesBy_133 rfl rfl rfl rfl ?_
          refine jr_iload 138 dX10_facesBy_136 rfl rfl ?_
          refine jr_iconst (nI 2) 139 dX10_facesBy_138 rfl rfl ?_
          refine jr_iadd 140 dX10_facesBy_139 rfl ?_
          refine jr_iald rfl (nI_add _ _) (by omega) 141 dX10_facesBy_140 rfl ?_
          rw [show σ 59 (40 * j + (p + 3 * i) + 2) = C (p + 3 * i + 2) from hq (p + 3 * i + 2) (by omega)]
          refine cs_X10_351 144 dX10_facesBy_141 rfl rfl rfl (Nat.le_of_ble_eq_true rfl) (fR hR (fun σ1 hR1 g1 => ?_))
          refine jr_if_lt 151 147 dX10_facesBy_144 rfl rfl (fun q144 => ?_) (fun q => absurd hr q)
          refine jr_iconst (0) 152 dX10_facesBy_151 rfl rfl ?_
          refine jr_iadd 153 dX10_facesBy_152 rfl ?_
          rw [show nI cc + 0 = nI cc from Int32.add_zero _]
          refine jr_istore (L' := [_, _, _, _, _, _, _, _, _]) 155 dX10_facesBy_153 rfl (by decide) rfl ?_
          refine jr_iinc (v := nI (i + 1)) (L' := [_, _, _, _, _, _, _, _, _]) 158 dX10_facesBy_155 rfl rfl (nI_1 i) (by decide) rfl ?_
          refine jr_goto 63 dX10_facesBy_158 rfl ?_
          exact lR _ _ hR1 (by rw [g1.1 58 (by decide)]; exact ez) (fun q hq2 => by rw [g1.1 59 (by decide)]; exact hq q hq2) (fun σ2 hR2 g2 => hf σ2 hR2 (frR_tr g1 g2))
      · obtain ⟨r, nf2, kd2, mo2, wa2, se2, hB2, hE2, lC, lR⟩ := ih (i + 1) (cc + 1) nf1 kd1 mo1 wa1 se1 (by omega) hB1
        refine ⟨r, nf2, kd2, mo2, wa2, se2, hB2, fxE_tr hE1 hE2, ?_, ?_⟩
        · intro G d σ k b x8 hC ez hq hf
          refine jr_iload 82 dX9_facesBy_80 rfl rfl ?_
          refine jr_iload 84 dX9_facesBy_82 rfl rfl ?_
          refine jr_icmp_ge 166 87 dX9_facesBy_84 rfl rfl (fun q => absurd q (nI_ge (by omega) (by omega))) (fun q84 => ?_)
          refine jr_aload_n 0 88 dX9_facesBy_87 rfl rfl rfl ?_
          refine gf_X9_57 91 dX9_facesBy_88 rfl rfl rfl rfl ?_
          refine jr_iload_n 1 92 dX9_facesBy_91 rfl rfl rfl ?_
          refine jr_iload_n 3 93 dX9_facesBy_92 rfl rfl rfl ?_
          refine jr_iconst (nI 3) 94 dX9_facesBy_93 rfl rfl ?_
          refine jr_iload 96 dX9_facesBy_94 rfl rfl ?_
          refine jr_iconst (nI 1) 97 dX9_facesBy_96 rfl rfl ?_
          refine jr_iadd 98 dX9_facesBy_97 rfl ?_
          refine jr_imul 99 dX9_facesBy_98 rfl ?_
          rw [e3]
          refine cs_X9_315 102 dX9_facesBy_99 rfl rfl rfl (Nat.le_of_ble_eq_true rfl) (wp_holdsT (n := 3 * (i + 1)) hj ez hz (by omega) ?_)
          refine jr_if_ne 108 105 dX9_facesBy_102 rfl rfl (fun q102 => ?_) (fun q => absurd q (by decide))
          refine jr_iload_n 3 109 dX9_facesBy_108 rfl rfl rfl ?_
          refine jr_iconst (nI 3) 110 dX9_facesBy_109 rfl rfl ?_
          refine jr_iload 112 dX9_facesBy_110 rfl rfl ?_
          refine jr_imul 113 dX9_facesBy_112 rfl ?_
          refine jr_iadd 114 dX9_facesBy_113 rfl ?_
          rw [e4]
          refine jr_istore (L' := [_, _, _, _, _, _, _, _, _]) 116 dX9_facesBy_114 rfl (by decide) rfl ?_
          refine jr_aload_n 0 117 dX9_facesBy_116 rfl rfl rfl ?_
          refine jr_aload_n 0 118 dX9_facesBy_117 rfl rfl rfl ?_
          refine gf_X9_57 121 dX9_facesBy_118 rfl rfl rfl rfl ?_
          refine jr_iload_n 1 122 dX9_facesBy_121 rfl rfl rfl ?_
          refine jr_iload 124 dX9_facesBy_122 rfl rfl ?_
          refine cs_X9_324 127 dX9_facesBy_124 rfl rfl rfl (Nat.le_of_ble_eq_true rfl) (wp_get (i := p + 3 * i) (z := z) hj ez hz (by omega) ?_)
          rw [show σ 45 (40 * j + (p + 3 * i)) = C (p + 3 * i) from hq _ (by omega)]
          refine jr_aload_n 0 128 dX9_facesBy_127 rfl rfl rfl ?_
          refine gf_X9_57 131 dX9_facesBy_128 rfl rfl rfl rfl ?_
          refine jr_iload_n 1 132 dX9_facesBy_131 rfl rfl rfl ?_
          refine jr_iload 134 dX9_facesBy_132 rfl rfl ?_
          refine jr_iconst (nI 1) 135 dX9_facesBy_134 rfl rfl ?_
          refine jr_iadd 136 dX9_facesBy_135 rfl ?_
          rw [nI_add]
          refine cs_X9_324 139 dX9_facesBy_136 rfl rfl rfl (Nat.le_of_ble_eq_true rfl) (wp_get (i := p + 3 * i + 1) (z := z) hj ez hz (by omega) ?_)
          rw [show σ 45 (40 * j + (p + 3 * i + 1)) = C (p + 3 * i + 1) from hq _ (by omega)]
          refine jr_aload_n 0 140 dX9_facesBy_139 rfl rfl rfl ?_
          refine gf_X9_57 143 dX9_facesBy_140 rfl rfl rfl rfl ?_
          refine jr_iload_n 1 144 dX9_facesBy_143 rfl rfl rfl ?_
          refine jr_iload 146 dX9_facesBy_144 rfl rfl ?_
          refine jr_iconst (nI 2) 147 dX9_facesBy_146 rfl rfl ?_
          refine jr_iadd 148 dX9_facesBy_147 rfl ?_
          rw [nI_add]
          refine cs_X9_324 151 dX9_facesBy_148 rfl rfl rfl (Nat.le_of_ble_eq_true rfl) (wp_get (i := p + 3 * i + 2) (z := z) hj ez hz (by omega) ?_)
          rw [show σ 45 (40 * j + (p + 3 * i + 2)) = C (p + 3 * i + 2) from hq _ (by omega)]
          refine cs_X9_327 154 dX9_facesBy_151 rfl rfl rfl (Nat.le_of_ble_eq_true rfl) (fC hC (fun σ1 hC1 g1 => ?_))
          refine jr_if_lt 160 157 dX9_facesBy_154 rfl rfl (fun q => absurd q hr) (fun q154 => ?_)
          refine jr_iinc (v := nI (cc + 1)) (L' := [_, _, _, _, _, _, _, _, _]) 160 dX9_facesBy_157 rfl rfl (nI_1 cc) (by decide) rfl ?_
          refine jr_iinc (v := nI (i + 1)) (L' := [_, _, _, _, _, _, _, _, _]) 163 dX9_facesBy_160 rfl rfl (nI_1 i) (by decide) rfl ?_
          refine jr_goto 80 dX9_facesBy_163 rfl ?_
          exact lC _ hC1 (by rw [g1.1 44 (by decide)]; exact ez) (fun q hq2 => by rw [g1.1 45 (by decide)]; exact hq q hq2) (fun σ2 hC2 g2 => hf σ2 hC2 (frC_tr g1 g2))
        · intro G d σ k b x7 x8 hR ez hq hf
          refine jr_iload 65 dX10_facesBy_63 rfl rfl ?_
          refine jr_iload 67 dX10_facesBy_65 rfl rfl ?_
          refine jr_icmp_ge 161 70 dX10_facesBy_67 rfl rfl (fun q => absurd q (nI_ge (by omega) (by omega))) (fun q67 => ?_)
          refine jr_iload_n 3 71 dX10_facesBy_70 rfl rfl rfl ?_
          refine jr_iconst (nI 3) 72 dX10_facesBy_71 rfl rfl ?_
          refine jr_iload 74 dX10_facesBy_72 rfl rfl ?_
          refine jr_imul 75 dX10_facesBy_74 rfl ?_
          refine jr_iadd 76 dX10_facesBy_75 rfl ?_
          rw [e4]
          refine jr_istore (L' := [_, _, _, _, _, _, _, _, _]) 78 dX10_facesBy_76 rfl (by decide) rfl ?_
          refine jr_iload_n 3 79 dX10_facesBy_78 rfl rfl rfl ?_
          refine jr_if_lt 101 82 dX10_facesBy_79 rfl rfl (fun q => absurd q (nI_pos (by omega))) (fun q79 => ?_)
          refine jr_iload 84 dX10_facesBy_82 rfl rfl ?_
          refine jr_iload_n 3 85 dX10_facesBy_84 rfl rfl rfl ?_
          refine jr_icmp_lt 101 88 dX10_facesBy_85 rfl rfl (fun q => absurd q (nI_nlt (by omega) (by omega))) (fun q85 => ?_)
          refine jr_iload 90 dX10_facesBy_88 rfl rfl ?_
          refine jr_aload_n 0 91 dX10_facesBy_90 rfl rfl rfl ?_
          refine gf_X10_43 94 dX10_facesBy_91 rfl rfl rfl rfl ?_
          refine jr_iload_n 1 95 dX10_facesBy_94 rfl rfl rfl ?_
          refine jr_iald rfl rfl (by omega) 96 dX10_facesBy_95 rfl ?_
          rw [ez]
          refine jr_iconst (nI 3) 97 dX10_facesBy_96 rfl rfl ?_
          refine jr_isub 98 dX10_facesBy_97 rfl ?_
          refine jr_icmp_le 104 101 dX10_facesBy_98 rfl rfl (fun q98 => ?_) (fun q => absurd (z3_le hz (by omega)) q)
          refine jr_bipush (nI 40) 106 dX10_facesBy_104 rfl rfl ?_
          refine jr_iload_n 1 107 dX10_facesBy_106 rfl rfl rfl ?_
          refine jr_imul 108 dX10_facesBy_107 rfl ?_
          refine jr_iload 110 dX10_facesBy_108 rfl rfl ?_
          refine jr_iadd 111 dX10_facesBy_110 rfl ?_
          rw [e5]
          refine jr_istore (L' := [_, _, _, _, _, _, _, _, _]) 113 dX10_facesBy_111 rfl (by decide) rfl ?_
          refine jr_iload 115 dX10_facesBy_113 rfl rfl ?_
          refine jr_aload_n 0 116 dX10_facesBy_115 rfl rfl rfl ?_
          refine jr_aload_n 0 117 dX10_facesBy_116 rfl rfl rfl ?_
          refine gf_X10_46 120 dX10_facesBy_117 rfl rfl rfl rfl ?_
          refine jr_iload 122 dX10_facesBy_120 rfl rfl ?_
          refine jr_iald rfl rfl (by omega) 123 dX10_facesBy_122 rfl ?_
          rw [show σ 59 (40 * j + (p + 3 * i)) = C (p + 3 * i) from hq (p + 3 * i) (by omega)]
          refine jr_aload_n 0 124 dX10_facesBy_123 rfl rfl rfl ?_
          refine gf_X10_46 127 dX10_facesBy_124 rfl rfl rfl rfl ?_
          refine jr_iload 129 dX10_facesBy_127 rfl rfl ?_
          refine jr_iconst (nI 1) 130 dX10_facesBy_129 rfl rfl ?_
          refine jr_iadd 131 dX10_facesBy_130 rfl ?_
          refine jr_iald rfl (nI_add _ _) (by omega) 132 dX10_facesBy_131 rfl ?_
          rw [show σ 59 (40 * j + (p + 3 * i) + 1) = C (p + 3 * i + 1) from hq (p + 3 * i + 1) (by omega)]
          refine jr_aload_n 0 133 dX10_facesBy_132 rfl rfl rfl ?_
          refine gf_X10_46 136 dX10_facesBy_133 rfl rfl rfl rfl ?_
          refine jr_iload 138 dX10_facesBy_136 rfl rfl ?_
          refine jr_iconst (nI 2) 139 dX10_facesBy_138 rfl rfl ?_
          refine jr_iadd 140 dX10_facesBy_139 rfl ?_
          refine jr_iald rfl (nI_add _ _) (by omega) 141 dX10_facesBy_140 rfl ?_
          rw [show σ 59 (40 * j + (p + 3 * i) + 2) = C (p + 3 * i + 2) from hq (p + 3 * i + 2) (by omega)]
          refine cs_X10_351 144 dX10_facesBy_141 rfl rfl rfl (Nat.le_of_ble_eq_true rfl) (fR hR (fun σ1 hR1 g1 => ?_))
          refine jr_if_lt 151 147 dX10_facesBy_144 rfl rfl (fun q => absurd q hr) (fun q144 => ?_)
          refine jr_iconst (1) 148 dX10_facesBy_147 rfl rfl ?_
          refine jr_goto 152 dX10_facesBy_148 rfl ?_
          refine jr_iadd 153 dX10_facesBy_152 rfl ?_
          rw [show nI cc + 1 = nI (cc + 1) from nI_1 cc]
          refine jr_istore (L' := [_, _, _, _, _, _, _, _, _]) 155 dX10_facesBy_153 rfl (by decide) rfl ?_
          refine jr_iinc (v := nI (i + 1)) (L' := [_, _, _, _, _, _, _, _, _]) 158 dX10_facesBy_155 rfl rfl (nI_1 i) (by decide) rfl ?_
          refine jr_goto 63 dX10_facesBy_158 rfl ?_
          exact lR _ _ hR1 (by rw [g1.1 58 (by decide)]; exact ez) (fun q hq2 => by rw [g1.1 59 (by decide)]; exact hq q hq2) (fun σ2 hR2 g2 => hf σ2 hR2 (frR_tr g1 g2))
theorem iv_faces {T : Nat → Nat → List Nat} {n nf nc nf' : Nat} {kd se kd' mo' wa' se' : Nat → Nat} {lw tp : Nat} {σ σ1 σ2 : jr_Sg} (h : iv T n nf nc kd se lw tp σ) (hB : fx_B nf' kd' mo' wa' se') (hle : nf ≤ nf') (hk : ∀ f, f < nf → σ1 16 f = σ 16 f ∧ σ1 17 f = σ 17 f) (hC : fx_C nf' kd' mo' wa' se' σ1) (gC : fr_C σ σ1) (hR : fx_R nf' kd' mo' wa' se' σ2) (gR : fr_R σ1 σ2) : iv T n nf' nc kd' se' lw tp σ2 := by
  obtain ⟨-, -, ⟨b1, b2, b3, b4, b5, b6, b7, b8⟩, -, a5, -, -, -⟩ := id h
  have C2 : ∀ a, a ∉ [46, 48, 49, 50, 51] → σ2 a = σ1 a := gR.1
  have C1 : ∀ a, a ∉ [15, 16, 17, 18, 19] → σ1 a = σ a := gC.1
  have CC : ∀ a, a ∉ [46, 48, 49, 50, 51] → a ∉ [15, 16, 17, 18, 19] → σ2 a = σ a := fun a h1 h2 => (C2 a h1).trans (C1 a h2)
  have F46 : ∀ k, k ≠ 1 → σ2 46 k = σ 46 k := fun k hk => by rw [gR.2 k hk, C1 46 (by decide)]
  have F15 : ∀ k, k ≠ 8 → σ2 15 k = σ 15 k := fun k hk => by rw [C2 15 (by decide), gC.2 k hk]
  refine iv_scs h (fun a ha ha2 => ?_) (fun k hk2 hk3 => F46 k (fun e => hk3 (by rw [e]; decide))) ⟨⟨by rw [C2 15 (by decide)]; exact hC.1, hB.1, by rw [F15 9 (by decide)]; exact b1.2.2.1, b1.2.2.2.1, fun f hf => ⟨(hB.2 f hf).1, (hB.2 f hf).2.2.2, ?_, ?_⟩⟩, ⟨hR.1, hB.1, by rw [F46 6 (by decide)]; exact b2.2.2.1, b2.2.2.2.1, fun f hf => ⟨(hB.2 f hf).1, (hB.2 f hf).2.2.2, (hR.2 f hf).1, (hR.2 f hf).2.2.2, mo' f, (hB.2 f hf).2.1, (hR.2 f hf).2.1⟩⟩, by rw [F15 10 (by decide)]; exact b3, by rw [F46 13 (by decide)]; exact b4, b5, fun f hf => ⟨?_, ?_, wa' f, (hB.2 f hf).2.2.1, (hR.2 f hf).2.2.1⟩, fun s hs => ?_, fun k hk2 => ?_⟩ ?_
  · exact CC a (by revert ha2; simp only [List.mem_cons, not_or]; have h46 : a ≠ 46 := (by rintro rfl; exact absurd ha (by decide)); intro q; exact ⟨h46, by omega, by omega, by omega, by omega, by simp⟩) (by revert ha2; simp only [List.mem_cons, not_or]; intro q; exact ⟨by omega, by omega, by omega, by omega, by omega, by simp⟩)
  · show σ2 16 f = _
    rw [C2 16 (by decide)]; exact (hC.2 f hf).1
  · show σ2 19 f = _
    rw [C2 19 (by decide)]; exact (hC.2 f hf).2.2.2
  · rw [C2 17 (by decide)]; exact (hC.2 f hf).2.1.trans (hR.2 f hf).2.1.symm
  · rw [C2 18 (by decide)]; exact (hC.2 f hf).2.2.1.trans (hR.2 f hf).2.2.1.symm
  · rw [CC 20 (by decide) (by decide), CC 47 (by decide) (by decide)]; exact b7 s hs
  · rw [CC 21 (by decide) (by decide), CC 22 (by decide) (by decide), CC 23 (by decide) (by decide), CC 52 (by decide) (by decide)]; exact b8 k hk2
  · rcases a5 with ⟨i1, i2⟩ | ⟨i1, i2, inf, inc, il, j1, j2, j3, j4, j5, j6, j7, j8, j9, j10, j11, j12, j13⟩
    · exact Or.inl ⟨by rw [CC 0 (by decide) (by decide)]; exact i1, by rw [F46 14 (by decide)]; exact i2⟩
    · refine Or.inr ⟨by rw [CC 0 (by decide) (by decide)]; exact i1, by rw [F46 14 (by decide)]; exact i2, inf, inc, il, by omega, j2, j3, j4, by rw [CC 33 (by decide) (by decide)]; exact j5, by rw [F46 15 (by decide)]; exact j6, by rw [CC 33 (by decide) (by decide)]; exact j7, by rw [F46 16 (by decide)]; exact j8, by rw [CC 33 (by decide) (by decide)]; exact j9, by rw [F46 17 (by decide)]; exact j10, fun f hf => ?_, fun s hs => ?_, fun k hk2 => ?_⟩
      · rw [CC 34 (by decide) (by decide), CC 35 (by decide) (by decide), CC 36 (by decide) (by decide), CC 37 (by decide) (by decide), CC 56 (by decide) (by decide), C2 16 (by decide), C2 17 (by decide), (hk f (by omega)).1, (hk f (by omega)).2]
        exact j11 f hf
      · rw [CC 38 (by decide) (by decide), CC 56 (by decide) (by decide)]; exact j12 s hs
      · rw [CC 39 (by decide) (by decide), CC 40 (by decide) (by decide), CC 41 (by decide) (by decide), CC 56 (by decide) (by decide)]; exact j13 k hk2
theorem pp_facesBy {G : jr_G} {d : Nat} {σ : jr_Sg} {a b c e : Int32} (h : IV σ) : jr_pair G (d + 20) mi_X9_facesBy mi_X10_facesBy [.int a, .int b, .int c, .int e] σ := by
  obtain ⟨T, n, nf, nc, kd, se, lw, tp, h⟩ := h
  have hh := h
  obtain ⟨hTC, hTR, ⟨hsc, hsr, hl1, hl2, hlw, hfc, hli, hca⟩, htp, himg, hsh, hrest, hwd⟩ := hh
  have hnf := hsc.1
  have h5 := hsc.2.1
  have hnc := hsc.2.2.1
  have h8 := hsc.2.2.2.1
  have rnf := hsr.1
  have rnc := hsr.2.2.1
  have hlm := hrest.2.2.2.1
  unfold jr_pair
  by_cases ha : 0 ≤ a ∧ a ≤ 3
  · obtain ⟨j, hj, rfl⟩ := c4 ha
    obtain ⟨e1, e2, e3, z, hz, e4, e5⟩ := hsh j hj
    by_cases b0 : b < 0
    · refine jr_enter (L := [some (.ref 0), some (.int (nI j)), some (.int b), some (.int c), some (.int e), none, none, none, none]) (by decide) (Nat.le_of_ble_eq_true rfl) rfl ?_
      refine jr_aload_n 0 1 dX9_facesBy_0 rfl rfl rfl ?_
      refine gf_X9_57 4 dX9_facesBy_1 rfl rfl rfl rfl ?_
      refine jr_iload_n 1 5 dX9_facesBy_4 rfl rfl rfl ?_
      refine cs_X9_298 8 dX9_facesBy_5 rfl rfl rfl (Nat.le_of_ble_eq_true rfl) (wp_shasT hj ?_)
      refine jr_if_eq 33 11 dX9_facesBy_8 rfl rfl (fun q => absurd q (by decide)) (fun q8 => ?_)
      refine jr_iload_n 2 12 dX9_facesBy_11 rfl rfl rfl ?_
      refine jr_if_lt 33 15 dX9_facesBy_12 rfl rfl (fun q12 => ?_) (fun q => absurd b0 q)
      refine jr_iconst (0) 34 dX9_facesBy_33 rfl rfl ?_
      refine jr_istore (L' := [_, _, _, _, _, _, _, _, _]) 36 dX9_facesBy_34 rfl (by decide) rfl ?_
      refine jr_iload 38 dX9_facesBy_36 rfl rfl ?_
      refine jr_if_ne 44 41 dX9_facesBy_38 rfl rfl (fun q => absurd (by decide) q) (fun q38 => ?_)
      refine jr_bipush ((-2)) 43 dX9_facesBy_41 rfl rfl ?_
      refine jr_ireturn dX9_facesBy_43 rfl rfl ?_
      refine jr_enter (L := [some (.ref 46), some (.int (nI j)), some (.int b), some (.int c), some (.int e), none, none, none, none]) (by decide) (Nat.le_of_ble_eq_true rfl) rfl ?_
      refine jr_iload_n 1 1 dX10_facesBy_0 rfl rfl rfl ?_
      refine jr_iconst (0) 2 dX10_facesBy_1 rfl rfl ?_
      refine jr_iconst (3) 3 dX10_facesBy_2 rfl rfl ?_
      refine cs_X10_108 6 dX10_facesBy_3 rfl rfl (Nat.le_of_ble_eq_true rfl) (wp_inT (m := 3) (by omega) (by decide) rfl ?_)
      refine jr_if_eq 28 9 dX10_facesBy_6 rfl rfl (fun q => absurd q (by decide)) (fun q6 => ?_)
      refine jr_iload_n 2 10 dX10_facesBy_9 rfl rfl rfl ?_
      refine jr_iconst (0) 11 dX10_facesBy_10 rfl rfl ?_
      refine jr_iconst (2) 12 dX10_facesBy_11 rfl rfl ?_
      refine cs_X10_108 15 dX10_facesBy_12 rfl rfl (Nat.le_of_ble_eq_true rfl) (wp_inF (fun q => absurd b0 (Int32.not_lt.mpr q.1)) ?_)
      refine jr_if_eq 28 18 dX10_facesBy_15 rfl rfl (fun q15 => ?_) (fun q => absurd (by decide) q)
      refine jr_bipush ((-2)) 30 dX10_facesBy_28 rfl rfl ?_
      refine jr_ireturn dX10_facesBy_30 rfl rfl ?_
      exact ⟨rfl, IV_mov (iv_same_x (jr_eqx_rf [] _) (by decide)) h⟩
    · by_cases b2 : 2 < b
      · refine jr_enter (L := [some (.ref 0), some (.int (nI j)), some (.int b), some (.int c), some (.int e), none, none, none, none]) (by decide) (Nat.le_of_ble_eq_true rfl) rfl ?_
        refine jr_aload_n 0 1 dX9_facesBy_0 rfl rfl rfl ?_
        refine gf_X9_57 4 dX9_facesBy_1 rfl rfl rfl rfl ?_
        refine jr_iload_n 1 5 dX9_facesBy_4 rfl rfl rfl ?_
        refine cs_X9_298 8 dX9_facesBy_5 rfl rfl rfl (Nat.le_of_ble_eq_true rfl) (wp_shasT hj ?_)
        refine jr_if_eq 33 11 dX9_facesBy_8 rfl rfl (fun q => absurd q (by decide)) (fun q8 => ?_)
        refine jr_iload_n 2 12 dX9_facesBy_11 rfl rfl rfl ?_
        refine jr_if_lt 33 15 dX9_facesBy_12 rfl rfl (fun q => absurd q b0) (fun q12 => ?_)
        refine jr_iload_n 2 16 dX9_facesBy_15 rfl rfl rfl ?_
        refine jr_iconst (2) 17 dX9_facesBy_16 rfl rfl ?_
        refine jr_icmp_gt 33 20 dX9_facesBy_17 rfl rfl (fun q17 => ?_) (fun q => absurd b2 q)
        refine jr_iconst (0) 34 dX9_facesBy_33 rfl rfl ?_
        refine jr_istore (L' := [_, _, _, _, _, _, _, _, _]) 36 dX9_facesBy_34 rfl (by decide) rfl ?_
        refine jr_iload 38 dX9_facesBy_36 rfl rfl ?_
        refine jr_if_ne 44 41 dX9_facesBy_38 rfl rfl (fun q => absurd (by decide) q) (fun q38 => ?_)
        refine jr_bipush ((-2)) 43 dX9_facesBy_41 rfl rfl ?_
        refine jr_ireturn dX9_facesBy_43 rfl rfl ?_
        refine jr_enter (L := [some (.ref 46), some (.int (nI j)), some (.int b), some (.int c), some (.int e), none, none, none, none]) (by decide) (Nat.le_of_ble_eq_true rfl) rfl ?_
        refine jr_iload_n 1 1 dX10_facesBy_0 rfl rfl rfl ?_
        refine jr_iconst (0) 2 dX10_facesBy_1 rfl rfl ?_
        refine jr_iconst (3) 3 dX10_facesBy_2 rfl rfl ?_
        refine cs_X10_108 6 dX10_facesBy_3 rfl rfl (Nat.le_of_ble_eq_true rfl) (wp_inT (m := 3) (by omega) (by decide) rfl ?_)
        refine jr_if_eq 28 9 dX10_facesBy_6 rfl rfl (fun q => absurd q (by decide)) (fun q6 => ?_)
        refine jr_iload_n 2 10 dX10_facesBy_9 rfl rfl rfl ?_
        refine jr_iconst (0) 11 dX10_facesBy_10 rfl rfl ?_
        refine jr_iconst (2) 12 dX10_facesBy_11 rfl rfl ?_
        refine cs_X10_108 15 dX10_facesBy_12 rfl rfl (Nat.le_of_ble_eq_true rfl) (wp_inF (fun q => absurd b2 (Int32.not_lt.mpr q.2)) ?_)
        refine jr_if_eq 28 18 dX10_facesBy_15 rfl rfl (fun q15 => ?_) (fun q => absurd (by decide) q)
        refine jr_bipush ((-2)) 30 dX10_facesBy_28 rfl rfl ?_
        refine jr_ireturn dX10_facesBy_30 rfl rfl ?_
        exact ⟨rfl, IV_mov (iv_same_x (jr_eqx_rf [] _) (by decide)) h⟩
      · rcases jr_rg e (m := 5) (by decide) with qN | ⟨N, hN, rfl⟩
        · refine jr_enter (L := [some (.ref 0), some (.int (nI j)), some (.int b), some (.int c), some (.int e), none, none, none, none]) (by decide) (Nat.le_of_ble_eq_true rfl) rfl ?_
          refine jr_aload_n 0 1 dX9_facesBy_0 rfl rfl rfl ?_
          refine gf_X9_57 4 dX9_facesBy_1 rfl rfl rfl rfl ?_
          refine jr_iload_n 1 5 dX9_facesBy_4 rfl rfl rfl ?_
          refine cs_X9_298 8 dX9_facesBy_5 rfl rfl rfl (Nat.le_of_ble_eq_true rfl) (wp_shasT hj ?_)
          refine jr_if_eq 33 11 dX9_facesBy_8 rfl rfl (fun q => absurd q (by decide)) (fun q8 => ?_)
          refine jr_iload_n 2 12 dX9_facesBy_11 rfl rfl rfl ?_
          refine jr_if_lt 33 15 dX9_facesBy_12 rfl rfl (fun q => absurd q b0) (fun q12 => ?_)
          refine jr_iload_n 2 16 dX9_facesBy_15 rfl rfl rfl ?_
          refine jr_iconst (2) 17 dX9_facesBy_16 rfl rfl ?_
          refine jr_icmp_gt 33 20 dX9_facesBy_17 rfl rfl (fun q => absurd q b2) (fun q17 => ?_)
          refine jr_iload 22 dX9_facesBy_20 rfl rfl ?_
          refine jr_iconst (5) 23 dX9_facesBy_22 rfl rfl ?_
          refine cs_X9_104 26 dX9_facesBy_23 rfl rfl (Nat.le_of_ble_eq_true rfl) (wp_wiF qN ?_)
          refine jr_if_eq 33 29 dX9_facesBy_26 rfl rfl (fun q26 => ?_) (fun q => absurd (by decide) q)
          refine jr_iconst (0) 34 dX9_facesBy_33 rfl rfl ?_
          refine jr_istore (L' := [_, _, _, _, _, _, _, _, _]) 36 dX9_facesBy_34 rfl (by decide) rfl ?_
          refine jr_iload 38 dX9_facesBy_36 rfl rfl ?_
          refine jr_if_ne 44 41 dX9_facesBy_38 rfl rfl (fun q => absurd (by decide) q) (fun q38 => ?_)
          refine jr_bipush ((-2)) 43 dX9_facesBy_41 rfl rfl ?_
          refine jr_ireturn dX9_facesBy_43 rfl rfl ?_
          refine jr_enter (L := [some (.ref 46), some (.int (nI j)), some (.int b), some (.int c), some (.int e), none, none, none, none]) (by decide) (Nat.le_of_ble_eq_true rfl) rfl ?_
          refine jr_iload_n 1 1 dX10_facesBy_0 rfl rfl rfl ?_
          refine jr_iconst (0) 2 dX10_facesBy_1 rfl rfl ?_
          refine jr_iconst (3) 3 dX10_facesBy_2 rfl rfl ?_
          refine cs_X10_108 6 dX10_facesBy_3 rfl rfl (Nat.le_of_ble_eq_true rfl) (wp_inT (m := 3) (by omega) (by decide) rfl ?_)
          refine jr_if_eq 28 9 dX10_facesBy_6 rfl rfl (fun q => absurd q (by decide)) (fun q6 => ?_)
          refine jr_iload_n 2 10 dX10_facesBy_9 rfl rfl rfl ?_
          refine jr_iconst (0) 11 dX10_facesBy_10 rfl rfl ?_
          refine jr_iconst (2) 12 dX10_facesBy_11 rfl rfl ?_
          refine cs_X10_108 15 dX10_facesBy_12 rfl rfl (Nat.le_of_ble_eq_true rfl) (wp_in (fun _ _ => ?_) (fun q => absurd ⟨Int32.not_lt.mp b0, Int32.not_lt.mp b2⟩ q))
          refine jr_if_eq 28 18 dX10_facesBy_15 rfl rfl (fun q => absurd q (by decide)) (fun q15 => ?_)
          refine jr_iload 20 dX10_facesBy_18 rfl rfl ?_
          refine jr_iconst (0) 21 dX10_facesBy_20 rfl rfl ?_
          refine jr_iconst (5) 22 dX10_facesBy_21 rfl rfl ?_
          refine cs_X10_108 25 dX10_facesBy_22 rfl rfl (Nat.le_of_ble_eq_true rfl) (wp_inF qN ?_)
          refine jr_if_ne 31 28 dX10_facesBy_25 rfl rfl (fun q => absurd (by decide) q) (fun q25 => ?_)
          refine jr_bipush ((-2)) 30 dX10_facesBy_28 rfl rfl ?_
          refine jr_ireturn dX10_facesBy_30 rfl rfl ?_
          exact ⟨rfl, IV_mov (iv_same_x (jr_eqx_rf [] _) (by decide)) h⟩
        · by_cases hm : σ 57 j = -1
          · refine jr_enter (L := [some (.ref 0), some (.int (nI j)), some (.int b), some (.int c), some (.int (nI N)), none, none, none, none]) (by decide) (Nat.le_of_ble_eq_true rfl) rfl ?_
            refine jr_aload_n 0 1 dX9_facesBy_0 rfl rfl rfl ?_
            refine gf_X9_57 4 dX9_facesBy_1 rfl rfl rfl rfl ?_
            refine jr_iload_n 1 5 dX9_facesBy_4 rfl rfl rfl ?_
            refine cs_X9_298 8 dX9_facesBy_5 rfl rfl rfl (Nat.le_of_ble_eq_true rfl) (wp_shasT hj ?_)
            refine jr_if_eq 33 11 dX9_facesBy_8 rfl rfl (fun q => absurd q (by decide)) (fun q8 => ?_)
            refine jr_iload_n 2 12 dX9_facesBy_11 rfl rfl rfl ?_
            refine jr_if_lt 33 15 dX9_facesBy_12 rfl rfl (fun q => absurd q b0) (fun q12 => ?_)
            refine jr_iload_n 2 16 dX9_facesBy_15 rfl rfl rfl ?_
            refine jr_iconst (2) 17 dX9_facesBy_16 rfl rfl ?_
            refine jr_icmp_gt 33 20 dX9_facesBy_17 rfl rfl (fun q => absurd q b2) (fun q17 => ?_)
            refine jr_iload 22 dX9_facesBy_20 rfl rfl ?_
            refine jr_iconst (5) 23 dX9_facesBy_22 rfl rfl ?_
            refine cs_X9_104 26 dX9_facesBy_23 rfl rfl (Nat.le_of_ble_eq_true rfl) (wp_wiT hN (by decide) rfl ?_)
            refine jr_if_eq 33 29 dX9_facesBy_26 rfl rfl (fun q => absurd q (by decide)) (fun q26 => ?_)
            refine jr_iconst (1) 30 dX9_facesBy_29 rfl rfl ?_
            refine jr_goto 34 dX9_facesBy_30 rfl ?_
            refine jr_istore (L' := [_, _, _, _, _, _, _, _, _]) 36 dX9_facesBy_34 rfl (by decide) rfl ?_
            refine jr_iload 38 dX9_facesBy_36 rfl rfl ?_
            refine jr_if_ne 44 41 dX9_facesBy_38 rfl rfl (fun q38 => ?_) (fun q => absurd q (by decide))
            refine jr_aload_n 0 45 dX9_facesBy_44 rfl rfl rfl ?_
            refine gf_X9_57 48 dX9_facesBy_45 rfl rfl rfl rfl ?_
            refine jr_iload_n 1 49 dX9_facesBy_48 rfl rfl rfl ?_
            refine cs_X9_312 52 dX9_facesBy_49 rfl rfl rfl (Nat.le_of_ble_eq_true rfl) (wp_isMissing hj (fun _ => ?_) (fun q => absurd (e1.trans hm) q))
            refine jr_if_eq 58 55 dX9_facesBy_52 rfl rfl (fun q => absurd q (by decide)) (fun q52 => ?_)
            refine jr_bipush ((-11)) 57 dX9_facesBy_55 rfl rfl ?_
            refine jr_ireturn dX9_facesBy_57 rfl rfl ?_
            refine jr_enter (L := [some (.ref 46), some (.int (nI j)), some (.int b), some (.int c), some (.int (nI N)), none, none, none, none]) (by decide) (Nat.le_of_ble_eq_true rfl) rfl ?_
            refine jr_iload_n 1 1 dX10_facesBy_0 rfl rfl rfl ?_
            refine jr_iconst (0) 2 dX10_facesBy_1 rfl rfl ?_
            refine jr_iconst (3) 3 dX10_facesBy_2 rfl rfl ?_
            refine cs_X10_108 6 dX10_facesBy_3 rfl rfl (Nat.le_of_ble_eq_true rfl) (wp_inT (m := 3) (by omega) (by decide) rfl ?_)
            refine jr_if_eq 28 9 dX10_facesBy_6 rfl rfl (fun q => absurd q (by decide)) (fun q6 => ?_)
            refine jr_iload_n 2 10 dX10_facesBy_9 rfl rfl rfl ?_
            refine jr_iconst (0) 11 dX10_facesBy_10 rfl rfl ?_
            refine jr_iconst (2) 12 dX10_facesBy_11 rfl rfl ?_
            refine cs_X10_108 15 dX10_facesBy_12 rfl rfl (Nat.le_of_ble_eq_true rfl) (wp_in (fun _ _ => ?_) (fun q => absurd ⟨Int32.not_lt.mp b0, Int32.not_lt.mp b2⟩ q))
            refine jr_if_eq 28 18 dX10_facesBy_15 rfl rfl (fun q => absurd q (by decide)) (fun q15 => ?_)
            refine jr_iload 20 dX10_facesBy_18 rfl rfl ?_
            refine jr_iconst (0) 21 dX10_facesBy_20 rfl rfl ?_
            refine jr_iconst (5) 22 dX10_facesBy_21 rfl rfl ?_
            refine cs_X10_108 25 dX10_facesBy_22 rfl rfl (Nat.le_of_ble_eq_true rfl) (wp_inT hN (by decide) rfl ?_)
            refine jr_if_ne 31 28 dX10_facesBy_25 rfl rfl (fun q25 => ?_) (fun q => absurd q (by decide))
            refine jr_aload_n 0 32 dX10_facesBy_31 rfl rfl rfl ?_
            refine gf_X10_40 35 dX10_facesBy_32 rfl rfl rfl rfl ?_
            refine jr_iload_n 1 36 dX10_facesBy_35 rfl rfl rfl ?_
            refine jr_iald rfl rfl (by omega) 37 dX10_facesBy_36 rfl ?_
            refine jr_iconst ((-1)) 38 dX10_facesBy_37 rfl rfl ?_
            refine jr_icmp_ne 44 41 dX10_facesBy_38 rfl rfl (fun q => absurd hm q) (fun q38 => ?_)
            refine jr_bipush ((-11)) 43 dX10_facesBy_41 rfl rfl ?_
            refine jr_ireturn dX10_facesBy_43 rfl rfl ?_
            exact ⟨rfl, IV_mov (iv_same_x (jr_eqx_rf [] _) (by decide)) h⟩
          · by_cases hb : σ 57 j = b
            · by_cases hc : 0 ≤ c ∧ c ≤ 40
              · obtain ⟨p, hp, rfl⟩ : ∃ p : Nat, p ≤ 40 ∧ c = nI p := by
                  rcases jr_rg c (m := 40) (by decide) with q | ⟨p, hp, e⟩
                  · exact absurd hc q
                  · exact ⟨p, hp, e⟩
                have hBB : ∃ mo wa : Nat → Nat, fx_B nf kd mo wa se ∧ fx_C nf kd mo wa se σ ∧ fx_R nf kd mo wa se σ := by
                  refine ⟨fun f => (σ 49 f).toNatClampNeg, fun f => (σ 50 f).toNatClampNeg, ⟨h5, fun f hf => ?_⟩, ⟨hnf, fun f hf => ?_⟩, ⟨rnf, fun f hf => ?_⟩⟩
                  · obtain ⟨k1, k2, k3, k4, u, hu, eu⟩ := hsr.2.2.2.2 f hf
                    obtain ⟨k5, k6, v, hv, ev⟩ := hfc f hf
                    refine ⟨k1, ?_, ?_, k2⟩
                    · show (σ 49 f).toNatClampNeg ≤ 9
                      rw [eu, nI_clamp (by omega)]; exact hu
                    · show (σ 50 f).toNatClampNeg ≤ 400
                      rw [ev, nI_clamp (by omega)]; exact hv
                  · obtain ⟨k1, k2, k3, k4, u, hu, eu⟩ := hsr.2.2.2.2 f hf
                    obtain ⟨k5, k6, v, hv, ev⟩ := hfc f hf
                    refine ⟨(hsc.2.2.2.2 f hf).2.2.1, ?_, ?_, (hsc.2.2.2.2 f hf).2.2.2⟩
                    · show _ = nI (σ 49 f).toNatClampNeg
                      rw [k5, eu, nI_clamp (by omega)]
                    · show _ = nI (σ 50 f).toNatClampNeg
                      rw [k6, ev, nI_clamp (by omega)]
                  · obtain ⟨k1, k2, k3, k4, u, hu, eu⟩ := hsr.2.2.2.2 f hf
                    obtain ⟨k5, k6, v, hv, ev⟩ := hfc f hf
                    refine ⟨k3, ?_, ?_, k4⟩
                    · show _ = nI (σ 49 f).toNatClampNeg
                      rw [eu, nI_clamp (by omega)]
                    · show _ = nI (σ 50 f).toNatClampNeg
                      rw [ev, nI_clamp (by omega)]
                obtain ⟨mo, wa, hB, hC, hR⟩ := hBB
                obtain ⟨r, nf', kd', mo', wa', se', hB', hE, lC, lR⟩ := faces_both (C := fun q => σ 45 (40 * j + q)) hj hz hp hN N 0 0 nf kd mo wa se (Nat.zero_add _) hB
                refine jr_enter (L := [some (.ref 0), some (.int (nI j)), some (.int b), some (.int (nI p)), some (.int (nI N)), none, none, none, none]) (by decide) (Nat.le_of_ble_eq_true rfl) rfl ?_
                refine jr_aload_n 0 1 dX9_facesBy_0 rfl rfl rfl ?_
                refine gf_X9_57 4 dX9_facesBy_1 rfl rfl rfl rfl ?_
                refine jr_iload_n 1 5 dX9_facesBy_4 rfl rfl rfl ?_
                refine cs_X9_298 8 dX9_facesBy_5 rfl rfl rfl (Nat.le_of_ble_eq_true rfl) (wp_shasT hj ?_)
                refine jr_if_eq 33 11 dX9_facesBy_8 rfl rfl (fun q => absurd q (by decide)) (fun q8 => ?_)
                refine jr_iload_n 2 12 dX9_facesBy_11 rfl rfl rfl ?_
                refine jr_if_lt 33 15 dX9_facesBy_12 rfl rfl (fun q => absurd q b0) (fun q12 => ?_)
                refine jr_iload_n 2 16 dX9_facesBy_15 rfl rfl rfl ?_
                refine jr_iconst (nI 2) 17 dX9_facesBy_16 rfl rfl ?_
                refine jr_icmp_gt 33 20 dX9_facesBy_17 rfl rfl (fun q => absurd q b2) (fun q17 => ?_)
                refine jr_iload 22 dX9_facesBy_20 rfl rfl ?_
                refine jr_iconst (nI 5) 23 dX9_facesBy_22 rfl rfl ?_
                refine cs_X9_104 26 dX9_facesBy_23 rfl rfl (Nat.le_of_ble_eq_true rfl) (wp_wiT hN (by decide) rfl ?_)
                refine jr_if_eq 33 29 dX9_facesBy_26 rfl rfl (fun q => absurd q (by decide)) (fun q26 => ?_)
                refine jr_iconst (1) 30 dX9_facesBy_29 rfl rfl ?_
                refine jr_goto 34 dX9_facesBy_30 rfl ?_
                refine jr_istore (L' := [_, _, _, _, _, _, _, _, _]) 36 dX9_facesBy_34 rfl (by decide) rfl ?_
                refine jr_iload 38 dX9_facesBy_36 rfl rfl ?_
                refine jr_if_ne 44 41 dX9_facesBy_38 rfl rfl (fun q38 => ?_) (fun q => absurd q (by decide))
                refine jr_aload_n 0 45 dX9_facesBy_44 rfl rfl rfl ?_
                refine gf_X9_57 48 dX9_facesBy_45 rfl rfl rfl rfl ?_
                refine jr_iload_n 1 49 dX9_facesBy_48 rfl rfl rfl ?_
                refine cs_X9_312 52 dX9_facesBy_49 rfl rfl rfl (Nat.le_of_ble_eq_true rfl) (wp_isMissing hj (fun q => absurd (e1.symm.trans q) hm) (fun _ => ?_))
                refine jr_if_eq 58 55 dX9_facesBy_52 rfl rfl (fun q52 => ?_) (fun q => absurd (by decide) q)
                refine jr_aload_n 0 59 dX9_facesBy_58 rfl rfl rfl ?_
                refine gf_X9_57 62 dX9_facesBy_59 rfl rfl rfl rfl ?_
                refine gf_X9_318 65 dX9_facesBy_62 rfl rfl rfl rfl ?_
                refine jr_iload_n 1 66 dX9_facesBy_65 rfl rfl rfl ?_
                refine jr_iald rfl rfl (by omega) 67 dX9_facesBy_66 rfl ?_
                refine jr_iload_n 2 68 dX9_facesBy_67 rfl rfl rfl ?_
                refine jr_icmp_eq 74 71 dX9_facesBy_68 rfl rfl (fun q68 => ?_) (fun q => absurd (e1.trans hb) q)
                refine jr_iconst (nI 0) 75 dX9_facesBy_74 rfl rfl ?_
                refine jr_istore (L' := [_, _, _, _, _, _, _, _, _]) 77 dX9_facesBy_75 rfl (by decide) rfl ?_
                refine jr_iconst (nI 0) 78 dX9_facesBy_77 rfl rfl ?_
                refine jr_istore (L' := [_, _, _, _, _, _, _, _, _]) 80 dX9_facesBy_78 rfl (by decide) rfl ?_
                refine lC _ hC (e2.trans e4) (fun q hq => rfl) (fun σ1 hC1 g1 => ?_)
                refine jr_enter (L := [some (.ref 46), some (.int (nI j)), some (.int b), some (.int (nI p)), some (.int (nI N)), none, none, none, none]) (by decide) (Nat.le_of_ble_eq_true rfl) rfl ?_
                refine jr_iload_n 1 1 dX10_facesBy_0 rfl rfl rfl ?_
                refine jr_iconst (nI 0) 2 dX10_facesBy_1 rfl rfl ?_
                refine jr_iconst (nI 3) 3 dX10_facesBy_2 rfl rfl ?_
                refine cs_X10_108 6 dX10_facesBy_3 rfl rfl (Nat.le_of_ble_eq_true rfl) (wp_inT (m := 3) (by omega) (by decide) rfl ?_)
                refine jr_if_eq 28 9 dX10_facesBy_6 rfl rfl (fun q => absurd q (by decide)) (fun q6 => ?_)
                refine jr_iload_n 2 10 dX10_facesBy_9 rfl rfl rfl ?_
                refine jr_iconst (nI 0) 11 dX10_facesBy_10 rfl rfl ?_
                refine jr_iconst (nI 2) 12 dX10_facesBy_11 rfl rfl ?_
                refine cs_X10_108 15 dX10_facesBy_12 rfl rfl (Nat.le_of_ble_eq_true rfl) (wp_in (fun _ _ => ?_) (fun q => absurd ⟨Int32.not_lt.mp b0, Int32.not_lt.mp b2⟩ q))
                refine jr_if_eq 28 18 dX10_facesBy_15 rfl rfl (fun q => absurd q (by decide)) (fun q15 => ?_)
                refine jr_iload 20 dX10_facesBy_18 rfl rfl ?_
                refine jr_iconst (nI 0) 21 dX10_facesBy_20 rfl rfl ?_
                refine jr_iconst (nI 5) 22 dX10_facesBy_21 rfl rfl ?_
                refine cs_X10_108 25 dX10_facesBy_22 rfl rfl (Nat.le_of_ble_eq_true rfl) (wp_inT hN (by decide) rfl ?_)
                refine jr_if_ne 31 28 dX10_facesBy_25 rfl rfl (fun q25 => ?_) (fun q => absurd q (by decide))
                refine jr_aload_n 0 32 dX10_facesBy_31 rfl rfl rfl ?_
                refine gf_X10_40 35 dX10_facesBy_32 rfl rfl rfl rfl ?_
                refine jr_iload_n 1 36 dX10_facesBy_35 rfl rfl rfl ?_
                refine jr_iald rfl rfl (by omega) 37 dX10_facesBy_36 rfl ?_
                refine jr_topi (y := σ 57 j) (by rw [g1.1 57 (by decide)]) ?_
                refine jr_iconst ((-1)) 38 dX10_facesBy_37 rfl rfl ?_
                refine jr_icmp_ne 44 41 dX10_facesBy_38 rfl rfl (fun q38 => ?_) (fun q => absurd q hm)
                refine jr_aload_n 0 45 dX10_facesBy_44 rfl rfl rfl ?_
                refine gf_X10_40 48 dX10_facesBy_45 rfl rfl rfl rfl ?_
                refine jr_iload_n 1 49 dX10_facesBy_48 rfl rfl rfl ?_
                refine jr_iald rfl rfl (by omega) 50 dX10_facesBy_49 rfl ?_
                refine jr_topi (y := σ 57 j) (by rw [g1.1 57 (by decide)]) ?_
                refine jr_iload_n 2 51 dX10_facesBy_50 rfl rfl rfl ?_
                refine jr_icmp_eq 57 54 dX10_facesBy_51 rfl rfl (fun q51 => ?_) (fun q => absurd hb q)
                refine jr_iconst (nI 0) 58 dX10_facesBy_57 rfl rfl ?_
                refine jr_istore (L' := [_, _, _, _, _, _, _, _, _]) 60 dX10_facesBy_58 rfl (by decide) rfl ?_
                refine jr_iconst (nI 0) 61 dX10_facesBy_60 rfl rfl ?_
                refine jr_istore (L' := [_, _, _, _, _, _, _, _, _]) 63 dX10_facesBy_61 rfl (by decide) rfl ?_
                refine lR _ _ ⟨by rw [g1.1 46 (by decide)]; exact hR.1, fun f hf => by rw [g1.1 48 (by decide), g1.1 49 (by decide), g1.1 50 (by decide), g1.1 51 (by decide)]; exact hR.2 f hf⟩ (by rw [g1.1 58 (by decide)]; exact e4) (fun q hq => by rw [g1.1 59 (by decide)]; exact (e5 q hq).symm) (fun σ2 hR2 g2 => ?_)
                exact ⟨rfl, T, n, nf', nc, kd', se', lw, tp, iv_faces h hB' hE.1 (fun f hf => ⟨((hC1.2 f (by have := hE.1; omega)).1.trans (by rw [(hE.2 f hf).1])).trans (hC.2 f hf).1.symm, ((hC1.2 f (by have := hE.1; omega)).2.1.trans (by rw [(hE.2 f hf).2])).trans (hC.2 f hf).2.1.symm⟩) hC1 g1 hR2 g2⟩
              · rcases Nat.eq_zero_or_pos N with rfl | hN0
                · refine jr_enter (L := [some (.ref 0), some (.int (nI j)), some (.int b), some (.int c), some (.int (nI 0)), none, none, none, none]) (by decide) (Nat.le_of_ble_eq_true rfl) rfl ?_
                  refine jr_aload_n 0 1 dX9_facesBy_0 rfl rfl rfl ?_
                  refine gf_X9_57 4 dX9_facesBy_1 rfl rfl rfl rfl ?_
                  refine jr_iload_n 1 5 dX9_facesBy_4 rfl rfl rfl ?_
                  refine cs_X9_298 8 dX9_facesBy_5 rfl rfl rfl (Nat.le_of_ble_eq_true rfl) (wp_shasT hj ?_)
                  refine jr_if_eq 33 11 dX9_facesBy_8 rfl rfl (fun q => absurd q (by decide)) (fun q8 => ?_)
                  refine jr_iload_n 2 12 dX9_facesBy_11 rfl rfl rfl ?_
                  refine jr_if_lt 33 15 dX9_facesBy_12 rfl rfl (fun q => absurd q b0) (fun q12 => ?_)
                  refine jr_iload_n 2 16 dX9_facesBy_15 rfl rfl rfl ?_
                  refine jr_iconst (nI 2) 17 dX9_facesBy_16 rfl rfl ?_
                  refine jr_icmp_gt 33 20 dX9_facesBy_17 rfl rfl (fun q => absurd q b2) (fun q17 => ?_)
                  refine jr_iload 22 dX9_facesBy_20 rfl rfl ?_
                  refine jr_iconst (nI 5) 23 dX9_facesBy_22 rfl rfl ?_
                  refine cs_X9_104 26 dX9_facesBy_23 rfl rfl (Nat.le_of_ble_eq_true rfl) (wp_wiT hN (by decide) rfl ?_)
                  refine jr_if_eq 33 29 dX9_facesBy_26 rfl rfl (fun q => absurd q (by decide)) (fun q26 => ?_)
                  refine jr_iconst (1) 30 dX9_facesBy_29 rfl rfl ?_
                  refine jr_goto 34 dX9_facesBy_30 rfl ?_
                  refine jr_istore (L' := [_, _, _, _, _, _, _, _, _]) 36 dX9_facesBy_34 rfl (by decide) rfl ?_
                  refine jr_iload 38 dX9_facesBy_36 rfl rfl ?_
                  refine jr_if_ne 44 41 dX9_facesBy_38 rfl rfl (fun q38 => ?_) (fun q => absurd q (by decide))
                  refine jr_aload_n 0 45 dX9_facesBy_44 rfl rfl rfl ?_
                  refine gf_X9_57 48 dX9_facesBy_45 rfl rfl rfl rfl ?_
                  refine jr_iload_n 1 49 dX9_facesBy_48 rfl rfl rfl ?_
                  refine cs_X9_312 52 dX9_facesBy_49 rfl rfl rfl (Nat.le_of_ble_eq_true rfl) (wp_isMissing hj (fun q => absurd (e1.symm.trans q) hm) (fun _ => ?_))
                  refine jr_if_eq 58 55 dX9_facesBy_52 rfl rfl (fun q52 => ?_) (fun q => absurd (by decide) q)
                  refine jr_aload_n 0 59 dX9_facesBy_58 rfl rfl rfl ?_
                  refine gf_X9_57 62 dX9_facesBy_59 rfl rfl rfl rfl ?_
                  refine gf_X9_318 65 dX9_facesBy_62 rfl rfl rfl rfl ?_
                  refine jr_iload_n 1 66 dX9_facesBy_65 rfl rfl rfl ?_
                  refine jr_iald rfl rfl (by omega) 67 dX9_facesBy_66 rfl ?_
                  refine jr_iload_n 2 68 dX9_facesBy_67 rfl rfl rfl ?_
                  refine jr_icmp_eq 74 71 dX9_facesBy_68 rfl rfl (fun q68 => ?_) (fun q => absurd (e1.trans hb) q)
                  refine jr_iconst (nI 0) 75 dX9_facesBy_74 rfl rfl ?_
                  refine jr_istore (L' := [_, _, _, _, _, _, _, _, _]) 77 dX9_facesBy_75 rfl (by decide) rfl ?_
                  refine jr_iconst (nI 0) 78 dX9_facesBy_77 rfl rfl ?_
                  refine jr_istore (L' := [_, _, _, _, _, _, _, _, _]) 80 dX9_facesBy_78 rfl (by decide) rfl ?_
                  refine jr_iload 82 dX9_facesBy_80 rfl rfl ?_
                  refine jr_iload 84 dX9_facesBy_82 rfl rfl ?_
                  refine jr_icmp_ge 166 87 dX9_facesBy_84 rfl rfl (fun q84 => ?_) (fun q => absurd (Int32.le_refl _) q)
                  refine jr_iload 168 dX9_facesBy_166 rfl rfl ?_
                  refine jr_ireturn dX9_facesBy_168 rfl rfl ?_
                  refine jr_enter (L := [some (.ref 46), some (.int (nI j)), some (.int b), some (.int c), some (.int (nI 0)), none, none, none, none]) (by decide) (Nat.le_of_ble_eq_true rfl) rfl ?_
                  refine jr_iload_n 1 1 dX10_facesBy_0 rfl rfl rfl ?_
                  refine jr_iconst (nI 0) 2 dX10_facesBy_1 rfl rfl ?_
                  refine jr_iconst (nI 3) 3 dX10_facesBy_2 rfl rfl ?_
                  refine cs_X10_108 6 dX10_facesBy_3 rfl rfl (Nat.le_of_ble_eq_true rfl) (wp_inT (m := 3) (by omega) (by decide) rfl ?_)
                  refine jr_if_eq 28 9 dX10_facesBy_6 rfl rfl (fun q => absurd q (by decide)) (fun q6 => ?_)
                  refine jr_iload_n 2 10 dX10_facesBy_9 rfl rfl rfl ?_
                  refine jr_iconst (nI 0) 11 dX10_facesBy_10 rfl rfl ?_
                  refine jr_iconst (nI 2) 12 dX10_facesBy_11 rfl rfl ?_
                  refine cs_X10_108 15 dX10_facesBy_12 rfl rfl (Nat.le_of_ble_eq_true rfl) (wp_in (fun _ _ => ?_) (fun q => absurd ⟨Int32.not_lt.mp b0, Int32.not_lt.mp b2⟩ q))
                  refine jr_if_eq 28 18 dX10_facesBy_15 rfl rfl (fun q => absurd q (by decide)) (fun q15 => ?_)
                  refine jr_iload 20 dX10_facesBy_18 rfl rfl ?_
                  refine jr_iconst (nI 0) 21 dX10_facesBy_20 rfl rfl ?_
                  refine jr_iconst (nI 5) 22 dX10_facesBy_21 rfl rfl ?_
                  refine cs_X10_108 25 dX10_facesBy_22 rfl rfl (Nat.le_of_ble_eq_true rfl) (wp_inT hN (by decide) rfl ?_)
                  refine jr_if_ne 31 28 dX10_facesBy_25 rfl rfl (fun q25 => ?_) (fun q => absurd q (by decide))
                  refine jr_aload_n 0 32 dX10_facesBy_31 rfl rfl rfl ?_
                  refine gf_X10_40 35 dX10_facesBy_32 rfl rfl rfl rfl ?_
                  refine jr_iload_n 1 36 dX10_facesBy_35 rfl rfl rfl ?_
                  refine jr_iald rfl rfl (by omega) 37 dX10_facesBy_36 rfl ?_
                  refine jr_iconst ((-1)) 38 dX10_facesBy_37 rfl rfl ?_
                  refine jr_icmp_ne 44 41 dX10_facesBy_38 rfl rfl (fun q38 => ?_) (fun q => absurd q hm)
                  refine jr_aload_n 0 45 dX10_facesBy_44 rfl rfl rfl ?_
                  refine gf_X10_40 48 dX10_facesBy_45 rfl rfl rfl rfl ?_
                  refine jr_iload_n 1 49 dX10_facesBy_48 rfl rfl rfl ?_
                  refine jr_iald rfl rfl (by omega) 50 dX10_facesBy_49 rfl ?_
                  refine jr_iload_n 2 51 dX10_facesBy_50 rfl rfl rfl ?_
                  refine jr_icmp_eq 57 54 dX10_facesBy_51 rfl rfl (fun q51 => ?_) (fun q => absurd hb q)
                  refine jr_iconst (nI 0) 58 dX10_facesBy_57 rfl rfl ?_
                  refine jr_istore (L' := [_, _, _, _, _, _, _, _, _]) 60 dX10_facesBy_58 rfl (by decide) rfl ?_
                  refine jr_iconst (nI 0) 61 dX10_facesBy_60 rfl rfl ?_
                  refine jr_istore (L' := [_, _, _, _, _, _, _, _, _]) 63 dX10_facesBy_61 rfl (by decide) rfl ?_
                  refine jr_iload 65 dX10_facesBy_63 rfl rfl ?_
                  refine jr_iload 67 dX10_facesBy_65 rfl rfl ?_
                  refine jr_icmp_ge 161 70 dX10_facesBy_67 rfl rfl (fun q67 => ?_) (fun q => absurd (Int32.le_refl _) q)
                  refine jr_iload 163 dX10_facesBy_161 rfl rfl ?_
                  refine jr_ireturn dX10_facesBy_163 rfl rfl ?_
                  exact ⟨rfl, IV_mov (iv_same_x (jr_eqx_rf [] _) (by decide)) h⟩
                · have z0 : c + nI 3 * nI 0 = c := by rw [show nI 3 * nI 0 = 0 from by decide, Int32.add_zero]
                  have t3 : (nI 3 * (nI 0 + nI 1)).toInt = 3 := by decide
                  have hfar : ¬ (0 ≤ c ∧ 0 ≤ nI 3 * (nI 0 + nI 1) ∧ c.toInt + (nI 3 * (nI 0 + nI 1)).toInt ≤ (σ 44 j).toInt) := by
                    rintro ⟨q1, -, q3⟩
                    rw [t3, e2.trans e4, nI_int (by omega)] at q3
                    refine hc ⟨q1, ?_⟩
                    rw [Int32.le_iff_toInt_le]
                    have : (40 : Int32).toInt = 40 := by decide
                    omega
                  by_cases c0 : c < 0
                  · refine jr_enter (L := [some (.ref 0), some (.int (nI j)), some (.int b), some (.int c), some (.int (nI N)), none, none, none, none]) (by decide) (Nat.le_of_ble_eq_true rfl) rfl ?_
                    refine jr_aload_n 0 1 dX9_facesBy_0 rfl rfl rfl ?_
                    refine gf_X9_57 4 dX9_facesBy_1 rfl rfl rfl rfl ?_
                    refine jr_iload_n 1 5 dX9_facesBy_4 rfl rfl rfl ?_
                    refine cs_X9_298 8 dX9_facesBy_5 rfl rfl rfl (Nat.le_of_ble_eq_true rfl) (wp_shasT hj ?_)
                    refine jr_if_eq 33 11 dX9_facesBy_8 rfl rfl (fun q => absurd q (by decide)) (fun q8 => ?_)
                    refine jr_iload_n 2 12 dX9_facesBy_11 rfl rfl rfl ?_
                    refine jr_if_lt 33 15 dX9_facesBy_12 rfl rfl (fun q => absurd q b0) (fun q12 => ?_)
                    refine jr_iload_n 2 16 dX9_facesBy_15 rfl rfl rfl ?_
                    refine jr_iconst (nI 2) 17 dX9_facesBy_16 rfl rfl ?_
                    refine jr_icmp_gt 33 20 dX9_facesBy_17 rfl rfl (fun q => absurd q b2) (fun q17 => ?_)
                    refine jr_iload 22 dX9_facesBy_20 rfl rfl ?_
                    refine jr_iconst (nI 5) 23 dX9_facesBy_22 rfl rfl ?_
                    refine cs_X9_104 26 dX9_facesBy_23 rfl rfl (Nat.le_of_ble_eq_true rfl) (wp_wiT hN (by decide) rfl ?_)
                    refine jr_if_eq 33 29 dX9_facesBy_26 rfl rfl (fun q => absurd q (by decide)) (fun q26 => ?_)
                    refine jr_iconst (1) 30 dX9_facesBy_29 rfl rfl ?_
                    refine jr_goto 34 dX9_facesBy_30 rfl ?_
                    refine jr_istore (L' := [_, _, _, _, _, _, _, _, _]) 36 dX9_facesBy_34 rfl (by decide) rfl ?_
                    refine jr_iload 38 dX9_facesBy_36 rfl rfl ?_
                    refine jr_if_ne 44 41 dX9_facesBy_38 rfl rfl (fun q38 => ?_) (fun q => absurd q (by decide))
                    refine jr_aload_n 0 45 dX9_facesBy_44 rfl rfl rfl ?_
                    refine gf_X9_57 48 dX9_facesBy_45 rfl rfl rfl rfl ?_
                    refine jr_iload_n 1 49 dX9_facesBy_48 rfl rfl rfl ?_
                    refine cs_X9_312 52 dX9_facesBy_49 rfl rfl rfl (Nat.le_of_ble_eq_true rfl) (wp_isMissing hj (fun q => absurd (e1.symm.trans q) hm) (fun _ => ?_))
                    refine jr_if_eq 58 55 dX9_facesBy_52 rfl rfl (fun q52 => ?_) (fun q => absurd (by decide) q)
                    refine jr_aload_n 0 59 dX9_facesBy_58 rfl rfl rfl ?_
                    refine gf_X9_57 62 dX9_facesBy_59 rfl rfl rfl rfl ?_
                    refine gf_X9_318 65 dX9_facesBy_62 rfl rfl rfl rfl ?_
                    refine jr_iload_n 1 66 dX9_facesBy_65 rfl rfl rfl ?_
                    refine jr_iald rfl rfl (by omega) 67 dX9_facesBy_66 rfl ?_
                    refine jr_iload_n 2 68 dX9_facesBy_67 rfl rfl rfl ?_
                    refine jr_icmp_eq 74 71 dX9_facesBy_68 rfl rfl (fun q68 => ?_) (fun q => absurd (e1.trans hb) q)
                    refine jr_iconst (nI 0) 75 dX9_facesBy_74 rfl rfl ?_
                    refine jr_istore (L' := [_, _, _, _, _, _, _, _, _]) 77 dX9_facesBy_75 rfl (by decide) rfl ?_
                    refine jr_iconst (nI 0) 78 dX9_facesBy_77 rfl rfl ?_
                    refine jr_istore (L' := [_, _, _, _, _, _, _, _, _]) 80 dX9_facesBy_78 rfl (by decide) rfl ?_
                    refine jr_iload 82 dX9_facesBy_80 rfl rfl ?_
                    refine jr_iload 84 dX9_facesBy_82 rfl rfl ?_
                    refine jr_icmp_ge 166 87 dX9_facesBy_84 rfl rfl (fun q => absurd q (nI_ge (by omega) (by omega))) (fun q84 => ?_)
                    refine jr_aload_n 0 88 dX9_facesBy_87 rfl rfl rfl ?_
                    refine gf_X9_57 91 dX9_facesBy_88 rfl rfl rfl rfl ?_
                    refine jr_iload_n 1 92 dX9_facesBy_91 rfl rfl rfl ?_
                    refine jr_iload_n 3 93 dX9_facesBy_92 rfl rfl rfl ?_
                    refine jr_iconst (nI 3) 94 dX9_facesBy_93 rfl rfl ?_
                    refine jr_iload 96 dX9_facesBy_94 rfl rfl ?_
                    refine jr_iconst (nI 1) 97 dX9_facesBy_96 rfl rfl ?_
                    refine jr_iadd 98 dX9_facesBy_97 rfl ?_
                    refine jr_imul 99 dX9_facesBy_98 rfl ?_
                    refine cs_X9_315 102 dX9_facesBy_99 rfl rfl rfl (Nat.le_of_ble_eq_true rfl) (wp_holds hj (fun i1 i2 i3 => absurd ⟨i1, i2, i3⟩ hfar) (fun _ => ?_))
                    refine jr_if_ne 108 105 dX9_facesBy_102 rfl rfl (fun q => absurd (by decide) q) (fun q102 => ?_)
                    refine jr_bipush ((-12)) 107 dX9_facesBy_105 rfl rfl ?_
                    refine jr_ireturn dX9_facesBy_107 rfl rfl ?_
                    refine jr_enter (L := [some (.ref 46), some (.int (nI j)), some (.int b), some (.int c), some (.int (nI N)), none, none, none, none]) (by decide) (Nat.le_of_ble_eq_true rfl) rfl ?_
                    refine jr_iload_n 1 1 dX10_facesBy_0 rfl rfl rfl ?_
                    refine jr_iconst (nI 0) 2 dX10_facesBy_1 rfl rfl ?_
                    refine jr_iconst (nI 3) 3 dX10_facesBy_2 rfl rfl ?_
                    refine cs_X10_108 6 dX10_facesBy_3 rfl rfl (Nat.le_of_ble_eq_true rfl) (wp_inT (m := 3) (by omega) (by decide) rfl ?_)
                    refine jr_if_eq 28 9 dX10_facesBy_6 rfl rfl (fun q => absurd q (by decide)) (fun q6 => ?_)
                    refine jr_iload_n 2 10 dX10_facesBy_9 rfl rfl rfl ?_
                    refine jr_iconst (nI 0) 11 dX10_facesBy_10 rfl rfl ?_
                    refine jr_iconst (nI 2) 12 dX10_facesBy_11 rfl rfl ?_
                    refine cs_X10_108 15 dX10_facesBy_12 rfl rfl (Nat.le_of_ble_eq_true rfl) (wp_in (fun _ _ => ?_) (fun q => absurd ⟨Int32.not_lt.mp b0, Int32.not_lt.mp b2⟩ q))
                    refine jr_if_eq 28 18 dX10_facesBy_15 rfl rfl (fun q => absurd q (by decide)) (fun q15 => ?_)
                    refine jr_iload 20 dX10_facesBy_18 rfl rfl ?_
                    refine jr_iconst (nI 0) 21 dX10_facesBy_20 rfl rfl ?_
                    refine jr_iconst (nI 5) 22 dX10_facesBy_21 rfl rfl ?_
                    refine cs_X10_108 25 dX10_facesBy_22 rfl rfl (Nat.le_of_ble_eq_true rfl) (wp_inT hN (by decide) rfl ?_)
                    refine jr_if_ne 31 28 dX10_facesBy_25 rfl rfl (fun q25 => ?_) (fun q => absurd q (by decide))
                    refine jr_aload_n 0 32 dX10_facesBy_31 rfl rfl rfl ?_
                    refine gf_X10_40 35 dX10_facesBy_32 rfl rfl rfl rfl ?_
                    refine jr_iload_n 1 36 dX10_facesBy_35 rfl rfl rfl ?_
                    refine jr_iald rfl rfl (by omega) 37 dX10_facesBy_36 rfl ?_
                    refine jr_iconst ((-1)) 38 dX10_facesBy_37 rfl rfl ?_
                    refine jr_icmp_ne 44 41 dX10_facesBy_38 rfl rfl (fun q38 => ?_) (fun q => absurd q hm)
                    refine jr_aload_n 0 45 dX10_facesBy_44 rfl rfl rfl ?_
                    refine gf_X10_40 48 dX10_facesBy_45 rfl rfl rfl rfl ?_
                    refine jr_iload_n 1 49 dX10_facesBy_48 rfl rfl rfl ?_
                    refine jr_iald rfl rfl (by omega) 50 dX10_facesBy_49 rfl ?_
                    refine jr_iload_n 2 51 dX10_facesBy_50 rfl rfl rfl ?_
                    refine jr_icmp_eq 57 54 dX10_facesBy_51 rfl rfl (fun q51 => ?_) (fun q => absurd hb q)
                    refine jr_iconst (nI 0) 58 dX10_facesBy_57 rfl rfl ?_
                    refine jr_istore (L' := [_, _, _, _, _, _, _, _, _]) 60 dX10_facesBy_58 rfl (by decide) rfl ?_
                    refine jr_iconst (nI 0) 61 dX10_facesBy_60 rfl rfl ?_
                    refine jr_istore (L' := [_, _, _, _, _, _, _, _, _]) 63 dX10_facesBy_61 rfl (by decide) rfl ?_
                    refine jr_iload 65 dX10_facesBy_63 rfl rfl ?_
                    refine jr_iload 67 dX10_facesBy_65 rfl rfl ?_
                    refine jr_icmp_ge 161 70 dX10_facesBy_67 rfl rfl (fun q => absurd q (nI_ge (by omega) (by omega))) (fun q67 => ?_)
                    refine jr_iload_n 3 71 dX10_facesBy_70 rfl rfl rfl ?_
                    refine jr_iconst (nI 3) 72 dX10_facesBy_71 rfl rfl ?_
                    refine jr_iload 74 dX10_facesBy_72 rfl rfl ?_
                    refine jr_imul 75 dX10_facesBy_74 rfl ?_
                    refine jr_iadd 76 dX10_facesBy_75 rfl ?_
                    rw [z0]
                    refine jr_istore (L' := [_, _, _, _, _, _, _, _, _]) 78 dX10_facesBy_76 rfl (by decide) rfl ?_
                    refine jr_iload_n 3 79 dX10_facesBy_78 rfl rfl rfl ?_
                    refine jr_if_lt 101 82 dX10_facesBy_79 rfl rfl (fun q79 => ?_) (fun q => absurd c0 q)
                    refine jr_bipush ((-12)) 103 dX10_facesBy_101 rfl rfl ?_
                    refine jr_ireturn dX10_facesBy_103 rfl rfl ?_
                    exact ⟨rfl, IV_mov (iv_same_x (jr_eqx_rf [] _) (by decide)) h⟩
                  · have c40 : ¬ c ≤ nI z - nI 3 := by
                      obtain ⟨x, hx, rfl⟩ := nI_of c0
                      refine z3_lt hz hx ?_
                      rcases Nat.lt_or_ge 40 x with q | q
                      · omega
                      · exact absurd ⟨nI_pos' hx, nI_le (b := 40) q (by omega)⟩ hc
                    refine jr_enter (L := [some (.ref 0), some (.int (nI j)), some (.int b), some (.int c), some (.int (nI N)), none, none, none, none]) (by decide) (Nat.le_of_ble_eq_true rfl) rfl ?_
                    refine jr_aload_n 0 1 dX9_facesBy_0 rfl rfl rfl ?_
                    refine gf_X9_57 4 dX9_facesBy_1 rfl rfl rfl rfl ?_
                    refine jr_iload_n 1 5 dX9_facesBy_4 rfl rfl rfl ?_
                    refine cs_X9_298 8 dX9_facesBy_5 rfl rfl rfl (Nat.le_of_ble_eq_true rfl) (wp_shasT hj ?_)
                    refine jr_if_eq 33 11 dX9_facesBy_8 rfl rfl (fun q => absurd q (by decide)) (fun q8 => ?_)
                    refine jr_iload_n 2 12 dX9_facesBy_11 rfl rfl rfl ?_
                    refine jr_if_lt 33 15 dX9_facesBy_12 rfl rfl (fun q => absurd q b0) (fun q12 => ?_)
                    refine jr_iload_n 2 16 dX9_facesBy_15 rfl rfl rfl ?_
                    refine jr_iconst (nI 2) 17 dX9_facesBy_16 rfl rfl ?_
                    refine jr_icmp_gt 33 20 dX9_facesBy_17 rfl rfl (fun q => absurd q b2) (fun q17 => ?_)
                    refine jr_iload 22 dX9_facesBy_20 rfl rfl ?_
                    refine jr_iconst (nI 5) 23 dX9_facesBy_22 rfl rfl ?_
                    refine cs_X9_104 26 dX9_facesBy_23 rfl rfl (Nat.le_of_ble_eq_true rfl) (wp_wiT hN (by decide) rfl ?_)
                    refine jr_if_eq 33 29 dX9_facesBy_26 rfl rfl (fun q => absurd q (by decide)) (fun q26 => ?_)
                    refine jr_iconst (1) 30 dX9_facesBy_29 rfl rfl ?_
                    refine jr_goto 34 dX9_facesBy_30 rfl ?_
                    refine jr_istore (L' := [_, _, _, _, _, _, _, _, _]) 36 dX9_facesBy_34 rfl (by decide) rfl ?_
                    refine jr_iload 38 dX9_facesBy_36 rfl rfl ?_
                    refine jr_if_ne 44 41 dX9_facesBy_38 rfl rfl (fun q38 => ?_) (fun q => absurd q (by decide))
                    refine jr_aload_n 0 45 dX9_facesBy_44 rfl rfl rfl ?_
                    refine gf_X9_57 48 dX9_facesBy_45 rfl rfl rfl rfl ?_
                    refine jr_iload_n 1 49 dX9_facesBy_48 rfl rfl rfl ?_
                    refine cs_X9_312 52 dX9_facesBy_49 rfl rfl rfl (Nat.le_of_ble_eq_true rfl) (wp_isMissing hj (fun q => absurd (e1.symm.trans q) hm) (fun _ => ?_))
                    refine jr_if_eq 58 55 dX9_facesBy_52 rfl rfl (fun q52 => ?_) (fun q => absurd (by decide) q)
                    refine jr_aload_n 0 59 dX9_facesBy_58 rfl rfl rfl ?_
                    refine gf_X9_57 62 dX9_facesBy_59 rfl rfl rfl rfl ?_
                    refine gf_X9_318 65 dX9_facesBy_62 rfl rfl rfl rfl ?_
                    refine jr_iload_n 1 66 dX9_facesBy_65 rfl rfl rfl ?_
                    refine jr_iald rfl rfl (by omega) 67 dX9_facesBy_66 rfl ?_
                    refine jr_iload_n 2 68 dX9_facesBy_67 rfl rfl rfl ?_
                    refine jr_icmp_eq 74 71 dX9_facesBy_68 rfl rfl (fun q68 => ?_) (fun q => absurd (e1.trans hb) q)
                    refine jr_iconst (nI 0) 75 dX9_facesBy_74 rfl rfl ?_
                    refine jr_istore (L' := [_, _, _, _, _, _, _, _, _]) 77 dX9_facesBy_75 rfl (by decide) rfl ?_
                    refine jr_iconst (nI 0) 78 dX9_facesBy_77 rfl rfl ?_
                    refine jr_istore (L' := [_, _, _, _, _, _, _, _, _]) 80 dX9_facesBy_78 rfl (by decide) rfl ?_
                    refine jr_iload 82 dX9_facesBy_80 rfl rfl ?_
                    refine jr_iload 84 dX9_facesBy_82 rfl rfl ?_
                    refine jr_icmp_ge 166 87 dX9_facesBy_84 rfl rfl (fun q => absurd q (nI_ge (by omega) (by omega))) (fun q84 => ?_)
                    refine jr_aload_n 0 88 dX9_facesBy_87 rfl rfl rfl ?_
                    refine gf_X9_57 91 dX9_facesBy_88 rfl rfl rfl rfl ?_
                    refine jr_iload_n 1 92 dX9_facesBy_91 rfl rfl rfl ?_
                    refine jr_iload_n 3 93 dX9_facesBy_92 rfl rfl rfl ?_
                    refine jr_iconst (nI 3) 94 dX9_facesBy_93 rfl rfl ?_
                    refine jr_iload 96 dX9_facesBy_94 rfl rfl ?_
                    refine jr_iconst (nI 1) 97 dX9_facesBy_96 rfl rfl ?_
                    refine jr_iadd 98 dX9_facesBy_97 rfl ?_
                    refine jr_imul 99 dX9_facesBy_98 rfl ?_
                    refine cs_X9_315 102 dX9_facesBy_99 rfl rfl rfl (Nat.le_of_ble_eq_true rfl) (wp_holds hj (fun i1 i2 i3 => absurd ⟨i1, i2, i3⟩ hfar) (fun _ => ?_))
                    refine jr_if_ne 108 105 dX9_facesBy_102 rfl rfl (fun q => absurd (by decide) q) (fun q102 => ?_)
                    refine jr_bipush ((-12)) 107 dX9_facesBy_105 rfl rfl ?_
                    refine jr_ireturn dX9_facesBy_107 rfl rfl ?_
                    refine jr_enter (L := [some (.ref 46), some (.int (nI j)), some (.int b), some (.int c), some (.int (nI N)), none, none, none, none]) (by decide) (Nat.le_of_ble_eq_true rfl) rfl ?_
                    refine jr_iload_n 1 1 dX10_facesBy_0 rfl rfl rfl ?_
                    refine jr_iconst (nI 0) 2 dX10_facesBy_1 rfl rfl ?_
                    refine jr_iconst (nI 3) 3 dX10_facesBy_2 rfl rfl ?_
                    refine cs_X10_108 6 dX10_facesBy_3 rfl rfl (Nat.le_of_ble_eq_true rfl) (wp_inT (m := 3) (by omega) (by decide) rfl ?_)
                    refine jr_if_eq 28 9 dX10_facesBy_6 rfl rfl (fun q => absurd q (by decide)) (fun q6 => ?_)
                    refine jr_iload_n 2 10 dX10_facesBy_9 rfl rfl rfl ?_
                    refine jr_iconst (nI 0) 11 dX10_facesBy_10 rfl rfl ?_
                    refine jr_iconst (nI 2) 12 dX10_facesBy_11 rfl rfl ?_
                    refine cs_X10_108 15 dX10_facesBy_12 rfl rfl (Nat.le_of_ble_eq_true rfl) (wp_in (fun _ _ => ?_) (fun q => absurd ⟨Int32.not_lt.mp b0, Int32.not_lt.mp b2⟩ q))
                    refine jr_if_eq 28 18 dX10_facesBy_15 rfl rfl (fun q => absurd q (by decide)) (fun q15 => ?_)
                    refine jr_iload 20 dX10_facesBy_18 rfl rfl ?_
                    refine jr_iconst (nI 0) 21 dX10_facesBy_20 rfl rfl ?_
                    refine jr_iconst (nI 5) 22 dX10_facesBy_21 rfl rfl ?_
                    refine cs_X10_108 25 dX10_facesBy_22 rfl rfl (Nat.le_of_ble_eq_true rfl) (wp_inT hN (by decide) rfl ?_)
                    refine jr_if_ne 31 28 dX10_facesBy_25 rfl rfl (fun q25 => ?_) (fun q => absurd q (by decide))
                    refine jr_aload_n 0 32 dX10_facesBy_31 rfl rfl rfl ?_
                    refine gf_X10_40 35 dX10_facesBy_32 rfl rfl rfl rfl ?_
                    refine jr_iload_n 1 36 dX10_facesBy_35 rfl rfl rfl ?_
                    refine jr_iald rfl rfl (by omega) 37 dX10_facesBy_36 rfl ?_
                    refine jr_iconst ((-1)) 38 dX10_facesBy_37 rfl rfl ?_
                    refine jr_icmp_ne 44 41 dX10_facesBy_38 rfl rfl (fun q38 => ?_) (fun q => absurd q hm)
                    refine jr_aload_n 0 45 dX10_facesBy_44 rfl rfl rfl ?_
                    refine gf_X10_40 48 dX10_facesBy_45 rfl rfl rfl rfl ?_
                    refine jr_iload_n 1 49 dX10_facesBy_48 rfl rfl rfl ?_
                    refine jr_iald rfl rfl (by omega) 50 dX10_facesBy_49 rfl ?_
                    refine jr_iload_n 2 51 dX10_facesBy_50 rfl rfl rfl ?_
                    refine jr_icmp_eq 57 54 dX10_facesBy_51 rfl rfl (fun q51 => ?_) (fun q => absurd hb q)
                    refine jr_iconst (nI 0) 58 dX10_facesBy_57 rfl rfl ?_
                    refine jr_istore (L' := [_, _, _, _, _, _, _, _, _]) 60 dX10_facesBy_58 rfl (by decide) rfl ?_
                    refine jr_iconst (nI 0) 61 dX10_facesBy_60 rfl rfl ?_
                    refine jr_istore (L' := [_, _, _, _, _, _, _, _, _]) 63 dX10_facesBy_61 rfl (by decide) rfl ?_
                    refine jr_iload 65 dX10_facesBy_63 rfl rfl ?_
                    refine jr_iload 67 dX10_facesBy_65 rfl rfl ?_
                    refine jr_icmp_ge 161 70 dX10_facesBy_67 rfl rfl (fun q => absurd q (nI_ge (by omega) (by omega))) (fun q67 => ?_)
                    refine jr_iload_n 3 71 dX10_facesBy_70 rfl rfl rfl ?_
                    refine jr_iconst (nI 3) 72 dX10_facesBy_71 rfl rfl ?_
                    refine jr_iload 74 dX10_facesBy_72 rfl rfl ?_
                    refine jr_imul 75 dX10_facesBy_74 rfl ?_
                    refine jr_iadd 76 dX10_facesBy_75 rfl ?_
                    rw [z0]
                    refine jr_istore (L' := [_, _, _, _, _, _, _, _, _]) 78 dX10_facesBy_76 rfl (by decide) rfl ?_
                    refine jr_iload_n 3 79 dX10_facesBy_78 rfl rfl rfl ?_
                    refine jr_if_lt 101 82 dX10_facesBy_79 rfl rfl (fun q => absurd q c0) (fun q79 => ?_)
                    refine jr_iload 84 dX10_facesBy_82 rfl rfl ?_
                    refine jr_iload_n 3 85 dX10_facesBy_84 rfl rfl rfl ?_
                    refine jr_icmp_lt 101 88 dX10_facesBy_85 rfl rfl (fun q => absurd q Int32.lt_irrefl) (fun q85 => ?_)
                    refine jr_iload 90 dX10_facesBy_88 rfl rfl ?_
                    refine jr_aload_n 0 91 dX10_facesBy_90 rfl rfl rfl ?_
                    refine gf_X10_43 94 dX10_facesBy_91 rfl rfl rfl rfl ?_
                    refine jr_iload_n 1 95 dX10_facesBy_94 rfl rfl rfl ?_
                    refine jr_iald rfl rfl (by omega) 96 dX10_facesBy_95 rfl ?_
                    rw [e4]
                    refine jr_iconst (nI 3) 97 dX10_facesBy_96 rfl rfl ?_
                    refine jr_isub 98 dX10_facesBy_97 rfl ?_
                    refine jr_icmp_le 104 101 dX10_facesBy_98 rfl rfl (fun q => absurd q c40) (fun q98 => ?_)
                    refine jr_bipush ((-12)) 103 dX10_facesBy_101 rfl rfl ?_
                    refine jr_ireturn dX10_facesBy_103 rfl rfl ?_
                    exact ⟨rfl, IV_mov (iv_same_x (jr_eqx_rf [] _) (by decide)) h⟩
            · refine jr_enter (L := [some (.ref 0), some (.int (nI j)), some (.int b), some (.int c), some (.int (nI N)), none, none, none, none]) (by decide) (Nat.le_of_ble_eq_true rfl) rfl ?_
              refine jr_aload_n 0 1 dX9_facesBy_0 rfl rfl rfl ?_
              refine gf_X9_57 4 dX9_facesBy_1 rfl rfl rfl rfl ?_
              refine jr_iload_n 1 5 dX9_facesBy_4 rfl rfl rfl ?_
              refine cs_X9_298 8 dX9_facesBy_5 rfl rfl rfl (Nat.le_of_ble_eq_true rfl) (wp_shasT hj ?_)
              refine jr_if_eq 33 11 dX9_facesBy_8 rfl rfl (fun q => absurd q (by decide)) (fun q8 => ?_)
              refine jr_iload_n 2 12 dX9_facesBy_11 rfl rfl rfl ?_
              refine jr_if_lt 33 15 dX9_facesBy_12 rfl rfl (fun q => absurd q b0) (fun q12 => ?_)
              refine jr_iload_n 2 16 dX9_facesBy_15 rfl rfl rfl ?_
              refine jr_iconst (2) 17 dX9_facesBy_16 rfl rfl ?_
              refine jr_icmp_gt 33 20 dX9_facesBy_17 rfl rfl (fun q => absurd q b2) (fun q17 => ?_)
              refine jr_iload 22 dX9_facesBy_20 rfl rfl ?_
              refine jr_iconst (5) 23 dX9_facesBy_22 rfl rfl ?_
              refine cs_X9_104 26 dX9_facesBy_23 rfl rfl (Nat.le_of_ble_eq_true rfl) (wp_wiT hN (by decide) rfl ?_)
              refine jr_if_eq 33 29 dX9_facesBy_26 rfl rfl (fun q => absurd q (by decide)) (fun q26 => ?_)
              refine jr_iconst (1) 30 dX9_facesBy_29 rfl rfl ?_
              refine jr_goto 34 dX9_facesBy_30 rfl ?_
              refine jr_istore (L' := [_, _, _, _, _, _, _, _, _]) 36 dX9_facesBy_34 rfl (by decide) rfl ?_
              refine jr_iload 38 dX9_facesBy_36 rfl rfl ?_
              refine jr_if_ne 44 41 dX9_facesBy_38 rfl rfl (fun q38 => ?_) (fun q => absurd q (by decide))
              refine jr_aload_n 0 45 dX9_facesBy_44 rfl rfl rfl ?_
              refine gf_X9_57 48 dX9_facesBy_45 rfl rfl rfl rfl ?_
              refine jr_iload_n 1 49 dX9_facesBy_48 rfl rfl rfl ?_
              refine cs_X9_312 52 dX9_facesBy_49 rfl rfl rfl (Nat.le_of_ble_eq_true rfl) (wp_isMissing hj (fun q => absurd (e1.symm.trans q) hm) (fun _ => ?_))
              refine jr_if_eq 58 55 dX9_facesBy_52 rfl rfl (fun q52 => ?_) (fun q => absurd (by decide) q)
              refine jr_aload_n 0 59 dX9_facesBy_58 rfl rfl rfl ?_
              refine gf_X9_57 62 dX9_facesBy_59 rfl rfl rfl rfl ?_
              refine gf_X9_318 65 dX9_facesBy_62 rfl rfl rfl rfl ?_
              refine jr_iload_n 1 66 dX9_facesBy_65 rfl rfl rfl ?_
              refine jr_iald rfl rfl (by omega) 67 dX9_facesBy_66 rfl ?_
              refine jr_iload_n 2 68 dX9_facesBy_67 rfl rfl rfl ?_
              refine jr_icmp_eq 74 71 dX9_facesBy_68 rfl rfl (fun q => absurd (e1.symm.trans q) hb) (fun q68 => ?_)
              refine jr_bipush ((-13)) 73 dX9_facesBy_71 rfl rfl ?_
              refine jr_ireturn dX9_facesBy_73 rfl rfl ?_
              refine jr_enter (L := [some (.ref 46), some (.int (nI j)), some (.int b), some (.int c), some (.int (nI N)), none, none, none, none]) (by decide) (Nat.le_of_ble_eq_true rfl) rfl ?_
              refine jr_iload_n 1 1 dX10_facesBy_0 rfl rfl rfl ?_
              refine jr_iconst (0) 2 dX10_facesBy_1 rfl rfl ?_
              refine jr_iconst (3) 3 dX10_facesBy_2 rfl rfl ?_
              refine cs_X10_108 6 dX10_facesBy_3 rfl rfl (Nat.le_of_ble_eq_true rfl) (wp_inT (m := 3) (by omega) (by decide) rfl ?_)
              refine jr_if_eq 28 9 dX10_facesBy_6 rfl rfl (fun q => absurd q (by decide)) (fun q6 => ?_)
              refine jr_iload_n 2 10 dX10_facesBy_9 rfl rfl rfl ?_
              refine jr_iconst (0) 11 dX10_facesBy_10 rfl rfl ?_
              refine jr_iconst (2) 12 dX10_facesBy_11 rfl rfl ?_
              refine cs_X10_108 15 dX10_facesBy_12 rfl rfl (Nat.le_of_ble_eq_true rfl) (wp_in (fun _ _ => ?_) (fun q => absurd ⟨Int32.not_lt.mp b0, Int32.not_lt.mp b2⟩ q))
              refine jr_if_eq 28 18 dX10_facesBy_15 rfl rfl (fun q => absurd q (by decide)) (fun q15 => ?_)
              refine jr_iload 20 dX10_facesBy_18 rfl rfl ?_
              refine jr_iconst (0) 21 dX10_facesBy_20 rfl rfl ?_
              refine jr_iconst (5) 22 dX10_facesBy_21 rfl rfl ?_
              refine cs_X10_108 25 dX10_facesBy_22 rfl rfl (Nat.le_of_ble_eq_true rfl) (wp_inT hN (by decide) rfl ?_)
              refine jr_if_ne 31 28 dX10_facesBy_25 rfl rfl (fun q25 => ?_) (fun q => absurd q (by decide))
              refine jr_aload_n 0 32 dX10_facesBy_31 rfl rfl rfl ?_
              refine gf_X10_40 35 dX10_facesBy_32 rfl rfl rfl rfl ?_
              refine jr_iload_n 1 36 dX10_facesBy_35 rfl rfl rfl ?_
              refine jr_iald rfl rfl (by omega) 37 dX10_facesBy_36 rfl ?_
              refine jr_iconst ((-1)) 38 dX10_facesBy_37 rfl rfl ?_
              refine jr_icmp_ne 44 41 dX10_facesBy_38 rfl rfl (fun q38 => ?_) (fun q => absurd q hm)
              refine jr_aload_n 0 45 dX10_facesBy_44 rfl rfl rfl ?_
              refine gf_X10_40 48 dX10_facesBy_45 rfl rfl rfl rfl ?_
              refine jr_iload_n 1 49 dX10_facesBy_48 rfl rfl rfl ?_
              refine jr_iald rfl rfl (by omega) 50 dX10_facesBy_49 rfl ?_
              refine jr_iload_n 2 51 dX10_facesBy_50 rfl rfl rfl ?_
              refine jr_icmp_eq 57 54 dX10_facesBy_51 rfl rfl (fun q => absurd q hb) (fun q51 => ?_)
              refine jr_bipush ((-13)) 56 dX10_facesBy_54 rfl rfl ?_
              refine jr_ireturn dX10_facesBy_56 rfl rfl ?_
              exact ⟨rfl, IV_mov (iv_same_x (jr_eqx_rf [] _) (by decide)) h⟩
  · refine jr_enter (L := [some (.ref 0), some (.int a), some (.int b), some (.int c), some (.int e), none, none, none, none]) (by decide) (Nat.le_of_ble_eq_true rfl) rfl ?_
    refine jr_aload_n 0 1 dX9_facesBy_0 rfl rfl rfl ?_
    refine gf_X9_57 4 dX9_facesBy_1 rfl rfl rfl rfl ?_
    refine jr_iload_n 1 5 dX9_facesBy_4 rfl rfl rfl ?_
    refine cs_X9_298 8 dX9_facesBy_5 rfl rfl rfl (Nat.le_of_ble_eq_true rfl) (wp_shasF ha ?_)
    refine jr_if_eq 33 11 dX9_facesBy_8 rfl rfl (fun q8 => ?_) (fun q => absurd (by decide) q)
    refine jr_iconst (0) 34 dX9_facesBy_33 rfl rfl ?_
    refine jr_istore (L' := [_, _, _, _, _, _, _, _, _]) 36 dX9_facesBy_34 rfl (by decide) rfl ?_
    refine jr_iload 38 dX9_facesBy_36 rfl rfl ?_
    refine jr_if_ne 44 41 dX9_facesBy_38 rfl rfl (fun q => absurd (by decide) q) (fun q38 => ?_)
    refine jr_bipush ((-2)) 43 dX9_facesBy_41 rfl rfl ?_
    refine jr_ireturn dX9_facesBy_43 rfl rfl ?_
    refine jr_enter (L := [some (.ref 46), some (.int a), some (.int b), some (.int c), some (.int e), none, none, none, none]) (by decide) (Nat.le_of_ble_eq_true rfl) rfl ?_
    refine jr_iload_n 1 1 dX10_facesBy_0 rfl rfl rfl ?_
    refine jr_iconst (0) 2 dX10_facesBy_1 rfl rfl ?_
    refine jr_iconst (3) 3 dX10_facesBy_2 rfl rfl ?_
    refine cs_X10_108 6 dX10_facesBy_3 rfl rfl (Nat.le_of_ble_eq_true rfl) (wp_inF ha ?_)
    refine jr_if_eq 28 9 dX10_facesBy_6 rfl rfl (fun q6 => ?_) (fun q => absurd (by decide) q)
    refine jr_bipush ((-2)) 30 dX10_facesBy_28 rfl rfl ?_
    refine jr_ireturn dX10_facesBy_30 rfl rfl ?_
    exact ⟨rfl, IV_mov (iv_same_x (jr_eqx_rf [] _) (by decide)) h⟩

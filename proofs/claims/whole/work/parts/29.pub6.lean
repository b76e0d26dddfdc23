def oT (o : Option Nat) : Int32 := match o with
  | some i => nI (10 * i)
  | none => -1
def dn : Nat → Int32
  | 0 => -10
  | m + 1 => nI (10 * m)
theorem dn_sub (m : Nat) : nI (10 * m) + Int32.ofInt (-10) = dn m := by
  cases m with
  | zero => rfl
  | succ m =>
    show nI (10 * (m + 1)) + Int32.ofInt (-10) = nI (10 * m)
    rw [show 10 * (m + 1) = 10 * m + 10 by omega, ← nI_add, Int32.add_assoc, show nI 10 + Int32.ofInt (-10) = 0 by decide, Int32.add_zero]
theorem up_ten (i : Nat) : nI (10 * i) + Int32.ofInt 10 = nI (10 * (i + 1)) := by
  rw [show Int32.ofInt 10 = nI 10 by decide, nI_add]
  rfl
def ln_P (T : Nat → Nat → List Nat) (lw nf nc : Nat) (kd se : Nat → Nat) (σ : jr_Sg) (j i : Nat) : Prop := ¬ tr_mo (sm_R T lw nf nc kd se (jr_up σ 50 j (nI (10 * i))) j) = 400
theorem line_x {G : jr_G} {d : Nat} {σ : jr_Sg} {k : Value → jr_Sg → Prop} {T : Nat → Nat → List Nat} {n nf nc lw tp j : Nat} {kd se : Nat → Nat} (h : iv T n nf nc kd se lw tp σ) (hj : j < nf) (fin : ∀ (σ1 : jr_Sg) (x : Int32), x = oT (ls (ln_P T lw nf nc kd se σ j) 40) → jr_eqx iv_CX σ σ1 → k (.int x) σ1) : ∀ (m : Nat) (σ1 : jr_Sg), m ≤ 40 → ls (ln_P T lw nf nc kd se σ j) m = ls (ln_P T lw nf nc kd se σ j) 40 → jr_eqx iv_CX σ σ1 → jr_R G (d + 19) mi_X9_line (jr_k k) 18 [some (.ref 0), some (.int (nI j)), some (.int (dn m))] [] σ1 := by
  have h5 : nf ≤ 5 := h.2.2.1.2.1.2.1
  have hlw := h.2.2.1.2.2.2.2.1
  intro m
  induction m with
  | zero =>
    intro σ1 hm hl g
    refine jr_iload_n 2 19 dX9_line_18 rfl rfl rfl ?_
    refine jr_if_lt 72 22 dX9_line_19 rfl rfl (fun q19 => ?_) (fun z => absurd (by decide) z)
    refine jr_iconst ((-1)) 73 dX9_line_72 rfl rfl ?_
    refine jr_ireturn dX9_line_73 rfl rfl ?_
    exact fin σ1 _ (by rw [← hl]; rfl) g
  | succ m ih =>
    intro σ1 hm hl g
    show jr_R G (d + 19) mi_X9_line (jr_k k) 18 [some (.ref 0), some (.int (nI j)), some (.int (nI (10 * m)))] [] σ1
    refine jr_iload_n 2 19 dX9_line_18 rfl rfl rfl ?_
    refine jr_if_lt 72 22 dX9_line_19 rfl rfl (fun z => absurd z (nI_pos (by omega))) (fun q19 => ?_)
    refine jr_aload_n 0 23 dX9_line_22 rfl rfl rfl ?_
    refine gf_X9_48 26 dX9_line_23 rfl rfl rfl rfl ?_
    refine jr_aload_n 0 27 dX9_line_26 rfl rfl rfl ?_
    refine gf_X9_44 30 dX9_line_27 rfl rfl rfl rfl ?_
    refine cs_X9_225 33 dX9_line_30 rfl rfl rfl (Nat.le_of_ble_eq_true rfl) (wp_become_24_15 (fun σ2 b => ?_))
    refine jr_aload_n 0 34 dX9_line_33 rfl rfl rfl ?_
    refine gf_X9_48 37 dX9_line_34 rfl rfl rfl rfl ?_
    refine gf_X9_149 40 dX9_line_37 rfl rfl rfl rfl ?_
    refine jr_iload_n 1 41 dX9_line_40 rfl rfl rfl ?_
    refine jr_iload_n 2 42 dX9_line_41 rfl rfl rfl ?_
    refine jr_iast rfl rfl (by omega) 43 dX9_line_42 rfl ?_
    have ht := th_warm (f := j) (v := nI (10 * m)) (th_become h g b)
    have g2 := bc_cx g b
    have g3 : jr_eqx iv_CX σ (jr_up σ2 27 j (nI (10 * m))) := jr_eqx_tr g2 (jr_eqx_up _ _ _ (by decide))
    have hT := ti_C_of h.1 (g3 1 (by decide)) (g3 2 (by decide)) (g3 3 (by decide))
    refine jr_aload_n 0 44 dX9_line_43 rfl rfl rfl ?_
    refine jr_iload_n 1 45 dX9_line_44 rfl rfl rfl ?_
    refine jr_bipush (nI 40) 47 dX9_line_45 rfl rfl ?_
    refine cs_X9_229 50 dX9_line_47 rfl rfl rfl (Nat.le_of_ble_eq_true rfl) (wp_playThought (len := 40) hT hlw ht (σR := jr_up σ 50 j (nI (10 * m))) (by have z := iv_none h; exact z) (by omega) hj (fun σ4 g4 g5 => ?_))
    refine jr_aload_n 0 51 dX9_line_50 rfl rfl rfl ?_
    refine gf_X9_37 54 dX9_line_51 rfl rfl rfl rfl ?_
    refine jr_iload_n 1 55 dX9_line_54 rfl rfl rfl ?_
    refine cs_X9_222 58 dX9_line_55 rfl rfl rfl (Nat.le_of_ble_eq_true rfl) (wp_mostWarmth (by omega) ?_)
    have e0 : ((sm_R T lw nf nc kd se (jr_up σ 50 j (nI (10 * m))) j) 0).1 = nI (10 * m) := by
      show upd (σ 50) j (nI (10 * m)) j = _
      exact pk_us
    have ele : tr_mo (sm_R T lw nf nc kd se (jr_up σ 50 j (nI (10 * m))) j) ≤ 400 := tr_mo_le (by
      show upd (σ 50) j (nI (10 * m)) j ≤ 400
      rw [pk_us]; exact nI_le (b := 400) (by omega) (by omega))
    refine jr_topi (y := tr_mo (sm_R T lw nf nc kd se (jr_up σ 50 j (nI (10 * m))) j)) (pd_mo g5 (by rw [e0]; exact nI_pos' (by omega))) ?_
    refine jr_sipush (nI 400) 61 dX9_line_58 rfl rfl ?_
    refine jr_icmp_ge 66 64 dX9_line_61 rfl rfl (fun q61 => ?_) (fun q61 => ?_)
    · refine jr_iinc (v := dn m) (L' := [_, _, _]) 69 dX9_line_66 rfl rfl (dn_sub m) (by decide) rfl ?_
      refine jr_goto 18 dX9_line_69 rfl ?_
      have hp : ¬ (ln_P T lw nf nc kd se σ j) m := fun q => q (Int32.le_antisymm ele q61)
      exact ih σ4 (by omega) (by rw [← hl, ls_f hp]) (jr_eqx_tr g3 (jr_eqx_w g4 (by decide)))
    · refine jr_iload_n 2 65 dX9_line_64 rfl rfl rfl ?_
      refine jr_ireturn dX9_line_65 rfl rfl ?_
      have hp : (ln_P T lw nf nc kd se σ j) m := fun q => absurd (show nI 400 ≤ tr_mo (sm_R T lw nf nc kd se (jr_up σ 50 j (nI (10 * m))) j) by rw [q]; decide) q61
      exact fin σ4 _ (by rw [← hl, ls_t hp]; rfl) (jr_eqx_tr g3 (jr_eqx_w g4 (by decide)))
theorem line_r {G : jr_G} {d : Nat} {σ : jr_Sg} {k : Value → jr_Sg → Prop} {T : Nat → Nat → List Nat} {n nf nc lw tp j : Nat} {kd se : Nat → Nat} (h : iv T n nf nc kd se lw tp σ) (hj : j < nf) {σ1 : jr_Sg} (g1 : jr_eqx iv_CX σ σ1) (fin : ∀ (σ2 : jr_Sg) (x : Int32) (x4 : Option Value), x = oT (ls (ln_P T lw nf nc kd se σ j) 40) → jr_eqx (50 :: iv_RX) σ1 σ2 → (∀ i, i ≠ j → σ2 50 i = σ1 50 i) → jr_R G (d + 20) mi_X10_line (jr_k k) 61 [some (.ref 46), some (.int (nI j)), some (.int (σ1 50 j)), some (.int x), x4] [] σ2) : ∀ (m i : Nat) (σ2 : jr_Sg) (x : Int32), i + m = 40 → x = oT (ls (ln_P T lw nf nc kd se σ j) i) → jr_eqx (50 :: iv_RX) σ1 σ2 → (∀ i, i ≠ j → σ2 50 i = σ1 50 i) → jr_R G (d + 20) mi_X10_line (jr_k k) 23 [some (.ref 46), some (.int (nI j)), some (.int (σ1 50 j)), some (.int x), some (.int (nI (10 * i)))] [] σ2 := by
  have h1 := iv_mov (iv_cx g1) h
  have r1 := rr_of h1
  have h5 : nf ≤ 5 := r1.1.2.1
  intro m
  induction m with
  | zero =>
    intro i σ2 x hi e g g50
    have ei : i = 40 := hi
    subst ei
    refine jr_iload 25 dX10_line_23 rfl rfl ?_
    refine jr_sipush (nI 390) 28 dX10_line_25 rfl rfl ?_
    refine jr_icmp_gt 61 31 dX10_line_28 rfl rfl (fun q28 => ?_) (fun z => absurd (by decide) z)
    exact fin σ2 _ _ e g g50
  | succ m ih =>
    intro i σ2 x hi e g g50
    have e50 : jr_eqx iv_RX (jr_up σ1 50 j (nI (10 * i))) (jr_up σ2 50 j (nI (10 * i))) := fun a ha => by
      unfold jr_up
      by_cases ea : a = 50
      · subst ea; rw [if_pos rfl, if_pos rfl]; exact up_back g50
      · rw [if_neg ea, if_neg ea]; exact g a (fun q => (List.mem_cons.mp q).elim ea ha)
    have r2 : rr_ok T n nf nc kd se lw (jr_up σ2 50 j (nI (10 * i))) := rr_x (rr_x r1 (jr_eqx_up (X := [50]) σ1 j (nI (10 * i)) (by decide)) (by decide)) e50 (by decide)
    have eW : sm_R T lw nf nc kd se (jr_up σ2 50 j (nI (10 * i))) j = sm_R T lw nf nc kd se (jr_up σ 50 j (nI (10 * i))) j := (sm_R_x e50 (by decide)).trans (sm_R_x (jr_eqx_upb g1 (by decide)) (by decide))
    have dY : (ln_P T lw nf nc kd se σ j) i → ¬ (if tr_mo (sm_R T lw nf nc kd se (jr_up σ2 50 j (nI (10 * i))) j) = 400 then 2 else if pr_rf kd se (jr_up σ2 50 j (nI (10 * i))) j ≤ ((sm_R T lw nf nc kd se (jr_up σ2 50 j (nI (10 * i))) j) 40).1 then 1 else 0) = (2 : Int32) := fun hp => by
      rw [eW, if_neg hp]
      split <;> decide
    have dN : ¬ (ln_P T lw nf nc kd se σ j) i → (if tr_mo (sm_R T lw nf nc kd se (jr_up σ2 50 j (nI (10 * i))) j) = 400 then 2 else if pr_rf kd se (jr_up σ2 50 j (nI (10 * i))) j ≤ ((sm_R T lw nf nc kd se (jr_up σ2 50 j (nI (10 * i))) j) 40).1 then 1 else 0) = (2 : Int32) := fun hp => by
      rw [eW, if_pos (Classical.not_not.mp hp)]
    refine jr_iload 25 dX10_line_23 rfl rfl ?_
    refine jr_sipush (nI 390) 28 dX10_line_25 rfl rfl ?_
    refine jr_icmp_gt 61 31 dX10_line_28 rfl rfl (fun z => absurd z (nI_nlt (b := 10 * i) (a := 390) (by omega) (by omega))) (fun q28 => ?_)
    refine jr_aload_n 0 32 dX10_line_31 rfl rfl rfl ?_
    refine gf_X10_19 35 dX10_line_32 rfl rfl rfl rfl ?_
    refine jr_iload_n 1 36 dX10_line_35 rfl rfl rfl ?_
    refine jr_iload 38 dX10_line_36 rfl rfl ?_
    refine jr_iast rfl rfl (by omega) 39 dX10_line_38 rfl ?_
    refine jr_aload_n 0 40 dX10_line_39 rfl rfl rfl ?_
    refine jr_iload_n 1 41 dX10_line_40 rfl rfl rfl ?_
    refine cs_X10_284 44 dX10_line_41 rfl rfl rfl (Nat.le_of_ble_eq_true rfl) (wp_diesNow r2 hj (fun σ3 g3 => ?_))
    have g4 : jr_eqx (50 :: iv_RX) σ1 σ3 := jr_eqx_tr (jr_eqx_tr g (jr_eqx_up _ _ _ (by decide))) (jr_eqx_w g3 (by decide))
    have g5 : ∀ i, i ≠ j → σ3 50 i = σ1 50 i := fun q hq => by
      rw [g3 50 (by decide)]
      exact (pk_un hq).trans (g50 q hq)
    refine jr_iconst (nI 2) 45 dX10_line_44 rfl rfl ?_
    refine jr_icmp_eq 53 48 dX10_line_45 rfl rfl (fun q45 => ?_) (fun q45 => ?_)
    · refine jr_iload_n 3 54 dX10_line_53 rfl rfl rfl ?_
      refine jr_istore_n 3 (L' := [_, _, _, _, _]) 55 dX10_line_54 rfl rfl (by decide) rfl ?_
      refine jr_iinc (v := nI (10 * (i + 1))) (L' := [_, _, _, _, _]) 58 dX10_line_55 rfl rfl (up_ten i) (by decide) rfl ?_
      refine jr_goto 23 dX10_line_58 rfl ?_
      have hp : ¬ (ln_P T lw nf nc kd se σ j) i := fun z => dY z q45
      exact ih (i + 1) σ3 _ (by omega) (by rw [ls_f hp]; exact e) g4 g5
    · refine jr_iload 50 dX10_line_48 rfl rfl ?_
      refine jr_goto 54 dX10_line_50 rfl ?_
      refine jr_istore_n 3 (L' := [_, _, _, _, _]) 55 dX10_line_54 rfl rfl (by decide) rfl ?_
      refine jr_iinc (v := nI (10 * (i + 1))) (L' := [_, _, _, _, _]) 58 dX10_line_55 rfl rfl (up_ten i) (by decide) rfl ?_
      refine jr_goto 23 dX10_line_58 rfl ?_
      have hp : (ln_P T lw nf nc kd se σ j) i := Classical.byContradiction (fun z => q45 (dN z))
      exact ih (i + 1) σ3 _ (by omega) (by rw [ls_t hp]; rfl) g4 g5
theorem pp_line {G : jr_G} {d : Nat} {σ : jr_Sg} {f : Int32} (h : IV σ) : jr_pair G (d + 20) mi_X9_line mi_X10_line [.int f] σ := by
  obtain ⟨T, n, nf, nc, kd, se, lw, tp, h⟩ := h
  have hh := h
  obtain ⟨hTC, hTR, ⟨hsc, hsr, hl1, hl2, hlw, hfc, hli, hca⟩, htp, himg, hsh, hrest, hwd⟩ := hh
  have hnf := hsc.1
  have h5 := hsc.2.1
  have hnc := hsc.2.2.1
  have h8 := hsc.2.2.2.1
  have rnf := hsr.1
  have rnc := hsr.2.2.1
  have hlm := hrest.2.2.2.1
  unfold jr_pair
  rcases jr_fc f h5 with hf | ⟨j, hj, rfl⟩
  · refine jr_enter (L := [some (.ref 0), some (.int f), none]) (by decide) (Nat.le_of_ble_eq_true rfl) rfl ?_
    refine jr_aload_n 0 1 dX9_line_0 rfl rfl rfl ?_
    refine gf_X9_44 4 dX9_line_1 rfl rfl rfl rfl ?_
    refine jr_iload_n 1 5 dX9_line_4 rfl rfl rfl ?_
    refine cs_X9_146 8 dX9_line_5 rfl rfl rfl (Nat.le_of_ble_eq_true rfl) (wp_has_15 hnf h5 (fun j hj e => absurd hf (by rw [e]; exact jr_fcn hj (by omega))) (fun _ => ?_))
    refine jr_if_ne 14 11 dX9_line_8 rfl rfl (fun q => absurd (by decide) q) (fun q8 => ?_)
    refine jr_bipush ((-5)) 13 dX9_line_11 rfl rfl ?_
    refine jr_ireturn dX9_line_13 rfl rfl ?_
    refine jr_enter (L := [some (.ref 46), some (.int f), none, none, none]) (by decide) (Nat.le_of_ble_eq_true rfl) rfl ?_
    refine jr_aload_n 0 1 dX10_line_0 rfl rfl rfl ?_
    refine jr_iload_n 1 2 dX10_line_1 rfl rfl rfl ?_
    refine cs_X10_204 5 dX10_line_2 rfl rfl rfl (Nat.le_of_ble_eq_true rfl) (wp_isFace rnf h5 (fun j hj e => absurd hf (by rw [e]; exact jr_fcn hj (by omega))) (fun _ => ?_))
    refine jr_if_ne 11 8 dX10_line_5 rfl rfl (fun q => absurd (by decide) q) (fun q5 => ?_)
    refine jr_bipush ((-5)) 10 dX10_line_8 rfl rfl ?_
    refine jr_ireturn dX10_line_10 rfl rfl ?_
    exact ⟨rfl, IV_mov (iv_same_x (jr_eqx_rf [] _) (by decide)) h⟩
  · refine jr_enter (L := [some (.ref 0), some (.int (nI j)), none]) (by decide) (Nat.le_of_ble_eq_true rfl) rfl ?_
    refine jr_aload_n 0 1 dX9_line_0 rfl rfl rfl ?_
    refine gf_X9_44 4 dX9_line_1 rfl rfl rfl rfl ?_
    refine jr_iload_n 1 5 dX9_line_4 rfl rfl rfl ?_
    refine cs_X9_146 8 dX9_line_5 rfl rfl rfl (Nat.le_of_ble_eq_true rfl) (wp_hasT_15 hnf h5 hj ?_)
    refine jr_if_ne 14 11 dX9_line_8 rfl rfl (fun q8 => ?_) (fun q => absurd q (by decide))
    refine jr_sipush (dn 40) 17 dX9_line_14 rfl rfl ?_
    refine jr_istore_n 2 (L' := [_, _, _]) 18 dX9_line_17 rfl rfl (by decide) rfl ?_
    refine line_x h hj (fun σ1 x e1 g1 => ?_) 40 σ (by omega) rfl (jr_eqx_rf _ _)
    have h1 := iv_mov (iv_cx g1) h
    have r1 := rr_of h1
    refine jr_enter (L := [some (.ref 46), some (.int (nI j)), none, none, none]) (by decide) (Nat.le_of_ble_eq_true rfl) rfl ?_
    refine jr_aload_n 0 1 dX10_line_0 rfl rfl rfl ?_
    refine jr_iload_n 1 2 dX10_line_1 rfl rfl rfl ?_
    refine cs_X10_204 5 dX10_line_2 rfl rfl rfl (Nat.le_of_ble_eq_true rfl) (wp_isFace r1.1.1 h5 (fun _ _ _ => ?_) (fun q => absurd q (jr_fcn hj (by omega))))
    refine jr_if_ne 11 8 dX10_line_5 rfl rfl (fun q5 => ?_) (fun q => absurd q (by decide))
    refine jr_aload_n 0 12 dX10_line_11 rfl rfl rfl ?_
    refine gf_X10_19 15 dX10_line_12 rfl rfl rfl rfl ?_
    refine jr_iload_n 1 16 dX10_line_15 rfl rfl rfl ?_
    refine jr_iald rfl rfl (by omega) 17 dX10_line_16 rfl ?_
    refine jr_istore_n 2 (L' := [_, _, _, _, _]) 18 dX10_line_17 rfl rfl (by decide) rfl ?_
    refine jr_iconst ((-1)) 19 dX10_line_18 rfl rfl ?_
    refine jr_istore_n 3 (L' := [_, _, _, _, _]) 20 dX10_line_19 rfl rfl (by decide) rfl ?_
    refine jr_iconst (nI (10 * 0)) 21 dX10_line_20 rfl rfl ?_
    refine jr_istore (L' := [_, _, _, _, _]) 23 dX10_line_21 rfl (by decide) rfl ?_
    refine line_r h hj g1 (fun σ2 x2 x4 e2 g2 g50 => ?_) 40 0 σ1 _ (by omega) rfl (jr_eqx_rf _ _) (fun _ _ => rfl)
    refine jr_aload_n 0 62 dX10_line_61 rfl rfl rfl ?_
    refine gf_X10_19 65 dX10_line_62 rfl rfl rfl rfl ?_
    refine jr_iload_n 1 66 dX10_line_65 rfl rfl rfl ?_
    refine jr_iload_n 2 67 dX10_line_66 rfl rfl rfl ?_
    refine jr_iast rfl rfl (by omega) 68 dX10_line_67 rfl ?_
    refine jr_iload_n 3 69 dX10_line_68 rfl rfl rfl ?_
    refine jr_ireturn dX10_line_69 rfl rfl ?_
    refine ⟨congrArg Value.int (e2.trans e1.symm), IV_mov (iv_same_tr (iv_cx g1) ⟨fun a ha => ?_, fun k hk => ?_⟩) h⟩
    · unfold jr_up
      by_cases ea : a = 50
      · subst ea; rw [if_pos rfl, up_back g50]; exact up_same _ _
      · rw [if_neg ea]; exact g2 a (by revert a; decide)
    · show σ2 46 k = σ1 46 k
      rw [g2 46 (by decide)]
/-- change: the seconds behind a, b: so many b gone through -/
def ci (A : Nat → Nat → Int32) (a : Nat) (s0 : Int32 × Int32) : Nat → Int32 × Int32
  | 0 => s0
  | n + 1 => if A a (a + 1 + n) < (ci A a s0 n).2 then (nI (10 * a + (a + 1 + n)), A a (a + 1 + n)) else ci A a s0 n
def co (A : Nat → Nat → Int32) (nf : Nat) (l0 : Int32) : Nat → Int32 × Int32
  | 0 => (-1, l0)
  | a + 1 => ci A a (co A nf l0 a) (nf - (a + 1))
theorem ci_t {A : Nat → Nat → Int32} {a n : Nat} {s0 : Int32 × Int32} {x y : Int32} (e : (x, y) = ci A a s0 n) (h : A a (a + 1 + n) < y) : (nI (10 * a + (a + 1 + n)), A a (a + 1 + n)) = ci A a s0 (n + 1) := by rw [ci, ← e, if_pos h]
theorem ci_k {A : Nat → Nat → Int32} {a n : Nat} {s0 : Int32 × Int32} {x y : Int32} (e : (x, y) = ci A a s0 n) (h : y ≤ A a (a + 1 + n)) : (x, y) = ci A a s0 (n + 1) := by rw [ci, ← e, if_neg (Int32.not_lt.mpr h)]
theorem chg_ix (a b : Nat) : nI 10 * nI a + nI b = nI (10 * a + b) := by rw [pk_mul, nI_add]
noncomputable def ch_A (T : Nat → Nat → List Nat) (lw nf nc : Nat) (kd se : Nat → Nat) (σ : jr_Sg) (a b : Nat) : Int32 := ra_A T lw nf nc kd (mv_se σ nf a (se b)) σ
theorem change_xi {G : jr_G} {d : Nat} {σ : jr_Sg} {k : Value → jr_Sg → Prop} {T : Nat → Nat → List Nat} {n nf nc lw tp : Nat} {kd se : Nat → Nat} {c2 : Int32} (h : iv T n nf nc kd se lw tp σ) {a : Nat} (ha : a < nf) {s0 : Int32 × Int32} (fin : ∀ (σ1 : jr_Sg) (x y : Int32) (x5 x6 : Option Value), (x, y) = ci (ch_A T lw nf nc kd se σ) a s0 (nf - (a + 1)) → jr_eqx iv_CX σ σ1 → jr_R G (d + 19) mi_X9_change (jr_k k) 141 [some (.ref 0), some (.int c2), some (.int y), some (.int x), some (.int (nI a)), x5, x6] [] σ1) : ∀ (m n : Nat) (σ1 : jr_Sg) (x y : Int32) (x6 : Option Value), a + 1 + n + m = nf → (x, y) = ci (ch_A T lw nf nc kd se σ) a s0 n → jr_eqx iv_CX σ σ1 → jr_R G (d + 19) mi_X9_change (jr_k k) 54 [some (.ref 0), some (.int c2), some (.int y), some (.int x), some (.int (nI a)), some (.int (nI (a + 1 + n))), x6] [] σ1 := by
  have h5 : nf ≤ 5 := h.2.2.1.2.1.2.1
  have hlw := h.2.2.1.2.2.2.2.1
  have hsr := h.2.2.1.2.1
  intro m
  induction m with
  | zero =>
    intro n σ1 x y x6 hi e g
    have en : n = nf - (a + 1) := by omega
    subst en
    have hnf1 : σ1 15 8 = nI nf := by rw [g 15 (by decide)]; exact h.2.2.1.1.1
    refine jr_iload 56 dX9_change_54 rfl rfl ?_
    refine jr_aload_n 0 57 dX9_change_56 rfl rfl rfl ?_
    refine gf_X9_44 60 dX9_change_57 rfl rfl rfl rfl ?_
    refine gf_X9_84 63 dX9_change_60 rfl rfl rfl rfl ?_
    rw [hnf1]
    refine jr_icmp_ge 141 66 dX9_change_63 rfl rfl (fun q63 => ?_) (fun z => absurd (by rw [show a + 1 + (nf - (a + 1)) = nf by omega]; exact Int32.le_refl _) z)
    exact fin σ1 _ _ _ _ e g
  | succ m ih =>
    intro n σ1 x y x6 hi e g
    have hnf1 : σ1 15 8 = nI nf := by rw [g 15 (by decide)]; exact h.2.2.1.1.1
    have hb : a + 1 + n < nf := by omega
    have hs := (hsr.2.2.2.2 (a + 1 + n) hb).2.1
    refine jr_iload 56 dX9_change_54 rfl rfl ?_
    refine jr_aload_n 0 57 dX9_change_56 rfl rfl rfl ?_
    refine gf_X9_44 60 dX9_change_57 rfl rfl rfl rfl ?_
    refine gf_X9_84 63 dX9_change_60 rfl rfl rfl rfl ?_
    rw [hnf1]
    refine jr_icmp_ge 141 66 dX9_change_63 rfl rfl (fun z => absurd z (nI_ge hb (by omega))) (fun q63 => ?_)
    refine jr_iload 68 dX9_change_66 rfl rfl ?_
    refine jr_iconst (nI 5) 69 dX9_change_68 rfl rfl ?_
    refine jr_icmp_ge 141 72 dX9_change_69 rfl rfl (fun z => absurd z (nI_ge (b := 5) (by omega) (by decide))) (fun q69 => ?_)
    refine jr_aload_n 0 73 dX9_change_72 rfl rfl rfl ?_
    refine gf_X9_48 76 dX9_change_73 rfl rfl rfl rfl ?_
    refine jr_aload_n 0 77 dX9_change_76 rfl rfl rfl ?_
    refine gf_X9_44 80 dX9_change_77 rfl rfl rfl rfl ?_
    refine cs_X9_225 83 dX9_change_80 rfl rfl rfl (Nat.le_of_ble_eq_true rfl) (wp_become_24_15 (fun σ2 b => ?_))
    have ht := th_become h g b
    have g2 := bc_cx g b
    have e19 : σ2 19 (a + 1 + n) = nI (se (a + 1 + n)) := by rw [b.1 19 (by omega), g 19 (by decide)]; exact (h.2.2.1.1.2.2.2.2 _ hb).2.2.2
    refine jr_aload_n 0 84 dX9_change_83 rfl rfl rfl ?_
    refine gf_X9_48 87 dX9_change_84 rfl rfl rfl rfl ?_
    refine jr_iload 89 dX9_change_87 rfl rfl ?_
    refine jr_aload_n 0 90 dX9_change_89 rfl rfl rfl ?_
    refine gf_X9_44 93 dX9_change_90 rfl rfl rfl rfl ?_
    refine gf_X9_152 96 dX9_change_93 rfl rfl rfl rfl ?_
    refine jr_iload 98 dX9_change_96 rfl rfl ?_
    refine jr_iald rfl rfl (by omega) 99 dX9_change_98 rfl ?_
    refine jr_topi (y := nI (se (a + 1 + n))) e19 ?_
    refine cs_X9_155 102 dX9_change_99 rfl rfl rfl (Nat.le_of_ble_eq_true rfl) (wp_move_24 ht.1.1 h5 ha hs ?_)
    have ht2 := th_seat hsr ht ha hs
    have g3 : jr_eqx iv_CX σ (jr_upc σ2 28 (pu_move (σ2 28) nf a (nI (se (a + 1 + n))))) := jr_eqx_tr g2 (jr_eqx_upc _ _ (by decide))
    have hT := ti_C_of h.1 (g3 1 (by decide)) (g3 2 (by decide)) (g3 3 (by decide))
    refine jr_aload_n 0 103 dX9_change_102 rfl rfl rfl ?_
    refine jr_bipush (nI 40) 105 dX9_change_103 rfl rfl ?_
    refine cs_X9_262 108 dX9_change_105 rfl rfl rfl (Nat.le_of_ble_eq_true rfl) (wp_playAllThought (len := 40) hT hlw ht2 (iv_none h) (by omega) (fun σ4 g4 g6 g5 => ?_))
    refine jr_aload_n 0 109 dX9_change_108 rfl rfl rfl ?_
    refine gf_X9_37 112 dX9_change_109 rfl rfl rfl rfl ?_
    refine cs_X9_259 115 dX9_change_112 rfl rfl rfl (Nat.le_of_ble_eq_true rfl) (wp_redSecondsOfAll (nf := nf) g6 h5 ?_)
    refine jr_topi (y := (ch_A T lw nf nc kd se σ) a (a + 1 + n)) (lp_congr (fun f hf x => by rw [pd_rs (g5 f hf)])) ?_
    refine jr_istore (L' := [_, _, _, _, _, _, _]) 117 dX9_change_115 rfl (by decide) rfl ?_
    refine jr_iload 119 dX9_change_117 rfl rfl ?_
    refine jr_iload_n 2 120 dX9_change_119 rfl rfl rfl ?_
    refine jr_icmp_ge 135 123 dX9_change_120 rfl rfl (fun q120 => ?_) (fun q120 => ?_)
    · refine jr_iinc (v := nI (a + 1 + (n + 1))) (L' := [_, _, _, _, _, _, _]) 138 dX9_change_135 rfl rfl (nI_1 _) (by decide) rfl ?_
      refine jr_goto 54 dX9_change_138 rfl ?_
      exact ih (n + 1) σ4 _ _ _ (by omega) (ci_k (A := (ch_A T lw nf nc kd se σ)) e q120) (jr_eqx_tr g3 (jr_eqx_w g4 (by decide)))
    · refine jr_iload 125 dX9_change_123 rfl rfl ?_
      refine jr_istore_n 2 (L' := [_, _, _, _, _, _, _]) 126 dX9_change_125 rfl rfl (by decide) rfl ?_
      refine jr_bipush (nI 10) 128 dX9_change_126 rfl rfl ?_
      refine jr_iload 130 dX9_change_128 rfl rfl ?_
      refine jr_imul 131 dX9_change_130 rfl ?_
      refine jr_iload 133 dX9_change_131 rfl rfl ?_
      refine jr_iadd 134 dX9_change_133 rfl ?_
      rw [chg_ix]
      refine jr_istore_n 3 (L' := [_, _, _, _, _, _, _]) 135 dX9_change_134 rfl rfl (by decide) rfl ?_
      refine jr_iinc (v := nI (a + 1 + (n + 1))) (L' := [_, _, _, _, _, _, _]) 138 dX9_change_135 rfl rfl (nI_1 _) (by decide) rfl ?_
      refine jr_goto 54 dX9_change_138 rfl ?_
      exact ih (n + 1) σ4 _ _ _ (by omega) (ci_t (A := (ch_A T lw nf nc kd se σ)) e (Int32.not_le.mp q120)) (jr_eqx_tr g3 (jr_eqx_w g4 (by decide)))
theorem change_xo {G : jr_G} {d : Nat} {σ : jr_Sg} {k : Value → jr_Sg → Prop} {T : Nat → Nat → List Nat} {n nf nc lw tp : Nat} {kd se : Nat → Nat} {c2 : Int32} (h : iv T n nf nc kd se lw tp σ) (fin : ∀ (σ1 : jr_Sg) (x y : Int32) (x4 x5 x6 : Option Value), (x, y) = co (ch_A T lw nf nc kd se σ) nf (ra_A T lw nf nc kd se σ) nf → jr_eqx iv_CX σ σ1 → jr_R G (d + 19) mi_X9_change (jr_k k) 147 [some (.ref 0), some (.int c2), some (.int y), some (.int x), x4, x5, x6] [] σ1) : ∀ (m a : Nat) (σ1 : jr_Sg) (x y : Int32) (x5 x6 : Option Value), a + m = nf → (x, y) = co (ch_A T lw nf nc kd se σ) nf (ra_A T lw nf nc kd se σ) a → jr_eqx iv_CX σ σ1 → jr_R G (d + 19) mi_X9_change (jr_k k) 30 [some (.ref 0), some (.int c2), some (.int y), some (.int x), some (.int (nI a)), x5, x6] [] σ1 := by
  have h5 : nf ≤ 5 := h.2.2.1.2.1.2.1
  intro m
  induction m with
  | zero =>
    intro a σ1 x y x5 x6 hi e g
    have ea : a = nf := hi
    subst ea
    have hnf1 : σ1 15 8 = nI a := by rw [g 15 (by decide)]; exact h.2.2.1.1.1
    refine jr_iload 32 dX9_change_30 rfl rfl ?_
    refine jr_aload_n 0 33 dX9_change_32 rfl rfl rfl ?_
    refine gf_X9_44 36 dX9_change_33 rfl rfl rfl rfl ?_
    refine gf_X9_84 39 dX9_change_36 rfl rfl rfl rfl ?_
    rw [hnf1]
    refine jr_icmp_ge 147 42 dX9_change_39 rfl rfl (fun q39 => ?_) (fun z => absurd (Int32.le_refl _) z)
    exact fin σ1 _ _ _ _ _ e g
  | succ m ih =>
    intro a σ1 x y x5 x6 hi e g
    have hnf1 : σ1 15 8 = nI nf := by rw [g 15 (by decide)]; exact h.2.2.1.1.1
    refine jr_iload 32 dX9_change_30 rfl rfl ?_
    refine jr_aload_n 0 33 dX9_change_32 rfl rfl rfl ?_
    refine gf_X9_44 36 dX9_change_33 rfl rfl rfl rfl ?_
    refine gf_X9_84 39 dX9_change_36 rfl rfl rfl rfl ?_
    rw [hnf1]
    refine jr_icmp_ge 147 42 dX9_change_39 rfl rfl (fun z => absurd z (nI_ge (by omega) (by omega))) (fun q39 => ?_)
    refine jr_iload 44 dX9_change_42 rfl rfl ?_
    refine jr_iconst (nI 5) 45 dX9_change_44 rfl rfl ?_
    refine jr_icmp_ge 147 48 dX9_change_45 rfl rfl (fun z => absurd z (nI_ge (b := 5) (by omega) (by decide))) (fun q45 => ?_)
    refine jr_iload 50 dX9_change_48 rfl rfl ?_
    refine jr_iconst (nI 1) 51 dX9_change_50 rfl rfl ?_
    refine jr_iadd 52 dX9_change_51 rfl ?_
    rw [nI_add]
    refine jr_istore (L' := [_, _, _, _, _, _, _]) 54 dX9_change_52 rfl (by decide) rfl ?_
    refine change_xi h (a := a) (by omega) (s0 := (x, y)) (fun σ2 x2 y2 z5 z6 e2 g2 => ?_) (nf - (a + 1)) 0 σ1 _ _ _ (by omega) rfl g
    refine jr_iinc (v := nI (a + 1)) (L' := [_, _, _, _, _, _, _]) 144 dX9_change_141 rfl rfl (nI_1 a) (by decide) rfl ?_
    refine jr_goto 30 dX9_change_144 rfl ?_
    exact ih (a + 1) σ2 _ _ _ _ (by omega) (by rw [co, ← e]; exact e2) g2
theorem change_ri {G : jr_G} {d : Nat} {σ : jr_Sg} {k : Value → jr_Sg → Prop} {T : Nat → Nat → List Nat} {n nf nc lw tp : Nat} {kd se : Nat → Nat} {c2 : Int32} (h : iv T n nf nc kd se lw tp σ) {σ1 : jr_Sg} (g1 : jr_eqx iv_CX σ σ1) {a : Nat} (ha : a < nf) {s0 : Int32 × Int32} (fin : ∀ (σ2 : jr_Sg) (x y : Int32) (x5 x6 : Option Value), (x, y) = ci (ch_A T lw nf nc kd se σ) a s0 (nf - (a + 1)) → jr_eqx (72 :: iv_RX) σ1 σ2 → (∀ i, i < 5 → σ2 72 i = σ2 51 i) → jr_R G (d + 20) mi_X10_change (jr_k k) 112 [some (.ref 46), some (.int c2), some (.int x), some (.int y), some (.int (nI a)), x5, x6] [] σ2) : ∀ (m n : Nat) (σ2 : jr_Sg) (x y : Int32) (x6 : Option Value), a + 1 + n + m = nf → (x, y) = ci (ch_A T lw nf nc kd se σ) a s0 n → jr_eqx (72 :: iv_RX) σ1 σ2 → (∀ i, i < 5 → σ2 72 i = σ2 51 i) → jr_R G (d + 20) mi_X10_change (jr_k k) 41 [some (.ref 46), some (.int c2), some (.int x), some (.int y), some (.int (nI a)), some (.int (nI (a + 1 + n))), x6] [] σ2 := by
  have h1 := iv_mov (iv_cx g1) h
  have r1 := rr_of h1
  have h5 : nf ≤ 5 := r1.1.2.1
  intro m
  induction m with
  | zero =>
    intro n σ2 x y x6 hi e g g72
    have en : n = nf - (a + 1) := by omega
    subst en
    have hnf1 : σ2 46 1 = nI nf := by rw [g 46 (by decide)]; exact r1.1.1
    refine jr_iload 43 dX10_change_41 rfl rfl ?_
    refine jr_aload_n 0 44 dX10_change_43 rfl rfl rfl ?_
    refine gf_X10_105 47 dX10_change_44 rfl rfl rfl rfl ?_
    rw [hnf1]
    refine jr_icmp_ge 112 50 dX10_change_47 rfl rfl (fun q47 => ?_) (fun z => absurd (by rw [show a + 1 + (nf - (a + 1)) = nf by omega]; exact Int32.le_refl _) z)
    exact fin σ2 _ _ _ _ e g g72
  | succ m ih =>
    intro n σ2 x y x6 hi e g g72
    have r2 := rr_x r1 g (by decide)
    have hnf1 : σ2 46 1 = nI nf := r2.1.1
    have hb : a + 1 + n < nf := by omega
    have hs := (r1.1.2.2.2.2 (a + 1 + n) hb).2.1
    have es : σ2 51 (a + 1 + n) = nI (se (a + 1 + n)) := (r2.1.2.2.2.2 _ hb).2.2.2.1
    have e51 : σ2 51 = σ 51 := (g 51 (by decide)).trans (g1 51 (by decide))
    have emv : mv_se σ2 nf a (se (a + 1 + n)) = mv_se σ nf a (se (a + 1 + n)) := by unfold mv_se; rw [e51]
    have eA : ra_A T lw nf nc kd (mv_se σ2 nf a (se (a + 1 + n))) (jr_upc σ2 51 (pu_move (σ2 51) nf a (nI (se (a + 1 + n))))) = (ch_A T lw nf nc kd se σ) a (a + 1 + n) := by
      rw [ra_A_x (jr_eqx_upc (X := [51]) _ _ (by decide)) (by decide), ra_A_x g (by decide), ra_A_x g1 (by decide), emv]
      rfl
    refine jr_iload 43 dX10_change_41 rfl rfl ?_
    refine jr_aload_n 0 44 dX10_change_43 rfl rfl rfl ?_
    refine gf_X10_105 47 dX10_change_44 rfl rfl rfl rfl ?_
    rw [hnf1]
    refine jr_icmp_ge 112 50 dX10_change_47 rfl rfl (fun z => absurd z (nI_ge hb (by omega))) (fun q47 => ?_)
    refine jr_aload_n 0 51 dX10_change_50 rfl rfl rfl ?_
    refine jr_iload 53 dX10_change_51 rfl rfl ?_
    refine jr_aload_n 0 54 dX10_change_53 rfl rfl rfl ?_
    refine gf_X10_22 57 dX10_change_54 rfl rfl rfl rfl ?_
    refine jr_iload 59 dX10_change_57 rfl rfl ?_
    refine jr_iald rfl rfl (by omega) 60 dX10_change_59 rfl ?_
    refine jr_topi (y := nI (se (a + 1 + n))) es ?_
    refine cs_X10_207 63 dX10_change_60 rfl rfl rfl (Nat.le_of_ble_eq_true rfl) (wp_sits r2.1.1 h5 ha ?_)
    refine jr_pop 64 dX10_change_63 rfl rfl ?_
    refine jr_aload_n 0 65 dX10_change_64 rfl rfl rfl ?_
    refine cs_X10_304 68 dX10_change_65 rfl rfl rfl (Nat.le_of_ble_eq_true rfl) (wp_redOfAll (rr_seat r2 ha hs) (fun σ3 g3 => ?_))
    refine jr_topi (y := (ch_A T lw nf nc kd se σ) a (a + 1 + n)) eA ?_
    refine jr_istore (L' := [_, _, _, _, _, _, _]) 70 dX10_change_68 rfl (by decide) rfl ?_
    refine jr_aload_n 0 71 dX10_change_70 rfl rfl rfl ?_
    refine cs_X10_301 74 dX10_change_71 rfl rfl rfl (Nat.le_of_ble_eq_true rfl) (wp_laysSeats (fun σ4 l1 l2 l3 => ?_))
    by_cases q77 : y ≤ (ch_A T lw nf nc kd se σ) a (a + 1 + n)
    · obtain ⟨g4, g5⟩ := lay_back (nf := nf) g g72 (fun i hi => mv_far ha (by omega)) g3 l1 l2 l3
      refine jr_iload 76 dX10_change_74 rfl rfl ?_
      refine jr_iload_n 3 77 dX10_change_76 rfl rfl rfl ?_
      refine jr_icmp_ge 91 80 dX10_change_77 rfl rfl (fun _ => ?_) (fun q => absurd q77 q)
      refine jr_iload_n 2 92 dX10_change_91 rfl rfl rfl ?_
      refine jr_istore_n 2 (L' := [_, _, _, _, _, _, _]) 93 dX10_change_92 rfl rfl (by decide) rfl ?_
      refine jr_iload 95 dX10_change_93 rfl rfl ?_
      refine jr_iload_n 3 96 dX10_change_95 rfl rfl rfl ?_
      refine jr_icmp_ge 104 99 dX10_change_96 rfl rfl (fun q96 => ?_) (fun q => absurd q77 q)
      refine jr_iload_n 3 105 dX10_change_104 rfl rfl rfl ?_
      refine jr_istore_n 3 (L' := [_, _, _, _, _, _, _]) 106 dX10_change_105 rfl rfl (by decide) rfl ?_
      refine jr_iinc (v := nI (a + 1 + (n + 1))) (L' := [_, _, _, _, _, _, _]) 109 dX10_change_106 rfl rfl (nI_1 _) (by decide) rfl ?_
      refine jr_goto 41 dX10_change_109 rfl ?_
      exact ih (n + 1) σ4 _ _ _ (by omega) (ci_k (A := (ch_A T lw nf nc kd se σ)) e q77) g4 g5
    · obtain ⟨g4, g5⟩ := lay_back (nf := nf) g g72 (fun i hi => mv_far ha (by omega)) g3 l1 l2 l3
      refine jr_iload 76 dX10_change_74 rfl rfl ?_
      refine jr_iload_n 3 77 dX10_change_76 rfl rfl rfl ?_
      refine jr_icmp_ge 91 80 dX10_change_77 rfl rfl (fun q => absurd q q77) (fun _ => ?_)
      refine jr_bipush (nI 10) 82 dX10_change_80 rfl rfl ?_
      refine jr_iload 84 dX10_change_82 rfl rfl ?_
      refine jr_imul 85 dX10_change_84 rfl ?_
      refine jr_iload 87 dX10_change_85 rfl rfl ?_
      refine jr_iadd 88 dX10_change_87 rfl ?_
      rw [chg_ix]
      refine jr_goto 92 dX10_change_88 rfl ?_
      refine jr_istore_n 2 (L' := [_, _, _, _, _, _, _]) 93 dX10_change_92 rfl rfl (by decide) rfl ?_
      refine jr_iload 95 dX10_change_93 rfl rfl ?_
      refine jr_iload_n 3 96 dX10_change_95 rfl rfl rfl ?_
      refine jr_icmp_ge 104 99 dX10_change_96 rfl rfl (fun q => absurd q q77) (fun q96 => ?_)
      refine jr_iload 101 dX10_change_99 rfl rfl ?_
      refine jr_goto 105 dX10_change_101 rfl ?_
      refine jr_istore_n 3 (L' := [_, _, _, _, _, _, _]) 106 dX10_change_105 rfl rfl (by decide) rfl ?_
      refine jr_iinc (v := nI (a + 1 + (n + 1))) (L' := [_, _, _, _, _, _, _]) 109 dX10_change_106 rfl rfl (nI_1 _) (by decide) rfl ?_
      refine jr_goto 41 dX10_change_109 rfl ?_
      exact ih (n + 1) σ4 _ _ _ (by omega) (ci_t (A := (ch_A T lw nf nc kd se σ)) e (Int32.not_le.mp q77)) g4 g5
theorem change_ro {G : jr_G} {d : Nat} {σ : jr_Sg} {k : Value → jr_Sg → Prop} {T : Nat → Nat → List Nat} {n nf nc lw tp : Nat} {kd se : Nat → Nat} {c2 : Int32} (h : iv T n nf nc kd se lw tp σ) {σ1 : jr_Sg} (g1 : jr_eqx iv_CX σ σ1) (fin : ∀ (σ2 : jr_Sg) (x y : Int32) (x4 x5 x6 : Option Value), (x, y) = co (ch_A T lw nf nc kd se σ) nf (ra_A T lw nf nc kd se σ) nf → jr_eqx (72 :: iv_RX) σ1 σ2 → jr_R G (d + 20) mi_X10_change (jr_k k) 118 [some (.ref 46), some (.int c2), some (.int x), some (.int y), x4, x5, x6] [] σ2) : ∀ (m a : Nat) (σ2 : jr_Sg) (x y : Int32) (x5 x6 : Option Value), a + m = nf → (x, y) = co (ch_A T lw nf nc kd se σ) nf (ra_A T lw nf nc kd se σ) a → jr_eqx (72 :: iv_RX) σ1 σ2 → (∀ i, i < 5 → σ2 72 i = σ2 51 i) → jr_R G (d + 20) mi_X10_change (jr_k k) 26 [some (.ref 46), some (.int c2), some (.int x), some (.int y), some (.int (nI a)), x5, x6] [] σ2 := by
  have h1 := iv_mov (iv_cx g1) h
  have r1 := rr_of h1
  have h5 : nf ≤ 5 := r1.1.2.1
  intro m
  induction m with
  | zero =>
    intro a σ2 x y x5 x6 hi e g g72
    have ea : a = nf := hi
    subst ea
    have hnf1 : σ2 46 1 = nI a := by rw [g 46 (by decide)]; exact r1.1.1
    refine jr_iload 28 dX10_change_26 rfl rfl ?_
    refine jr_aload_n 0 29 dX10_change_28 rfl rfl rfl ?_
    refine gf_X10_105 32 dX10_change_29 rfl rfl rfl rfl ?_
    rw [hnf1]
    refine jr_icmp_ge 118 35 dX10_change_32 rfl rfl (fun q32 => ?_) (fun z => absurd (Int32.le_refl _) z)
    exact fin σ2 _ _ _ _ _ e g
  | succ m ih =>
    intro a σ2 x y x5 x6 hi e g g72
    have hnf1 : σ2 46 1 = nI nf := by rw [g 46 (by decide)]; exact r1.1.1
    refine jr_iload 28 dX10_change_26 rfl rfl ?_
    refine jr_aload_n 0 29 dX10_change_28 rfl rfl rfl ?_
    refine gf_X10_105 32 dX10_change_29 rfl rfl rfl rfl ?_
    rw [hnf1]
    refine jr_icmp_ge 118 35 dX10_change_32 rfl rfl (fun z => absurd z (nI_ge (by omega) (by omega))) (fun q32 => ?_)
    refine jr_iload 37 dX10_change_35 rfl rfl ?_
    refine jr_iconst (nI 1) 38 dX10_change_37 rfl rfl ?_
    refine jr_iadd 39 dX10_change_38 rfl ?_
    rw [nI_add]
    refine jr_istore (L' := [_, _, _, _, _, _, _]) 41 dX10_change_39 rfl (by decide) rfl ?_
    refine change_ri h g1 (a := a) (by omega) (s0 := (x, y)) (fun σ3 x2 y2 z5 z6 e2 g3 g4 => ?_) (nf - (a + 1)) 0 σ2 _ _ _ (by omega) rfl g g72
    refine jr_iinc (v := nI (a + 1)) (L' := [_, _, _, _, _, _, _]) 115 dX10_change_112 rfl rfl (nI_1 a) (by decide) rfl ?_
    refine jr_goto 26 dX10_change_115 rfl ?_
    exact ih (a + 1) σ3 _ _ _ _ (by omega) (by rw [co, ← e]; exact e2) g3 g4
theorem pp_change {G : jr_G} {d : Nat} {σ : jr_Sg} {c : Int32} (h : IV σ) : jr_pair G (d + 20) mi_X9_change mi_X10_change [.int c] σ := by
  obtain ⟨T, n, nf, nc, kd, se, lw, tp, h⟩ := h
  have hh := h
  obtain ⟨hTC, hTR, ⟨hsc, hsr, hl1, hl2, hlw, hfc, hli, hca⟩, htp, himg, hsh, hrest, hwd⟩ := hh
  have hnf := hsc.1
  have h5 := hsc.2.1
  have hnc := hsc.2.2.1
  have h8 := hsc.2.2.2.1
  have rnf := hsr.1
  have rnc := hsr.2.2.1
  have hlm := hrest.2.2.2.1
  unfold jr_pair
  rcases jr_rg c (m := 1) (by decide) with qc2 | ⟨c2, hc2, rfl⟩
  · refine jr_enter (L := [some (.ref 0), some (.int c), none, none, none, none, none]) (by decide) (Nat.le_of_ble_eq_true rfl) rfl ?_
    refine jr_iload_n 1 1 dX9_change_0 rfl rfl rfl ?_
    refine jr_iconst (1) 2 dX9_change_1 rfl rfl ?_
    refine cs_X9_104 5 dX9_change_2 rfl rfl (Nat.le_of_ble_eq_true rfl) (wp_wiF qc2 ?_)
    refine jr_if_ne 11 8 dX9_change_5 rfl rfl (fun q => absurd (by decide) q) (fun q5 => ?_)
    refine jr_bipush ((-2)) 10 dX9_change_8 rfl rfl ?_
    refine jr_ireturn dX9_change_10 rfl rfl ?_
    refine jr_enter (L := [some (.ref 46), some (.int c), none, none, none, none, none]) (by decide) (Nat.le_of_ble_eq_true rfl) rfl ?_
    refine jr_iload_n 1 1 dX10_change_0 rfl rfl rfl ?_
    refine jr_iconst (0) 2 dX10_change_1 rfl rfl ?_
    refine jr_iconst (1) 3 dX10_change_2 rfl rfl ?_
    refine cs_X10_108 6 dX10_change_3 rfl rfl (Nat.le_of_ble_eq_true rfl) (wp_inF qc2 ?_)
    refine jr_if_ne 12 9 dX10_change_6 rfl rfl (fun q => absurd (by decide) q) (fun q6 => ?_)
    refine jr_bipush ((-2)) 11 dX10_change_9 rfl rfl ?_
    refine jr_ireturn dX10_change_11 rfl rfl ?_
    exact ⟨rfl, IV_mov (iv_same_x (jr_eqx_rf [] _) (by decide)) h⟩
  · rcases (by omega : c2 = 0 ∨ c2 = 1) with rfl | rfl
    · refine jr_enter (L := [some (.ref 0), some (.int (nI 0)), none, none, none, none, none]) (by decide) (Nat.le_of_ble_eq_true rfl) rfl ?_
      refine jr_iload_n 1 1 dX9_change_0 rfl rfl rfl ?_
      refine jr_iconst (nI 1) 2 dX9_change_1 rfl rfl ?_
      refine cs_X9_104 5 dX9_change_2 rfl rfl (Nat.le_of_ble_eq_true rfl) (wp_wiT hc2 (by decide) rfl ?_)
      refine jr_if_ne 11 8 dX9_change_5 rfl rfl (fun q5 => ?_) (fun q => absurd q (by decide))
      refine jr_aload_n 0 12 dX9_change_11 rfl rfl rfl ?_
      refine jr_bipush (nI 40) 14 dX9_change_12 rfl rfl ?_
      refine cs_X9_205 17 dX9_change_14 rfl rfl rfl (Nat.le_of_ble_eq_true rfl) (wp_playAllNow (len := 40) h (by omega) (jr_eqx_rf _ _) (fun σ7 g7 g6 g5 => ?_))
      refine jr_aload_n 0 18 dX9_change_17 rfl rfl rfl ?_
      refine gf_X9_37 21 dX9_change_18 rfl rfl rfl rfl ?_
      refine cs_X9_259 24 dX9_change_21 rfl rfl rfl (Nat.le_of_ble_eq_true rfl) (wp_redSecondsOfAll (nf := nf) g6 h5 ?_)
      refine jr_topi (y := (ra_A T lw nf nc kd se σ)) (lp_congr (fun f hf x => by rw [pd_rs (g5 f hf)])) ?_
      refine jr_istore_n 2 (L' := [_, _, _, _, _, _, _]) 25 dX9_change_24 rfl rfl (by decide) rfl ?_
      refine jr_iconst ((-1)) 26 dX9_change_25 rfl rfl ?_
      refine jr_istore_n 3 (L' := [_, _, _, _, _, _, _]) 27 dX9_change_26 rfl rfl (by decide) rfl ?_
      refine jr_iconst (nI 0) 28 dX9_change_27 rfl rfl ?_
      refine jr_istore (L' := [_, _, _, _, _, _, _]) 30 dX9_change_28 rfl (by decide) rfl ?_
      refine change_xo h (fun σ1 x y x4 x5 x6 e1 g1 => ?_) nf 0 σ7 _ _ _ _ (Nat.zero_add _) rfl g7
      refine jr_iload_n 1 148 dX9_change_147 rfl rfl rfl ?_
      refine jr_if_ne 155 151 dX9_change_148 rfl rfl (fun q => absurd (by decide) q) (fun q148 => ?_)
      refine jr_iload_n 3 152 dX9_change_151 rfl rfl rfl ?_
      refine jr_goto 156 dX9_change_152 rfl ?_
      refine jr_ireturn dX9_change_156 rfl rfl ?_
      have h1 := iv_mov (iv_cx g1) h
      have r1 := rr_of h1
      refine jr_enter (L := [some (.ref 46), some (.int (nI 0)), none, none, none, none, none]) (by decide) (Nat.le_of_ble_eq_true rfl) rfl ?_
      refine jr_iload_n 1 1 dX10_change_0 rfl rfl rfl ?_
      refine jr_iconst (nI 0) 2 dX10_change_1 rfl rfl ?_
      refine jr_iconst (nI 1) 3 dX10_change_2 rfl rfl ?_
      refine cs_X10_108 6 dX10_change_3 rfl rfl (Nat.le_of_ble_eq_true rfl) (wp_inT hc2 (by decide) rfl ?_)
      refine jr_if_ne 12 9 dX10_change_6 rfl rfl (fun q6 => ?_) (fun q => absurd q (by decide))
      refine jr_iconst ((-1)) 13 dX10_change_12 rfl rfl ?_
      refine jr_istore_n 2 (L' := [_, _, _, _, _, _, _]) 14 dX10_change_13 rfl rfl (by decide) rfl ?_
      refine jr_aload_n 0 15 dX10_change_14 rfl rfl rfl ?_
      refine cs_X10_304 18 dX10_change_15 rfl rfl rfl (Nat.le_of_ble_eq_true rfl) (wp_redOfAll r1 (fun σ7 g7 => ?_))
      refine jr_topi (y := (ra_A T lw nf nc kd se σ)) (ra_A_x g1 (by decide)) ?_
      refine jr_istore_n 3 (L' := [_, _, _, _, _, _, _]) 19 dX10_change_18 rfl rfl (by decide) rfl ?_
      refine jr_aload_n 0 20 dX10_change_19 rfl rfl rfl ?_
      refine cs_X10_298 23 dX10_change_20 rfl rfl rfl (Nat.le_of_ble_eq_true rfl) (wp_keepsSeats (fun σ8 l1 l2 l3 => ?_))
      refine jr_iconst (nI 0) 24 dX10_change_23 rfl rfl ?_
      refine jr_istore (L' := [_, _, _, _, _, _, _]) 26 dX10_change_24 rfl (by decide) rfl ?_
      refine change_ro h g1 (fun σ2 x2 y2 x4 x5 x6 e2 g2 => ?_) nf 0 σ8 _ _ _ _ (Nat.zero_add _) rfl (fun a ha => (l1 a (fun e => ha (by rw [e]; decide))).trans (g7 a (fun q => ha (List.mem_cons_of_mem _ q)))) (fun i hi => (l2 i hi).trans (by rw [l1 51 (by decide)]))
      refine jr_iload_n 1 119 dX10_change_118 rfl rfl rfl ?_
      refine jr_if_ne 126 122 dX10_change_119 rfl rfl (fun q => absurd (by decide) q) (fun q119 => ?_)
      refine jr_iload_n 2 123 dX10_change_122 rfl rfl rfl ?_
      refine jr_goto 127 dX10_change_123 rfl ?_
      refine jr_ireturn dX10_change_127 rfl rfl ?_
      have exy := Prod.mk.inj (e2.trans e1.symm)
      exact ⟨congrArg Value.int exy.1, IV_mov (iv_same_tr (iv_cx g1) (iv_same_x g2 (by decide))) h⟩
    · refine jr_enter (L := [some (.ref 0), some (.int (nI 1)), none, none, none, none, none]) (by decide) (Nat.le_of_ble_eq_true rfl) rfl ?_
      refine jr_iload_n 1 1 dX9_change_0 rfl rfl rfl ?_
      refine jr_iconst (nI 1) 2 dX9_change_1 rfl rfl ?_
      refine cs_X9_104 5 dX9_change_2 rfl rfl (Nat.le_of_ble_eq_true rfl) (wp_wiT hc2 (by decide) rfl ?_)
      refine jr_if_ne 11 8 dX9_change_5 rfl rfl (fun q5 => ?_) (fun q => absurd q (by decide))
      refine jr_aload_n 0 12 dX9_change_11 rfl rfl rfl ?_
      refine jr_bipush (nI 40) 14 dX9_change_12 rfl rfl ?_
      refine cs_X9_205 17 dX9_change_14 rfl rfl rfl (Nat.le_of_ble_eq_true rfl) (wp_playAllNow (len := 40) h (by omega) (jr_eqx_rf _ _) (fun σ7 g7 g6 g5 => ?_))
      refine jr_aload_n 0 18 dX9_change_17 rfl rfl rfl ?_
      refine gf_X9_37 21 dX9_change_18 rfl rfl rfl rfl ?_
      refine cs_X9_259 24 dX9_change_21 rfl rfl rfl (Nat.le_of_ble_eq_true rfl) (wp_redSecondsOfAll (nf := nf) g6 h5 ?_)
      refine jr_topi (y := (ra_A T lw nf nc kd se σ)) (lp_congr (fun f hf x => by rw [pd_rs (g5 f hf)])) ?_
      refine jr_istore_n 2 (L' := [_, _, _, _, _, _, _]) 25 dX9_change_24 rfl rfl (by decide) rfl ?_
      refine jr_iconst ((-1)) 26 dX9_change_25 rfl rfl ?_
      refine jr_istore_n 3 (L' := [_, _, _, _, _, _, _]) 27 dX9_change_26 rfl rfl (by decide) rfl ?_
      refine jr_iconst (nI 0) 28 dX9_change_27 rfl rfl ?_
      refine jr_istore (L' := [_, _, _, _, _, _, _]) 30 dX9_change_28 rfl (by decide) rfl ?_
      refine change_xo h (fun σ1 x y x4 x5 x6 e1 g1 => ?_) nf 0 σ7 _ _ _ _ (Nat.zero_add _) rfl g7
      refine jr_iload_n 1 148 dX9_change_147 rfl rfl rfl ?_
      refine jr_if_ne 155 151 dX9_change_148 rfl rfl (fun q148 => ?_) (fun q => absurd q (by decide))
      refine jr_iload_n 2 156 dX9_change_155 rfl rfl rfl ?_
      refine jr_ireturn dX9_change_156 rfl rfl ?_
      have h1 := iv_mov (iv_cx g1) h
      have r1 := rr_of h1
      refine jr_enter (L := [some (.ref 46), some (.int (nI 1)), none, none, none, none, none]) (by decide) (Nat.le_of_ble_eq_true rfl) rfl ?_
      refine jr_iload_n 1 1 dX10_change_0 rfl rfl rfl ?_
      refine jr_iconst (nI 0) 2 dX10_change_1 rfl rfl ?_
      refine jr_iconst (nI 1) 3 dX10_change_2 rfl rfl ?_
      refine cs_X10_108 6 dX10_change_3 rfl rfl (Nat.le_of_ble_eq_true rfl) (wp_inT hc2 (by decide) rfl ?_)
      refine jr_if_ne 12 9 dX10_change_6 rfl rfl (fun q6 => ?_) (fun q => absurd q (by decide))
      refine jr_iconst ((-1)) 13 dX10_change_12 rfl rfl ?_
      refine jr_istore_n 2 (L' := [_, _, _, _, _, _, _]) 14 dX10_change_13 rfl rfl (by decide) rfl ?_
      refine jr_aload_n 0 15 dX10_change_14 rfl rfl rfl ?_
      refine cs_X10_304 18 dX10_change_15 rfl rfl rfl (Nat.le_of_ble_eq_true rfl) (wp_redOfAll r1 (fun σ7 g7 => ?_))
      refine jr_topi (y := (ra_A T lw nf nc kd se σ)) (ra_A_x g1 (by decide)) ?_
      refine jr_istore_n 3 (L' := [_, _, _, _, _, _, _]) 19 dX10_change_18 rfl rfl (by decide) rfl ?_
      refine jr_aload_n 0 20 dX10_change_19 rfl rfl rfl ?_
      refine cs_X10_298 23 dX10_change_20 rfl rfl rfl (Nat.le_of_ble_eq_true rfl) (wp_keepsSeats (fun σ8 l1 l2 l3 => ?_))
      refine jr_iconst (nI 0) 24 dX10_change_23 rfl rfl ?_
      refine jr_istore (L' := [_, _, _, _, _, _, _]) 26 dX10_change_24 rfl (by decide) rfl ?_
      refine change_ro h g1 (fun σ2 x2 y2 x4 x5 x6 e2 g2 => ?_) nf 0 σ8 _ _ _ _ (Nat.zero_add _) rfl (fun a ha => (l1 a (fun e => ha (by rw [e]; decide))).trans (g7 a (fun q => ha (List.mem_cons_of_mem _ q)))) (fun i hi => (l2 i hi).trans (by rw [l1 51 (by decide)]))
      refine jr_iload_n 1 119 dX10_change_118 rfl rfl rfl ?_
      refine jr_if_ne 126 122 dX10_change_119 rfl rfl (fun q119 => ?_) (fun q => absurd q (by decide))
      refine jr_iload_n 3 127 dX10_change_126 rfl rfl rfl ?_
      refine jr_ireturn dX10_change_127 rfl rfl ?_
      have exy := Prod.mk.inj (e2.trans e1.symm)
      exact ⟨congrArg Value.int exy.2, IV_mov (iv_same_tr (iv_cx g1) (iv_same_x g2 (by decide))) h⟩

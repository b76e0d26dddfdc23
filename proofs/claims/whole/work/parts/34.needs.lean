def bB (r0 r1 r2 r3 r4 : Bool) (f : Nat) : Bool := match f with
  | 0 => r0
  | 1 => r1
  | 2 => r2
  | 3 => r3
  | _ => r4
/-- five bits -/
def mB (r0 r1 r2 r3 r4 : Bool) (n : Nat) : Int32 := lp (fun f a => a ||| if bB r0 r1 r2 r3 r4 f = true then (1 : Int32) <<< (nI f &&& 31) else 0) 0 n
def sB (r0 r1 r2 r3 r4 : Bool) (n : Nat) : Int32 := lp (fun f a => a + if bB r0 r1 r2 r3 r4 f = true then (1 : Int32) <<< (nI f &&& 31) else 0) 0 n
theorem bB_all {R : Nat → Prop} : ∃ r0 r1 r2 r3 r4 : Bool, ∀ f, f < 5 → (R f ↔ bB r0 r1 r2 r3 r4 f = true) := by
  have q : ∀ f, ∃ b : Bool, (R f ↔ b = true) := fun f => by
    by_cases h : R f
    · exact ⟨true, ⟨fun _ => rfl, fun _ => h⟩⟩
    · exact ⟨false, ⟨fun z => absurd z h, fun z => absurd z (by decide)⟩⟩
  obtain ⟨r0, h0⟩ := q 0
  obtain ⟨r1, h1⟩ := q 1
  obtain ⟨r2, h2⟩ := q 2
  obtain ⟨r3, h3⟩ := q 3
  obtain ⟨r4, h4⟩ := q 4
  refine ⟨r0, r1, r2, r3, r4, fun f hf => ?_⟩
  rcases (by omega : f = 0 ∨ f = 1 ∨ f = 2 ∨ f = 3 ∨ f = 4) with rfl | rfl | rfl | rfl | rfl
  · exact h0
  · exact h1
  · exact h2
  · exact h3
  · exact h4
theorem mB_of {R : Nat → Prop} [∀ f, Decidable (R f)] {r0 r1 r2 r3 r4 : Bool} {n : Nat} (hn : n ≤ 5) (h : ∀ f, f < 5 → (R f ↔ bB r0 r1 r2 r3 r4 f = true)) : lp (fun f a => a ||| if R f then (1 : Int32) <<< (nI f &&& 31) else 0) 0 n = mB r0 r1 r2 r3 r4 n := lp_congr (fun f hf x => by
  by_cases q : R f
  · rw [if_pos q, if_pos ((h f (by omega)).mp q)]
  · rw [if_neg q, if_neg (fun z => q ((h f (by omega)).mpr z))])
theorem mB_bit : ∀ r0 r1 r2 r3 r4 : Bool, ∀ n : Fin 6, ∀ f : Fin 5, f.val < n.val → (mB r0 r1 r2 r3 r4 n.val >>> (nI f.val &&& 31)) &&& 1 = if bB r0 r1 r2 r3 r4 f.val = true then 1 else 0 := by decide +kernel
theorem mB_sum : ∀ r0 r1 r2 r3 r4 : Bool, ∀ n : Fin 6, sB r0 r1 r2 r3 r4 n.val = mB r0 r1 r2 r3 r4 n.val := by decide +kernel
theorem bit_of {R : Nat → Prop} [∀ f, Decidable (R f)] {n f : Nat} (hn : n ≤ 5) (hf : f < n) : (lp (fun f a => a ||| if R f then (1 : Int32) <<< (nI f &&& 31) else 0) 0 n >>> (nI f &&& 31)) &&& 1 = if R f then 1 else 0 := by
  obtain ⟨r0, r1, r2, r3, r4, h⟩ := bB_all (R := R)
  rw [mB_of hn h]
  have q := mB_bit r0 r1 r2 r3 r4 ⟨n, by omega⟩ ⟨f, by omega⟩ hf
  rw [q]
  by_cases z : R f
  · rw [if_pos z, if_pos ((h f (by omega)).mp z)]
  · rw [if_neg z, if_neg (fun y => z ((h f (by omega)).mpr y))]
theorem sum_of {R : Nat → Prop} [∀ f, Decidable (R f)] {n : Nat} (hn : n ≤ 5) : lp (fun f a => a + if R f then (1 : Int32) <<< (nI f &&& 31) else 0) 0 n = lp (fun f a => a ||| if R f then (1 : Int32) <<< (nI f &&& 31) else 0) 0 n := by
  obtain ⟨r0, r1, r2, r3, r4, h⟩ := bB_all (R := R)
  rw [mB_of hn h, ← mB_sum r0 r1 r2 r3 r4 ⟨n, by omega⟩]
  exact lp_congr (fun f hf x => by
    by_cases q : R f
    · rw [if_pos q, if_pos ((h f (by omega)).mp q)]
    · rw [if_neg q, if_neg (fun z => q ((h f (by omega)).mpr z))])
def nd_P (T : Nat → Nat → List Nat) (lw nf nc : Nat) (kd se : Nat → Nat) (σ : jr_Sg) (j i : Nat) : Prop := 0 < tr_rs (sm_R T lw nf nc kd se (md_c σ j 0 (nI (10 * i))) j) (pr_rf kd se σ j)
theorem needs_x {G : jr_G} {d : Nat} {σ : jr_Sg} {k : Value → jr_Sg → Prop} {T : Nat → Nat → List Nat} {n nf nc lw tp j : Nat} {kd se : Nat → Nat} (h : iv T n nf nc kd se lw tp σ) (hj : j < nf) (fin : ∀ (σ1 : jr_Sg) (x : Int32), x = oT (fs (nd_P T lw nf nc kd se σ j) 0 41) → jr_eqx iv_CX σ σ1 → k (.int x) σ1) : ∀ (m i : Nat) (σ1 : jr_Sg), i + m = 41 → fs (nd_P T lw nf nc kd se σ j) i m = fs (nd_P T lw nf nc kd se σ j) 0 41 → jr_eqx iv_CX σ σ1 → jr_R G (d + 19) mi_X9_needs (jr_k k) 16 [some (.ref 0), some (.int (nI j)), some (.int (nI (10 * i)))] [] σ1 := by
  have h5 : nf ≤ 5 := h.2.2.1.2.1.2.1
  intro m
  induction m with
  | zero =>
    intro i σ1 hi hl g
    have ei : i = 41 := hi
    subst ei
    refine jr_iload_n 2 17 dX9_needs_16 rfl rfl rfl ?_
    refine jr_sipush (nI 400) 20 dX9_needs_17 rfl rfl ?_
    refine jr_icmp_gt 52 23 dX9_needs_20 rfl rfl (fun q20 => ?_) (fun z => absurd (by decide) z)
    refine jr_iconst ((-1)) 53 dX9_needs_52 rfl rfl ?_
    refine jr_ireturn dX9_needs_53 rfl rfl ?_
    exact fin σ1 _ (by rw [← hl]; rfl) g
  | succ m ih =>
    intro i σ1 hi hl g
    refine jr_iload_n 2 17 dX9_needs_16 rfl rfl rfl ?_
    refine jr_sipush (nI 400) 20 dX9_needs_17 rfl rfl ?_
    refine jr_icmp_gt 52 23 dX9_needs_20 rfl rfl (fun z => absurd z (nI_nlt (b := 10 * i) (a := 400) (by omega) (by omega))) (fun q20 => ?_)
    refine jr_aload_n 0 24 dX9_needs_23 rfl rfl rfl ?_
    refine jr_iload_n 1 25 dX9_needs_24 rfl rfl rfl ?_
    refine jr_iload_n 1 26 dX9_needs_25 rfl rfl rfl ?_
    refine jr_iconst (0) 27 dX9_needs_26 rfl rfl ?_
    refine jr_iload_n 2 28 dX9_needs_27 rfl rfl rfl ?_
    refine jr_bipush (nI 40) 30 dX9_needs_28 rfl rfl ?_
    refine cs_X9_270 33 dX9_needs_30 rfl rfl rfl (Nat.le_of_ble_eq_true rfl) (wp_playCaused (len := 40) (y := j) (by omega) (by omega) h hj g (fun σ2 g2 g3 => ?_))
    refine jr_aload_n 0 34 dX9_needs_33 rfl rfl rfl ?_
    refine gf_X9_37 37 dX9_needs_34 rfl rfl rfl rfl ?_
    refine jr_iload_n 1 38 dX9_needs_37 rfl rfl rfl ?_
    refine cs_X9_236 41 dX9_needs_38 rfl rfl rfl (Nat.le_of_ble_eq_true rfl) (wp_redSeconds (by omega) ?_)
    refine jr_topi (y := tr_rs (sm_R T lw nf nc kd se (md_c σ j 0 (nI (10 * i))) j) (pr_rf kd se σ j)) (pd_rs g3) ?_
    refine jr_if_le 46 44 dX9_needs_41 rfl rfl (fun q41 => ?_) (fun q41 => ?_)
    · refine jr_iinc (v := nI (10 * (i + 1))) (L' := [_, _, _]) 49 dX9_needs_46 rfl rfl (up_ten i) (by decide) rfl ?_
      refine jr_goto 16 dX9_needs_49 rfl ?_
      have hp : ¬ (nd_P T lw nf nc kd se σ j) i := Int32.not_lt.mpr q41
      exact ih (i + 1) σ2 (by omega) (by rw [← hl, fs_f hp]) g2
    · refine jr_iload_n 2 45 dX9_needs_44 rfl rfl rfl ?_
      refine jr_ireturn dX9_needs_45 rfl rfl ?_
      have hp : (nd_P T lw nf nc kd se σ j) i := Int32.not_le.mp q41
      exact fin σ2 _ (by rw [← hl, fs_t hp]; rfl) g2
theorem jr_ne1 {b : Nat} (h : b < 2 ^ 31) : ¬ nI b = -1 := fun e => jr_m1 h e.symm
theorem needs_r {G : jr_G} {d : Nat} {σ : jr_Sg} {k : Value → jr_Sg → Prop} {T : Nat → Nat → List Nat} {n nf nc lw tp j : Nat} {kd se : Nat → Nat} (h : iv T n nf nc kd se lw tp σ) (hj : j < nf) {σ1 : jr_Sg} (g1 : jr_eqx iv_CX σ σ1) (fin : ∀ (σ2 : jr_Sg) (x : Int32) (x3 : Option Value), x = oT (fs (nd_P T lw nf nc kd se σ j) 0 41) → jr_eqx (70 :: iv_RX) σ1 σ2 → (∀ i, i ≠ j → σ2 70 i = σ1 70 i) → jr_R G (d + 20) mi_X10_needs (jr_k k) 58 [some (.ref 46), some (.int (nI j)), some (.int x), x3] [] σ2) : ∀ (m i : Nat) (σ2 : jr_Sg), i + m = 41 → fs (nd_P T lw nf nc kd se σ j) i m = fs (nd_P T lw nf nc kd se σ j) 0 41 → jr_eqx (70 :: iv_RX) σ1 σ2 → (∀ i, i ≠ j → σ2 70 i = σ1 70 i) → jr_R G (d + 20) mi_X10_needs (jr_k k) 15 [some (.ref 46), some (.int (nI j)), some (.int (-1)), some (.int (nI (10 * i)))] [] σ2 := by
  have h1 := iv_mov (iv_cx g1) h
  have r1 := rr_of h1
  have h5 : nf ≤ 5 := r1.1.2.1
  intro m
  induction m with
  | zero =>
    intro i σ2 hi hl g g70
    have ei : i = 41 := hi
    subst ei
    refine jr_iload_n 3 16 dX10_needs_15 rfl rfl rfl ?_
    refine jr_sipush (nI 400) 19 dX10_needs_16 rfl rfl ?_
    refine jr_icmp_gt 58 22 dX10_needs_19 rfl rfl (fun q19 => ?_) (fun z => absurd (by decide) z)
    exact fin σ2 _ _ (by rw [← hl]; rfl) g g70
  | succ m ih =>
    intro i σ2 hi hl g g70
    have e70 : jr_eqx iv_RX (jr_up σ1 70 j (nI (10 * i))) (jr_up σ2 70 j (nI (10 * i))) := fun a ha => by
      unfold jr_up
      by_cases ea : a = 70
      · subst ea; rw [if_pos rfl, if_pos rfl]; exact up_back g70
      · rw [if_neg ea, if_neg ea]; exact g a (fun q => (List.mem_cons.mp q).elim ea ha)
    have r2 : rr_ok T n nf nc kd se lw (jr_up σ2 70 j (nI (10 * i))) := rr_x (rr_x r1 (jr_eqx_up (X := [70]) σ1 j (nI (10 * i)) (by decide)) (by decide)) e70 (by decide)
    have eR : 0 < tr_rs (sm_R T lw nf nc kd se (jr_up σ2 70 j (nI (10 * i))) j) (pr_rf kd se (jr_up σ2 70 j (nI (10 * i))) j) ↔ (nd_P T lw nf nc kd se σ j) i := by
      rw [sm_R_x e70 (by decide), pr_rf_x e70 (by decide), sm_R_x (jr_eqx_upb g1 (i := 70) (by decide)) (by decide), pr_rf_x (jr_eqx_upb g1 (i := 70) (by decide)) (by decide), sm_R_ag (ag_c0 h.2.2.2.2.2.2.1.2.2.1)]
      exact Iff.rfl
    refine jr_iload_n 3 16 dX10_needs_15 rfl rfl rfl ?_
    refine jr_sipush (nI 400) 19 dX10_needs_16 rfl rfl ?_
    refine jr_icmp_gt 58 22 dX10_needs_19 rfl rfl (fun z => absurd z (nI_nlt (b := 10 * i) (a := 400) (by omega) (by omega))) (fun q19 => ?_)
    refine jr_iload_n 2 23 dX10_needs_22 rfl rfl rfl ?_
    refine jr_iconst ((-1)) 24 dX10_needs_23 rfl rfl ?_
    refine jr_icmp_ne 58 27 dX10_needs_24 rfl rfl (fun q => absurd (by decide) q) (fun q24 => ?_)
    refine jr_aload_n 0 28 dX10_needs_27 rfl rfl rfl ?_
    refine gf_X10_89 31 dX10_needs_28 rfl rfl rfl rfl ?_
    refine jr_iload_n 1 32 dX10_needs_31 rfl rfl rfl ?_
    refine jr_iload_n 3 33 dX10_needs_32 rfl rfl rfl ?_
    refine jr_iast rfl rfl (by omega) 34 dX10_needs_33 rfl ?_
    refine jr_aload_n 0 35 dX10_needs_34 rfl rfl rfl ?_
    refine cs_X10_307 38 dX10_needs_35 rfl rfl rfl (Nat.le_of_ble_eq_true rfl) (wp_everRed r2 (fun σ3 g3 => ?_))
    have g4 : jr_eqx (70 :: iv_RX) σ1 σ3 := jr_eqx_tr (jr_eqx_tr g (jr_eqx_up _ _ _ (by decide))) (jr_eqx_w g3 (by decide))
    have g5 : ∀ i, i ≠ j → σ3 70 i = σ1 70 i := fun q hq => by
      rw [g3 70 (by decide)]
      exact (pk_un hq).trans (g70 q hq)
    refine jr_iload_n 1 39 dX10_needs_38 rfl rfl rfl ?_
    refine jr_ishr 40 dX10_needs_39 rfl ?_
    refine jr_iconst (1) 41 dX10_needs_40 rfl rfl ?_
    refine jr_iand 42 dX10_needs_41 rfl ?_
    refine jr_topi (y := if 0 < tr_rs (sm_R T lw nf nc kd se (jr_up σ2 70 j (nI (10 * i))) j) (pr_rf kd se (jr_up σ2 70 j (nI (10 * i))) j) then 1 else 0) (bit_of h5 hj) ?_
    by_cases hp2 : 0 < tr_rs (sm_R T lw nf nc kd se (jr_up σ2 70 j (nI (10 * i))) j) (pr_rf kd se (jr_up σ2 70 j (nI (10 * i))) j)
    · refine jr_iconst (1) 43 dX10_needs_42 rfl rfl ?_
      refine jr_icmp_ne 50 46 dX10_needs_43 rfl rfl (fun q => absurd q (by rw [if_pos hp2]; exact fun z => z rfl)) (fun q43 => ?_)
      refine jr_iload_n 3 47 dX10_needs_46 rfl rfl rfl ?_
      refine jr_goto 51 dX10_needs_47 rfl ?_
      refine jr_istore_n 2 (L' := [_, _, _, _]) 52 dX10_needs_51 rfl rfl (by decide) rfl ?_
      refine jr_iinc (v := nI (10 * (i + 1))) (L' := [_, _, _, _]) 55 dX10_needs_52 rfl rfl (up_ten i) (by decide) rfl ?_
      refine jr_goto 15 dX10_needs_55 rfl ?_
      rcases (by omega : i < 40 ∨ i = 40) with q40 | rfl
      · refine jr_iload_n 3 16 dX10_needs_15 rfl rfl rfl ?_
        refine jr_sipush (nI 400) 19 dX10_needs_16 rfl rfl ?_
        refine jr_icmp_gt 58 22 dX10_needs_19 rfl rfl (fun z => absurd z (nI_nlt (b := 10 * (i + 1)) (a := 400) (by omega) (by omega))) (fun q19 => ?_)
        refine jr_iload_n 2 23 dX10_needs_22 rfl rfl rfl ?_
        refine jr_iconst ((-1)) 24 dX10_needs_23 rfl rfl ?_
        refine jr_icmp_ne 58 27 dX10_needs_24 rfl rfl (fun q24 => ?_) (fun z => absurd z (jr_ne1 (by omega)))
        exact fin σ3 _ _ (by rw [← hl, fs_t (eR.mp hp2)]; rfl) g4 g5
      · refine jr_iload_n 3 16 dX10_needs_15 rfl rfl rfl ?_
        refine jr_sipush (nI 400) 19 dX10_needs_16 rfl rfl ?_
        refine jr_icmp_gt 58 22 dX10_needs_19 rfl rfl (fun q19 => ?_) (fun z => absurd (by decide) z)
        exact fin σ3 _ _ (by rw [← hl, fs_t (eR.mp hp2)]; rfl) g4 g5
    · refine jr_iconst (1) 43 dX10_needs_42 rfl rfl ?_
      refine jr_icmp_ne 50 46 dX10_needs_43 rfl rfl (fun q43 => ?_) (fun q => absurd q (by rw [if_neg hp2]; decide))
      refine jr_iconst ((-1)) 51 dX10_needs_50 rfl rfl ?_
      refine jr_istore_n 2 (L' := [_, _, _, _]) 52 dX10_needs_51 rfl rfl (by decide) rfl ?_
      refine jr_iinc (v := nI (10 * (i + 1))) (L' := [_, _, _, _]) 55 dX10_needs_52 rfl rfl (up_ten i) (by decide) rfl ?_
      refine jr_goto 15 dX10_needs_55 rfl ?_
      exact ih (i + 1) σ3 (by omega) (by rw [← hl, fs_f (fun z => hp2 (eR.mpr z))]) g4 g5
theorem pp_needs {G : jr_G} {d : Nat} {σ : jr_Sg} {f : Int32} (h : IV σ) : jr_pair G (d + 20) mi_X9_needs mi_X10_needs [.int f] σ := by
  obtain ⟨T, n, nf, nc, kd, se, lw, tp, h⟩ := h
  have hh := h
  obtain ⟨hTC, hTR, ⟨hsc, hsr, hl1, hl2, hlw, hfc, hli, hca⟩, htp, himg, hsh, hrest, hwd⟩ := hh
  have hnf := hsc.1
  have h5 := hsc.2.1
  have hnc := hsc.2.2.1
  have h8 := hsc.2.2.2.1
  have rnf := hsr.1
  have rnc := hsr.2.2.1
  have hlm := hrest.2.2.2.1
  unfold jr_pair
  rcases jr_fc f h5 with hf | ⟨j, hj, rfl⟩
  · refine jr_enter (L := [some (.ref 0), some (.int f), none]) (by decide) (Nat.le_of_ble_eq_true rfl) rfl ?_
    refine jr_aload_n 0 1 dX9_needs_0 rfl rfl rfl ?_
    refine gf_X9_44 4 dX9_needs_1 rfl rfl rfl rfl ?_
    refine jr_iload_n 1 5 dX9_needs_4 rfl rfl rfl ?_
    refine cs_X9_146 8 dX9_needs_5 rfl rfl rfl (Nat.le_of_ble_eq_true rfl) (wp_has_15 hnf h5 (fun j hj e => absurd hf (by rw [e]; exact jr_fcn hj (by omega))) (fun _ => ?_))
    refine jr_if_ne 14 11 dX9_needs_8 rfl rfl (fun q => absurd (by decide) q) (fun q8 => ?_)
    refine jr_bipush ((-5)) 13 dX9_needs_11 rfl rfl ?_
    refine jr_ireturn dX9_needs_13 rfl rfl ?_
    refine jr_enter (L := [some (.ref 46), some (.int f), none, none]) (by decide) (Nat.le_of_ble_eq_true rfl) rfl ?_
    refine jr_aload_n 0 1 dX10_needs_0 rfl rfl rfl ?_
    refine jr_iload_n 1 2 dX10_needs_1 rfl rfl rfl ?_
    refine cs_X10_204 5 dX10_needs_2 rfl rfl rfl (Nat.le_of_ble_eq_true rfl) (wp_isFace rnf h5 (fun j hj e => absurd hf (by rw [e]; exact jr_fcn hj (by omega))) (fun _ => ?_))
    refine jr_if_ne 11 8 dX10_needs_5 rfl rfl (fun q => absurd (by decide) q) (fun q5 => ?_)
    refine jr_bipush ((-5)) 10 dX10_needs_8 rfl rfl ?_
    refine jr_ireturn dX10_needs_10 rfl rfl ?_
    exact ⟨rfl, IV_mov (iv_same_x (jr_eqx_rf [] _) (by decide)) h⟩
  · refine jr_enter (L := [some (.ref 0), some (.int (nI j)), none]) (by decide) (Nat.le_of_ble_eq_true rfl) rfl ?_
    refine jr_aload_n 0 1 dX9_needs_0 rfl rfl rfl ?_
    refine gf_X9_44 4 dX9_needs_1 rfl rfl rfl rfl ?_
    refine jr_iload_n 1 5 dX9_needs_4 rfl rfl rfl ?_
    refine cs_X9_146 8 dX9_needs_5 rfl rfl rfl (Nat.le_of_ble_eq_true rfl) (wp_hasT_15 hnf h5 hj ?_)
    refine jr_if_ne 14 11 dX9_needs_8 rfl rfl (fun q8 => ?_) (fun q => absurd q (by decide))
    refine jr_iconst (nI (10 * 0)) 15 dX9_needs_14 rfl rfl ?_
    refine jr_istore_n 2 (L' := [_, _, _]) 16 dX9_needs_15 rfl rfl (by decide) rfl ?_
    refine needs_x h hj (fun σ1 x e1 g1 => ?_) 41 0 σ (by omega) rfl (jr_eqx_rf _ _)
    have h1 := iv_mov (iv_cx g1) h
    have r1 := rr_of h1
    refine jr_enter (L := [some (.ref 46), some (.int (nI j)), none, none]) (by decide) (Nat.le_of_ble_eq_true rfl) rfl ?_
    refine jr_aload_n 0 1 dX10_needs_0 rfl rfl rfl ?_
    refine jr_iload_n 1 2 dX10_needs_1 rfl rfl rfl ?_
    refine cs_X10_204 5 dX10_needs_2 rfl rfl rfl (Nat.le_of_ble_eq_true rfl) (wp_isFace r1.1.1 h5 (fun _ _ _ => ?_) (fun q => absurd q (jr_fcn hj (by omega))))
    refine jr_if_ne 11 8 dX10_needs_5 rfl rfl (fun q5 => ?_) (fun q => absurd q (by decide))
    refine jr_iconst ((-1)) 12 dX10_needs_11 rfl rfl ?_
    refine jr_istore_n 2 (L' := [_, _, _, _]) 13 dX10_needs_12 rfl rfl (by decide) rfl ?_
    refine jr_iconst (nI (10 * 0)) 14 dX10_needs_13 rfl rfl ?_
    refine jr_istore_n 3 (L' := [_, _, _, _]) 15 dX10_needs_14 rfl rfl (by decide) rfl ?_
    refine needs_r h hj g1 (fun σ2 x2 x4 e2 g2 g70 => ?_) 41 0 σ1 (by omega) rfl (jr_eqx_rf _ _) (fun _ _ => rfl)
    refine jr_aload_n 0 59 dX10_needs_58 rfl rfl rfl ?_
    refine gf_X10_89 62 dX10_needs_59 rfl rfl rfl rfl ?_
    refine jr_iload_n 1 63 dX10_needs_62 rfl rfl rfl ?_
    refine jr_iconst (0) 64 dX10_needs_63 rfl rfl ?_
    refine jr_iast rfl rfl (by omega) 65 dX10_needs_64 rfl ?_
    refine jr_iload_n 2 66 dX10_needs_65 rfl rfl rfl ?_
    refine jr_ireturn dX10_needs_66 rfl rfl ?_
    refine ⟨congrArg Value.int (e2.trans e1.symm), IV_mov (iv_same_tr (iv_cx g1) ⟨fun a ha => ?_, fun k hk => ?_⟩) h⟩
    · have hx : a ∉ iv_RX := by revert a; decide
      unfold jr_up
      by_cases ea : a = 70
      · subst ea
        rw [if_pos rfl, up_back g70, show (0 : Int32) = σ1 70 j from (h1.2.2.2.2.2.2.1.2.2.2.2 j (by omega)).1.symm]; exact up_same _ _
      · rw [if_neg ea]; exact g2 a (fun q => (List.mem_cons.mp q).elim ea hx)
    · show σ2 46 k = σ1 46 k
      rw [g2 46 (by decide)]
theorem ge4 {x y : Int32} (h : x ≤ 400) : (if x < 400 then (0 : Int32) else y) = if x = 400 then y else 0 := by
  by_cases e : x = 400
  · rw [if_pos e, if_neg (by rw [e]; decide)]
  · rw [if_neg e, if_pos (Int32.lt_of_le_of_ne h e)]
theorem row_r0 {G : jr_G} {d : Nat} {σ : jr_Sg} {k : Value → jr_Sg → Prop} {T : Nat → Nat → List Nat} {n nf nc lw tp len : Nat} {kd se : Nat → Nat} (h : iv T n nf nc kd se lw tp σ) {σ2 : jr_Sg} (hnf1 : σ2 46 1 = nI nf) (h5 : nf ≤ 5) (g4 : ∀ f, f < nf → σ2 65 f = ((sm_R T lw nf nc kd se σ f) len).1) (fin : jr_R G (d + 20) mi_X10_row (jr_k k) 94 [some (.ref 46), some (.int (nI len)), some (.int (nI 0)), some (.int (lp (fun f a => a + 0) 0 nf)), some (.int (nI nf))] [] σ2) : ∀ (m i : Nat) (x : Int32), i + m = nf → x = lp (fun f a => a + 0) 0 i → jr_R G (d + 20) mi_X10_row (jr_k k) 35 [some (.ref 46), some (.int (nI len)), some (.int (nI 0)), some (.int x), some (.int (nI i))] [] σ2 := by
  intro m
  induction m with
  | zero =>
    intro i x hi e
    have ei : i = nf := hi
    subst ei
    subst e
    refine jr_iload 37 dX10_row_35 rfl rfl ?_
    refine jr_aload_n 0 38 dX10_row_37 rfl rfl rfl ?_
    refine gf_X10_105 41 dX10_row_38 rfl rfl rfl rfl ?_
    rw [hnf1]
    refine jr_icmp_ge 94 44 dX10_row_41 rfl rfl (fun q41 => ?_) (fun q => absurd (Int32.le_refl _) q)
    exact fin
  | succ m ih =>
    intro i x hi e
    refine jr_iload 37 dX10_row_35 rfl rfl ?_
    refine jr_aload_n 0 38 dX10_row_37 rfl rfl rfl ?_
    refine gf_X10_105 41 dX10_row_38 rfl rfl rfl rfl ?_
    rw [hnf1]
    refine jr_icmp_ge 94 44 dX10_row_41 rfl rfl (fun q => absurd q (nI_ge (by omega) (by omega))) (fun q41 => ?_)
    refine jr_iload_n 3 45 dX10_row_44 rfl rfl rfl ?_
    refine jr_iload_n 2 46 dX10_row_45 rfl rfl rfl ?_
    refine jr_iconst (1) 47 dX10_row_46 rfl rfl ?_
    refine jr_icmp_ne 60 50 dX10_row_47 rfl rfl (fun q47 => ?_) (fun q => absurd q (by decide))
    refine jr_iload_n 2 61 dX10_row_60 rfl rfl rfl ?_
    refine jr_iconst (2) 62 dX10_row_61 rfl rfl ?_
    refine jr_icmp_ne 85 65 dX10_row_62 rfl rfl (fun q62 => ?_) (fun q => absurd q (by decide))
    refine jr_iconst (0) 86 dX10_row_85 rfl rfl ?_
    refine jr_iadd 87 dX10_row_86 rfl ?_
    refine jr_istore_n 3 (L' := [_, _, _, _, _]) 88 dX10_row_87 rfl rfl (by decide) rfl ?_
    refine jr_iinc (v := nI (i + 1)) (L' := [_, _, _, _, _]) 91 dX10_row_88 rfl rfl (nI_1 i) (by decide) rfl ?_
    refine jr_goto 35 dX10_row_91 rfl ?_
    exact ih (i + 1) _ (by omega) (by rw [e]; rfl)
theorem row_r1 {G : jr_G} {d : Nat} {σ : jr_Sg} {k : Value → jr_Sg → Prop} {T : Nat → Nat → List Nat} {n nf nc lw tp len : Nat} {kd se : Nat → Nat} (h : iv T n nf nc kd se lw tp σ) {σ2 : jr_Sg} (hnf1 : σ2 46 1 = nI nf) (h5 : nf ≤ 5) (g4 : ∀ f, f < nf → σ2 65 f = ((sm_R T lw nf nc kd se σ f) len).1) (fin : jr_R G (d + 20) mi_X10_row (jr_k k) 94 [some (.ref 46), some (.int (nI len)), some (.int (nI 1)), some (.int (lp (fun f a => a + ((sm_R T lw nf nc kd se σ f) len).1) 0 nf)), some (.int (nI nf))] [] σ2) : ∀ (m i : Nat) (x : Int32), i + m = nf → x = lp (fun f a => a + ((sm_R T lw nf nc kd se σ f) len).1) 0 i → jr_R G (d + 20) mi_X10_row (jr_k k) 35 [some (.ref 46), some (.int (nI len)), some (.int (nI 1)), some (.int x), some (.int (nI i))] [] σ2 := by
  intro m
  induction m with
  | zero =>
    intro i x hi e
    have ei : i = nf := hi
    subst ei
    subst e
    refine jr_iload 37 dX10_row_35 rfl rfl ?_
    refine jr_aload_n 0 38 dX10_row_37 rfl rfl rfl ?_
    refine gf_X10_105 41 dX10_row_38 rfl rfl rfl rfl ?_
    rw [hnf1]
    refine jr_icmp_ge 94 44 dX10_row_41 rfl rfl (fun q41 => ?_) (fun q => absurd (Int32.le_refl _) q)
    exact fin
  | succ m ih =>
    intro i x hi e
    refine jr_iload 37 dX10_row_35 rfl rfl ?_
    refine jr_aload_n 0 38 dX10_row_37 rfl rfl rfl ?_
    refine gf_X10_105 41 dX10_row_38 rfl rfl rfl rfl ?_
    rw [hnf1]
    refine jr_icmp_ge 94 44 dX10_row_41 rfl rfl (fun q => absurd q (nI_ge (by omega) (by omega))) (fun q41 => ?_)
    refine jr_iload_n 3 45 dX10_row_44 rfl rfl rfl ?_
    refine jr_iload_n 2 46 dX10_row_45 rfl rfl rfl ?_
    refine jr_iconst (1) 47 dX10_row_46 rfl rfl ?_
    refine jr_icmp_ne 60 50 dX10_row_47 rfl rfl (fun q => absurd (by decide) q) (fun q47 => ?_)
    refine jr_aload_n 0 51 dX10_row_50 rfl rfl rfl ?_
    refine gf_X10_64 54 dX10_row_51 rfl rfl rfl rfl ?_
    refine jr_iload 56 dX10_row_54 rfl rfl ?_
    refine jr_iald rfl rfl (by omega) 57 dX10_row_56 rfl ?_
    rw [g4 i (by omega)]
    refine jr_goto 86 dX10_row_57 rfl ?_
    refine jr_iadd 87 dX10_row_86 rfl ?_
    refine jr_istore_n 3 (L' := [_, _, _, _, _]) 88 dX10_row_87 rfl rfl (by decide) rfl ?_
    refine jr_iinc (v := nI (i + 1)) (L' := [_, _, _, _, _]) 91 dX10_row_88 rfl rfl (nI_1 i) (by decide) rfl ?_
    refine jr_goto 35 dX10_row_91 rfl ?_
    exact ih (i + 1) _ (by omega) (by rw [e]; rfl)
theorem row_r2 {G : jr_G} {d : Nat} {σ : jr_Sg} {k : Value → jr_Sg → Prop} {T : Nat → Nat → List Nat} {n nf nc lw tp len : Nat} {kd se : Nat → Nat} (h : iv T n nf nc kd se lw tp σ) {σ2 : jr_Sg} (hnf1 : σ2 46 1 = nI nf) (h5 : nf ≤ 5) (g4 : ∀ f, f < nf → σ2 65 f = ((sm_R T lw nf nc kd se σ f) len).1) (fin : jr_R G (d + 20) mi_X10_row (jr_k k) 94 [some (.ref 46), some (.int (nI len)), some (.int (nI 2)), some (.int (lp (fun f a => a + if ((sm_R T lw nf nc kd se σ f) len).1 = 400 then (1 : Int32) <<< (nI f &&& 31) else 0) 0 nf)), some (.int (nI nf))] [] σ2) : ∀ (m i : Nat) (x : Int32), i + m = nf → x = lp (fun f a => a + if ((sm_R T lw nf nc kd se σ f) len).1 = 400 then (1 : Int32) <<< (nI f &&& 31) else 0) 0 i → jr_R G (d + 20) mi_X10_row (jr_k k) 35 [some (.ref 46), some (.int (nI len)), some (.int (nI 2)), some (.int x), some (.int (nI i))] [] σ2 := by
  intro m
  induction m with
  | zero =>
    intro i x hi e
    have ei : i = nf := hi
    subst ei
    subst e
    refine jr_iload 37 dX10_row_35 rfl rfl ?_
    refine jr_aload_n 0 38 dX10_row_37 rfl rfl rfl ?_
    refine gf_X10_105 41 dX10_row_38 rfl rfl rfl rfl ?_
    rw [hnf1]
    refine jr_icmp_ge 94 44 dX10_row_41 rfl rfl (fun q41 => ?_) (fun q => absurd (Int32.le_refl _) q)
    exact fin
  | succ m ih =>
    intro i x hi e
    refine jr_iload 37 dX10_row_35 rfl rfl ?_
    refine jr_aload_n 0 38 dX10_row_37 rfl rfl rfl ?_
    refine gf_X10_105 41 dX10_row_38 rfl rfl rfl rfl ?_
    rw [hnf1]
    refine jr_icmp_ge 94 44 dX10_row_41 rfl rfl (fun q => absurd q (nI_ge (by omega) (by omega))) (fun q41 => ?_)
    refine jr_iload_n 3 45 dX10_row_44 rfl rfl rfl ?_
    refine jr_iload_n 2 46 dX10_row_45 rfl rfl rfl ?_
    refine jr_iconst (1) 47 dX10_row_46 rfl rfl ?_
    refine jr_icmp_ne 60 50 dX10_row_47 rfl rfl (fun q47 => ?_) (fun q => absurd q (by decide))
    refine jr_iload_n 2 61 dX10_row_60 rfl rfl rfl ?_
    refine jr_iconst (2) 62 dX10_row_61 rfl rfl ?_
    refine jr_icmp_ne 85 65 dX10_row_62 rfl rfl (fun q => absurd (by decide) q) (fun q62 => ?_)
    refine jr_aload_n 0 66 dX10_row_65 rfl rfl rfl ?_
    refine gf_X10_64 69 dX10_row_66 rfl rfl rfl rfl ?_
    refine jr_iload 71 dX10_row_69 rfl rfl ?_
    refine jr_iald rfl rfl (by omega) 72 dX10_row_71 rfl ?_
    rw [g4 i (by omega)]
    refine jr_sipush (400) 75 dX10_row_72 rfl rfl ?_
    refine jr_icmp_ne 85 78 dX10_row_75 rfl rfl (fun q75 => ?_) (fun q75 => ?_)
    · refine jr_iconst (0) 86 dX10_row_85 rfl rfl ?_
      refine jr_iadd 87 dX10_row_86 rfl ?_
      refine jr_istore_n 3 (L' := [_, _, _, _, _]) 88 dX10_row_87 rfl rfl (by decide) rfl ?_
      refine jr_iinc (v := nI (i + 1)) (L' := [_, _, _, _, _]) 91 dX10_row_88 rfl rfl (nI_1 i) (by decide) rfl ?_
      refine jr_goto 35 dX10_row_91 rfl ?_
      exact ih (i + 1) _ (by omega) (by rw [e, lp, if_neg q75])
    · refine jr_iconst (1) 79 dX10_row_78 rfl rfl ?_
      refine jr_iload 81 dX10_row_79 rfl rfl ?_
      refine jr_ishl 82 dX10_row_81 rfl ?_
      refine jr_goto 86 dX10_row_82 rfl ?_
      refine jr_iadd 87 dX10_row_86 rfl ?_
      refine jr_istore_n 3 (L' := [_, _, _, _, _]) 88 dX10_row_87 rfl rfl (by decide) rfl ?_
      refine jr_iinc (v := nI (i + 1)) (L' := [_, _, _, _, _]) 91 dX10_row_88 rfl rfl (nI_1 i) (by decide) rfl ?_
      refine jr_goto 35 dX10_row_91 rfl ?_
      exact ih (i + 1) _ (by omega) (by rw [e, lp, if_pos q75])
theorem pp_row {G : jr_G} {d : Nat} {σ : jr_Sg} {a c : Int32} (h : IV σ) : jr_pair G (d + 20) mi_X9_row mi_X10_row [.int a, .int c] σ := by
  obtain ⟨T, n, nf, nc, kd, se, lw, tp, h⟩ := h
  have hh := h
  obtain ⟨hTC, hTR, ⟨hsc, hsr, hl1, hl2, hlw, hfc, hli, hca⟩, htp, himg, hsh, hrest, hwd⟩ := hh
  have hnf := hsc.1
  have h5 := hsc.2.1
  have hnc := hsc.2.2.1
  have h8 := hsc.2.2.2.1
  have rnf := hsr.1
  have rnc := hsr.2.2.1
  have hlm := hrest.2.2.2.1
  unfold jr_pair
  rcases jr_rg a (m := 40) (by decide) with qlen | ⟨len, hlen, rfl⟩
  · refine jr_enter (L := [some (.ref 0), some (.int a), some (.int c)]) (by decide) (Nat.le_of_ble_eq_true rfl) rfl ?_
    refine jr_iload_n 1 1 dX9_row_0 rfl rfl rfl ?_
    refine jr_bipush (40) 3 dX9_row_1 rfl rfl ?_
    refine cs_X9_104 6 dX9_row_3 rfl rfl (Nat.le_of_ble_eq_true rfl) (wp_wiF qlen ?_)
    refine jr_if_ne 12 9 dX9_row_6 rfl rfl (fun q => absurd (by decide) q) (fun q6 => ?_)
    refine jr_bipush ((-5)) 11 dX9_row_9 rfl rfl ?_
    refine jr_ireturn dX9_row_11 rfl rfl ?_
    refine jr_enter (L := [some (.ref 46), some (.int a), some (.int c), none, none]) (by decide) (Nat.le_of_ble_eq_true rfl) rfl ?_
    refine jr_iload_n 1 1 dX10_row_0 rfl rfl rfl ?_
    refine jr_iconst (0) 2 dX10_row_1 rfl rfl ?_
    refine jr_bipush (40) 4 dX10_row_2 rfl rfl ?_
    refine cs_X10_108 7 dX10_row_4 rfl rfl (Nat.le_of_ble_eq_true rfl) (wp_inF qlen ?_)
    refine jr_if_ne 13 10 dX10_row_7 rfl rfl (fun q => absurd (by decide) q) (fun q7 => ?_)
    refine jr_bipush ((-5)) 12 dX10_row_10 rfl rfl ?_
    refine jr_ireturn dX10_row_12 rfl rfl ?_
    exact ⟨rfl, IV_mov (iv_same_x (jr_eqx_rf [] _) (by decide)) h⟩
  · rcases jr_rg c (m := 2) (by decide) with qc2 | ⟨c2, hc2, rfl⟩
    · refine jr_enter (L := [some (.ref 0), some (.int (nI len)), some (.int c)]) (by decide) (Nat.le_of_ble_eq_true rfl) rfl ?_
      refine jr_iload_n 1 1 dX9_row_0 rfl rfl rfl ?_
      refine jr_bipush (40) 3 dX9_row_1 rfl rfl ?_
      refine cs_X9_104 6 dX9_row_3 rfl rfl (Nat.le_of_ble_eq_true rfl) (wp_wiT hlen (by decide) rfl ?_)
      refine jr_if_ne 12 9 dX9_row_6 rfl rfl (fun q6 => ?_) (fun q => absurd q (by decide))
      refine jr_iload_n 2 13 dX9_row_12 rfl rfl rfl ?_
      refine jr_iconst (2) 14 dX9_row_13 rfl rfl ?_
      refine cs_X9_104 17 dX9_row_14 rfl rfl (Nat.le_of_ble_eq_true rfl) (wp_wiF qc2 ?_)
      refine jr_if_ne 23 20 dX9_row_17 rfl rfl (fun q => absurd (by decide) q) (fun q17 => ?_)
      refine jr_bipush ((-7)) 22 dX9_row_20 rfl rfl ?_
      refine jr_ireturn dX9_row_22 rfl rfl ?_
      refine jr_enter (L := [some (.ref 46), some (.int (nI len)), some (.int c), none, none]) (by decide) (Nat.le_of_ble_eq_true rfl) rfl ?_
      refine jr_iload_n 1 1 dX10_row_0 rfl rfl rfl ?_
      refine jr_iconst (0) 2 dX10_row_1 rfl rfl ?_
      refine jr_bipush (40) 4 dX10_row_2 rfl rfl ?_
      refine cs_X10_108 7 dX10_row_4 rfl rfl (Nat.le_of_ble_eq_true rfl) (wp_inT hlen (by decide) rfl ?_)
      refine jr_if_ne 13 10 dX10_row_7 rfl rfl (fun q7 => ?_) (fun q => absurd q (by decide))
      refine jr_iload_n 2 14 dX10_row_13 rfl rfl rfl ?_
      refine jr_iconst (0) 15 dX10_row_14 rfl rfl ?_
      refine jr_iconst (2) 16 dX10_row_15 rfl rfl ?_
      refine cs_X10_108 19 dX10_row_16 rfl rfl (Nat.le_of_ble_eq_true rfl) (wp_inF qc2 ?_)
      refine jr_if_ne 25 22 dX10_row_19 rfl rfl (fun q => absurd (by decide) q) (fun q19 => ?_)
      refine jr_bipush ((-7)) 24 dX10_row_22 rfl rfl ?_
      refine jr_ireturn dX10_row_24 rfl rfl ?_
      exact ⟨rfl, IV_mov (iv_same_x (jr_eqx_rf [] _) (by decide)) h⟩
    · rcases (by omega : c2 = 0 ∨ c2 = 1 ∨ c2 = 2) with rfl | rfl | rfl
      · refine jr_enter (L := [some (.ref 0), some (.int (nI len)), some (.int (nI 0))]) (by decide) (Nat.le_of_ble_eq_true rfl) rfl ?_
        refine jr_iload_n 1 1 dX9_row_0 rfl rfl rfl ?_
        refine jr_bipush (40) 3 dX9_row_1 rfl rfl ?_
        refine cs_X9_104 6 dX9_row_3 rfl rfl (Nat.le_of_ble_eq_true rfl) (wp_wiT hlen (by decide) rfl ?_)
        refine jr_if_ne 12 9 dX9_row_6 rfl rfl (fun q6 => ?_) (fun q => absurd q (by decide))
        refine jr_iload_n 2 13 dX9_row_12 rfl rfl rfl ?_
        refine jr_iconst (2) 14 dX9_row_13 rfl rfl ?_
        refine cs_X9_104 17 dX9_row_14 rfl rfl (Nat.le_of_ble_eq_true rfl) (wp_wiT hc2 (by decide) rfl ?_)
        refine jr_if_ne 23 20 dX9_row_17 rfl rfl (fun q17 => ?_) (fun q => absurd q (by decide))
        refine jr_aload_n 0 24 dX9_row_23 rfl rfl rfl ?_
        refine jr_iload_n 1 25 dX9_row_24 rfl rfl rfl ?_
        refine cs_X9_205 28 dX9_row_25 rfl rfl rfl (Nat.le_of_ble_eq_true rfl) (wp_playAllNow (len := len) h hlen (jr_eqx_rf _ _) (fun σ1 g1 g6 g2 => ?_))
        refine jr_iload_n 2 29 dX9_row_28 rfl rfl rfl ?_
        refine jr_lookup (off := 27) 56 dX9_row_29 (by decide) (by decide) rfl ?_
        refine jr_aload_n 0 57 dX9_row_56 rfl rfl rfl ?_
        refine gf_X9_37 60 dX9_row_57 rfl rfl rfl rfl ?_
        refine jr_iload_n 1 61 dX9_row_60 rfl rfl rfl ?_
        refine cs_X9_208 64 dX9_row_61 rfl rfl rfl (Nat.le_of_ble_eq_true rfl) (wp_redBits (nf := nf) (t := len) g6 h5 hlen ?_)
        refine jr_topi (y := lp (fun f a => a ||| if pr_rf kd se σ f ≤ ((sm_R T lw nf nc kd se σ f) len).1 then (1 : Int32) <<< (nI f &&& 31) else 0) 0 nf) (lp_congr (fun f hf x => by rw [(g2 f hf).1, ((g2 f hf).2 len (Nat.le_refl _)).1])) ?_
        refine jr_ireturn dX9_row_64 rfl rfl ?_
        have h1 := iv_mov (iv_cx g1) h
        have r1 := rr_of h1
        refine jr_enter (L := [some (.ref 46), some (.int (nI len)), some (.int (nI 0)), none, none]) (by decide) (Nat.le_of_ble_eq_true rfl) rfl ?_
        refine jr_iload_n 1 1 dX10_row_0 rfl rfl rfl ?_
        refine jr_iconst (0) 2 dX10_row_1 rfl rfl ?_
        refine jr_bipush (40) 4 dX10_row_2 rfl rfl ?_
        refine cs_X10_108 7 dX10_row_4 rfl rfl (Nat.le_of_ble_eq_true rfl) (wp_inT hlen (by decide) rfl ?_)
        refine jr_if_ne 13 10 dX10_row_7 rfl rfl (fun q7 => ?_) (fun q => absurd q (by decide))
        refine jr_iload_n 2 14 dX10_row_13 rfl rfl rfl ?_
        refine jr_iconst (0) 15 dX10_row_14 rfl rfl ?_
        refine jr_iconst (2) 16 dX10_row_15 rfl rfl ?_
        refine cs_X10_108 19 dX10_row_16 rfl rfl (Nat.le_of_ble_eq_true rfl) (wp_inT hc2 (by decide) rfl ?_)
        refine jr_if_ne 25 22 dX10_row_19 rfl rfl (fun q19 => ?_) (fun q => absurd q (by decide))
        refine jr_aload_n 0 26 dX10_row_25 rfl rfl rfl ?_
        refine jr_iload_n 1 27 dX10_row_26 rfl rfl rfl ?_
        refine cs_X10_253 30 dX10_row_27 rfl rfl rfl (Nat.le_of_ble_eq_true rfl) (wp_rruns (len := len) r1 hlen (fun σ2 g3 g4 => ?_))
        refine jr_iconst (0) 31 dX10_row_30 rfl rfl ?_
        refine jr_istore_n 3 (L' := [_, _, _, _, _]) 32 dX10_row_31 rfl rfl (by decide) rfl ?_
        refine jr_iconst (0) 33 dX10_row_32 rfl rfl ?_
        refine jr_istore (L' := [_, _, _, _, _]) 35 dX10_row_33 rfl (by decide) rfl ?_
        refine row_r0 h (len := len) (rr_rx r1 g3).1.1 h5 (fun f hf => by rw [(g4 f hf).1, sm_R_of g1]) ?_ nf 0 _ (Nat.zero_add _) rfl
        refine jr_iload_n 2 95 dX10_row_94 rfl rfl rfl ?_
        refine jr_if_ne 105 98 dX10_row_95 rfl rfl (fun q => absurd (by decide) q) (fun q95 => ?_)
        refine jr_aload_n 0 99 dX10_row_98 rfl rfl rfl ?_
        refine cs_X10_278 102 dX10_row_99 rfl rfl rfl (Nat.le_of_ble_eq_true rfl) (wp_redNow (nf := nf) (rr_rx r1 g3).1 ?_)
        refine jr_topi (y := lp (fun f a => a ||| if pr_rf kd se σ f ≤ ((sm_R T lw nf nc kd se σ f) len).1 then (1 : Int32) <<< (nI f &&& 31) else 0) 0 nf) (lp_congr (fun f hf x => by rw [show pu_redf (kd f) (σ2 49 f) (σ2 47 (se f)) = pr_rf kd se σ f from (pr_rf_rx g3).trans (pr_rf_of g1), (g4 f hf).1, sm_R_of g1])) ?_
        refine jr_goto 106 dX10_row_102 rfl ?_
        refine jr_ireturn dX10_row_106 rfl rfl ?_
        exact ⟨rfl, IV_mov (iv_same_tr (iv_cx g1) (iv_rx g3)) h⟩
      · refine jr_enter (L := [some (.ref 0), some (.int (nI len)), some (.int (nI 1))]) (by decide) (Nat.le_of_ble_eq_true rfl) rfl ?_
        refine jr_iload_n 1 1 dX9_row_0 rfl rfl rfl ?_
        refine jr_bipush (40) 3 dX9_row_1 rfl rfl ?_
        refine cs_X9_104 6 dX9_row_3 rfl rfl (Nat.le_of_ble_eq_true rfl) (wp_wiT hlen (by decide) rfl ?_)
        refine jr_if_ne 12 9 dX9_row_6 rfl rfl (fun q6 => ?_) (fun q => absurd q (by decide))
        refine jr_iload_n 2 13 dX9_row_12 rfl rfl rfl ?_
        refine jr_iconst (2) 14 dX9_row_13 rfl rfl ?_
        refine cs_X9_104 17 dX9_row_14 rfl rfl (Nat.le_of_ble_eq_true rfl) (wp_wiT hc2 (by decide) rfl ?_)
        refine jr_if_ne 23 20 dX9_row_17 rfl rfl (fun q17 => ?_) (fun q => absurd q (by decide))
        refine jr_aload_n 0 24 dX9_row_23 rfl rfl rfl ?_
        refine jr_iload_n 1 25 dX9_row_24 rfl rfl rfl ?_
        refine cs_X9_205 28 dX9_row_25 rfl rfl rfl (Nat.le_of_ble_eq_true rfl) (wp_playAllNow (len := len) h hlen (jr_eqx_rf _ _) (fun σ1 g1 g6 g2 => ?_))
        refine jr_iload_n 2 29 dX9_row_28 rfl rfl rfl ?_
        refine jr_lookup (off := 36) 65 dX9_row_29 (by decide) (by decide) rfl ?_
        refine jr_aload_n 0 66 dX9_row_65 rfl rfl rfl ?_
        refine gf_X9_37 69 dX9_row_66 rfl rfl rfl rfl ?_
        refine jr_iload_n 1 70 dX9_row_69 rfl rfl rfl ?_
        refine cs_X9_211 73 dX9_row_70 rfl rfl rfl (Nat.le_of_ble_eq_true rfl) (wp_warmthOfAll (nf := nf) (t := len) g6 h5 hlen ?_)
        refine jr_topi (y := lp (fun f a => a + ((sm_R T lw nf nc kd se σ f) len).1) 0 nf) (lp_congr (fun f hf x => by rw [((g2 f hf).2 len (Nat.le_refl _)).1])) ?_
        refine jr_ireturn dX9_row_73 rfl rfl ?_
        have h1 := iv_mov (iv_cx g1) h
        have r1 := rr_of h1
        refine jr_enter (L := [some (.ref 46), some (.int (nI len)), some (.int (nI 1)), none, none]) (by decide) (Nat.le_of_ble_eq_true rfl) rfl ?_
        refine jr_iload_n 1 1 dX10_row_0 rfl rfl rfl ?_
        refine jr_iconst (0) 2 dX10_row_1 rfl rfl ?_
        refine jr_bipush (40) 4 dX10_row_2 rfl rfl ?_
        refine cs_X10_108 7 dX10_row_4 rfl rfl (Nat.le_of_ble_eq_true rfl) (wp_inT hlen (by decide) rfl ?_)
        refine jr_if_ne 13 10 dX10_row_7 rfl rfl (fun q7 => ?_) (fun q => absurd q (by decide))
        refine jr_iload_n 2 14 dX10_row_13 rfl rfl rfl ?_
        refine jr_iconst (0) 15 dX10_row_14 rfl rfl ?_
        refine jr_iconst (2) 16 dX10_row_15 rfl rfl ?_
        refine cs_X10_108 19 dX10_row_16 rfl rfl (Nat.le_of_ble_eq_true rfl) (wp_inT hc2 (by decide) rfl ?_)
        refine jr_if_ne 25 22 dX10_row_19 rfl rfl (fun q19 => ?_) (fun q => absurd q (by decide))
        refine jr_aload_n 0 26 dX10_row_25 rfl rfl rfl ?_
        refine jr_iload_n 1 27 dX10_row_26 rfl rfl rfl ?_
        refine cs_X10_253 30 dX10_row_27 rfl rfl rfl (Nat.le_of_ble_eq_true rfl) (wp_rruns (len := len) r1 hlen (fun σ2 g3 g4 => ?_))
        refine jr_iconst (0) 31 dX10_row_30 rfl rfl ?_
        refine jr_istore_n 3 (L' := [_, _, _, _, _]) 32 dX10_row_31 rfl rfl (by decide) rfl ?_
        refine jr_iconst (0) 33 dX10_row_32 rfl rfl ?_
        refine jr_istore (L' := [_, _, _, _, _]) 35 dX10_row_33 rfl (by decide) rfl ?_
        refine row_r1 h (len := len) (rr_rx r1 g3).1.1 h5 (fun f hf => by rw [(g4 f hf).1, sm_R_of g1]) ?_ nf 0 _ (Nat.zero_add _) rfl
        refine jr_iload_n 2 95 dX10_row_94 rfl rfl rfl ?_
        refine jr_if_ne 105 98 dX10_row_95 rfl rfl (fun q95 => ?_) (fun q => absurd q (by decide))
        refine jr_iload_n 3 106 dX10_row_105 rfl rfl rfl ?_
        refine jr_ireturn dX10_row_106 rfl rfl ?_
        exact ⟨rfl, IV_mov (iv_same_tr (iv_cx g1) (iv_rx g3)) h⟩
      · refine jr_enter (L := [some (.ref 0), some (.int (nI len)), some (.int (nI 2))]) (by decide) (Nat.le_of_ble_eq_true rfl) rfl ?_
        refine jr_iload_n 1 1 dX9_row_0 rfl rfl rfl ?_
        refine jr_bipush (40) 3 dX9_row_1 rfl rfl ?_
        refine cs_X9_104 6 dX9_row_3 rfl rfl (Nat.le_of_ble_eq_true rfl) (wp_wiT hlen (by decide) rfl ?_)
        refine jr_if_ne 12 9 dX9_row_6 rfl rfl (fun q6 => ?_) (fun q => absurd q (by decide))
        refine jr_iload_n 2 13 dX9_row_12 rfl rfl rfl ?_
        refine jr_iconst (2) 14 dX9_row_13 rfl rfl ?_
        refine cs_X9_104 17 dX9_row_14 rfl rfl (Nat.le_of_ble_eq_true rfl) (wp_wiT hc2 (by decide) rfl ?_)
        refine jr_if_ne 23 20 dX9_row_17 rfl rfl (fun q17 => ?_) (fun q => absurd q (by decide))
        refine jr_aload_n 0 24 dX9_row_23 rfl rfl rfl ?_
        refine jr_iload_n 1 25 dX9_row_24 rfl rfl rfl ?_
        refine cs_X9_205 28 dX9_row_25 rfl rfl rfl (Nat.le_of_ble_eq_true rfl) (wp_playAllNow (len := len) h hlen (jr_eqx_rf _ _) (fun σ1 g1 g6 g2 => ?_))
        refine jr_iload_n 2 29 dX9_row_28 rfl rfl rfl ?_
        refine jr_lookup (off := 45) 74 dX9_row_29 (by decide) (by decide) rfl ?_
        refine jr_aload_n 0 75 dX9_row_74 rfl rfl rfl ?_
        refine gf_X9_37 78 dX9_row_75 rfl rfl rfl rfl ?_
        refine jr_iload_n 1 79 dX9_row_78 rfl rfl rfl ?_
        refine cs_X9_214 82 dX9_row_79 rfl rfl rfl (Nat.le_of_ble_eq_true rfl) (wp_hottestBits (nf := nf) (t := len) g6 h5 hlen ?_)
        refine jr_topi (y := lp (fun f a => a + if ((sm_R T lw nf nc kd se σ f) len).1 = 400 then (1 : Int32) <<< (nI f &&& 31) else 0) 0 nf) (Eq.trans (lp_congr (fun f hf x => by rw [((g2 f hf).2 len (Nat.le_refl _)).1, ge4 (sm_le (iv_w4 h hf) len)])) (sum_of h5).symm) ?_
        refine jr_ireturn dX9_row_82 rfl rfl ?_
        have h1 := iv_mov (iv_cx g1) h
        have r1 := rr_of h1
        refine jr_enter (L := [some (.ref 46), some (.int (nI len)), some (.int (nI 2)), none, none]) (by decide) (Nat.le_of_ble_eq_true rfl) rfl ?_
        refine jr_iload_n 1 1 dX10_row_0 rfl rfl rfl ?_
        refine jr_iconst (0) 2 dX10_row_1 rfl rfl ?_
        refine jr_bipush (40) 4 dX10_row_2 rfl rfl ?_
        refine cs_X10_108 7 dX10_row_4 rfl rfl (Nat.le_of_ble_eq_true rfl) (wp_inT hlen (by decide) rfl ?_)
        refine jr_if_ne 13 10 dX10_row_7 rfl rfl (fun q7 => ?_) (fun q => absurd q (by decide))
        refine jr_iload_n 2 14 dX10_row_13 rfl rfl rfl ?_
        refine jr_iconst (0) 15 dX10_row_14 rfl rfl ?_
        refine jr_iconst (2) 16 dX10_row_15 rfl rfl ?_
        refine cs_X10_108 19 dX10_row_16 rfl rfl (Nat.le_of_ble_eq_true rfl) (wp_inT hc2 (by decide) rfl ?_)
        refine jr_if_ne 25 22 dX10_row_19 rfl rfl (fun q19 => ?_) (fun q => absurd q (by decide))
        refine jr_aload_n 0 26 dX10_row_25 rfl rfl rfl ?_
        refine jr_iload_n 1 27 dX10_row_26 rfl rfl rfl ?_
        refine cs_X10_253 30 dX10_row_27 rfl rfl rfl (Nat.le_of_ble_eq_true rfl) (wp_rruns (len := len) r1 hlen (fun σ2 g3 g4 => ?_))
        refine jr_iconst (0) 31 dX10_row_30 rfl rfl ?_
        refine jr_istore_n 3 (L' := [_, _, _, _, _]) 32 dX10_row_31 rfl rfl (by decide) rfl ?_
        refine jr_iconst (0) 33 dX10_row_32 rfl rfl ?_
        refine jr_istore (L' := [_, _, _, _, _]) 35 dX10_row_33 rfl (by decide) rfl ?_
        refine row_r2 h (len := len) (rr_rx r1 g3).1.1 h5 (fun f hf => by rw [(g4 f hf).1, sm_R_of g1]) ?_ nf 0 _ (Nat.zero_add _) rfl
        refine jr_iload_n 2 95 dX10_row_94 rfl rfl rfl ?_
        refine jr_if_ne 105 98 dX10_row_95 rfl rfl (fun q95 => ?_) (fun q => absurd q (by decide))
        refine jr_iload_n 3 106 dX10_row_105 rfl rfl rfl ?_
        refine jr_ireturn dX10_row_106 rfl rfl ?_
        exact ⟨rfl, IV_mov (iv_same_tr (iv_cx g1) (iv_rx g3)) h⟩

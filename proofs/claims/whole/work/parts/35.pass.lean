theorem min_nat (c : Nat) (h : c < 2 ^ 31) : ∃ v : Nat, v ≤ 400 ∧ pu_min 400 (nI c) = nI v := by
  unfold pu_min
  by_cases q : c < 400
  · rw [if_pos (show nI c < 400 from nI_lt (b := 400) q (by omega))]; exact ⟨c, by omega, rfl⟩
  · rw [if_neg (show ¬ nI c < 400 from nI_nlt (b := 400) (by omega) h)]; exact ⟨400, by omega, rfl⟩
theorem sm_nat {T : Nat → Nat → List Nat} {lw nf nc f : Nat} {kd se : Nat → Nat} {σ : jr_Sg} (hlm : ∃ m : Nat, m ≤ 400 ∧ σ 46 46 = nI m) (h0 : ∃ v : Nat, v ≤ 400 ∧ σ 50 f = nI v) : ∀ t, ∃ v : Nat, v ≤ 400 ∧ (sm_R T lw nf nc kd se σ f t).1 = nI v
  | 0 => h0
  | t + 1 => by
    have key : ∀ X : Int32, ∃ v : Nat, v ≤ 400 ∧ pu_min 400 (pu_max 0 (pu_min 400 X) + pr_dr σ f t) = nI v := fun X => by
      obtain ⟨a, ha, ea⟩ := pw_nat4 X
      obtain ⟨m, hm, em⟩ := hlm
      rw [pu_within_mm4, ea]
      unfold pr_dr
      by_cases q : σ 71 f = nI t
      · rw [pu_if_t q, em, nI_add]; exact min_nat _ (by omega)
      · rw [pu_if_f q, Int32.add_zero]; exact min_nat _ (by omega)
    exact key _
/-- other warmths -/
theorem iv_warm {T : Nat → Nat → List Nat} {n nf nc : Nat} {kd se : Nat → Nat} {lw tp : Nat} {σ σ' : jr_Sg} (h : iv T n nf nc kd se lw tp σ) (hc : ∀ a, a ∈ iv_cells → a ≠ 18 → a ≠ 50 → σ' a = σ a) (hf : ∀ k, k ∈ iv_flds → σ' 46 k = σ 46 k) (hw : ∀ f, f < nf → σ' 18 f = σ' 50 f ∧ ∃ v : Nat, v ≤ 400 ∧ σ' 50 f = nI v) : iv T n nf nc kd se lw tp σ' := by
  have h2 : iv T n nf nc kd se lw tp (jr_upc (jr_upc σ' 18 (σ 18)) 50 (σ 50)) := iv_mov ⟨fun a ha => by
    unfold jr_upc
    by_cases e5 : a = 50
    · rw [if_pos e5, e5]
    · rw [if_neg e5]
      by_cases e1 : a = 18
      · rw [if_pos e1, e1]
      · rw [if_neg e1]; exact hc a ha e1 e5, fun k hk => hf k hk⟩ h
  obtain ⟨a1, a2, ⟨b1, b2, b3, b4, b5, b6, b7, b8⟩, a4, a5, a6, a7, a8⟩ := h2
  exact ⟨a1, a2, ⟨b1, b2, b3, b4, b5, fun f hf2 => ⟨(b6 f hf2).1, hw f hf2⟩, b7, b8⟩, a4, a5, a6, a7, a8⟩
def pu_bc0 (x : Int32) : Int32 := x - ((x.toUInt32 >>> (Int32.toUInt32 1 &&& Int32.toUInt32 31)).toInt32 &&& 1431655765)
def pu_bc1 (x : Int32) : Int32 := (x &&& 858993459) + ((x.toUInt32 >>> (Int32.toUInt32 2 &&& Int32.toUInt32 31)).toInt32 &&& 858993459)
def pu_bc2 (x : Int32) : Int32 := (x + (x.toUInt32 >>> (Int32.toUInt32 4 &&& Int32.toUInt32 31)).toInt32) &&& 252645135
def pu_bc3 (x : Int32) : Int32 := x + (x.toUInt32 >>> (Int32.toUInt32 8 &&& Int32.toUInt32 31)).toInt32
def pu_bc4 (x : Int32) : Int32 := (x + (x.toUInt32 >>> (Int32.toUInt32 16 &&& Int32.toUInt32 31)).toInt32) &&& 63
def pu_bc (x : Int32) : Int32 := pu_bc4 (pu_bc3 (pu_bc2 (pu_bc1 (pu_bc0 x))))
def pr_ones (x : Int32) : Int32 := lp (fun k a => a + ((x >>> (nI k &&& 31)) &&& 1)) 0 12
theorem mB_ones : ∀ r0 r1 r2 r3 r4 : Bool, ∀ n : Fin 6, pr_ones (mB r0 r1 r2 r3 r4 n.val) = pu_bc (mB r0 r1 r2 r3 r4 n.val) := by decide +kernel
theorem ones_of {R : Nat → Prop} [∀ f, Decidable (R f)] {n : Nat} (hn : n ≤ 5) : pr_ones (lp (fun f a => a ||| if R f then (1 : Int32) <<< (nI f &&& 31) else 0) 0 n) = pu_bc (lp (fun f a => a ||| if R f then (1 : Int32) <<< (nI f &&& 31) else 0) 0 n) := by
  obtain ⟨r0, r1, r2, r3, r4, h⟩ := bB_all (R := R)
  rw [mB_of hn h]
  exact mB_ones r0 r1 r2 r3 r4 ⟨n, by omega⟩
theorem wp_bitCount {G : jr_G} {d : Nat} {σ : jr_Sg} {k : Value → jr_Sg → Prop} {x : Int32} (h : k (.int (pu_bc x)) σ) : jr_M G d mi_J6_bitCount_0f7a4 [.int x] σ (jr_k k) := by
  refine jr_enter (L := [some (.int x)]) (by decide) (Nat.le_of_ble_eq_true rfl) rfl ?_
  refine jr_iload_n 0 1 dJ6_bitCount_0f7a4_0 rfl rfl rfl ?_
  refine jr_iload_n 0 2 dJ6_bitCount_0f7a4_1 rfl rfl rfl ?_
  refine jr_iconst (1) 3 dJ6_bitCount_0f7a4_2 rfl rfl ?_
  refine jr_iushr 4 dJ6_bitCount_0f7a4_3 rfl ?_
  refine jr_ldcw kc_J6_265 7 dJ6_bitCount_0f7a4_4 rfl ?_
  refine jr_iand 8 dJ6_bitCount_0f7a4_7 rfl ?_
  refine jr_isub 9 dJ6_bitCount_0f7a4_8 rfl ?_
  refine jr_istore_n 0 (L' := [_]) 10 dJ6_bitCount_0f7a4_9 rfl rfl (by decide) rfl ?_
  refine jr_iload_n 0 11 dJ6_bitCount_0f7a4_10 rfl rfl rfl ?_
  refine jr_ldcw kc_J6_266 14 dJ6_bitCount_0f7a4_11 rfl ?_
  refine jr_iand 15 dJ6_bitCount_0f7a4_14 rfl ?_
  refine jr_iload_n 0 16 dJ6_bitCount_0f7a4_15 rfl rfl rfl ?_
  refine jr_iconst (2) 17 dJ6_bitCount_0f7a4_16 rfl rfl ?_
  refine jr_iushr 18 dJ6_bitCount_0f7a4_17 rfl ?_
  refine jr_ldcw kc_J6_266 21 dJ6_bitCount_0f7a4_18 rfl ?_
  refine jr_iand 22 dJ6_bitCount_0f7a4_21 rfl ?_
  refine jr_iadd 23 dJ6_bitCount_0f7a4_22 rfl ?_
  refine jr_istore_n 0 (L' := [_]) 24 dJ6_bitCount_0f7a4_23 rfl rfl (by decide) rfl ?_
  refine jr_iload_n 0 25 dJ6_bitCount_0f7a4_24 rfl rfl rfl ?_
  refine jr_iload_n 0 26 dJ6_bitCount_0f7a4_25 rfl rfl rfl ?_
  refine jr_iconst (4) 27 dJ6_bitCount_0f7a4_26 rfl rfl ?_
  refine jr_iushr 28 dJ6_bitCount_0f7a4_27 rfl ?_
  refine jr_iadd 29 dJ6_bitCount_0f7a4_28 rfl ?_
  refine jr_ldcw kc_J6_267 32 dJ6_bitCount_0f7a4_29 rfl ?_
  refine jr_iand 33 dJ6_bitCount_0f7a4_32 rfl ?_
  refine jr_istore_n 0 (L' := [_]) 34 dJ6_bitCount_0f7a4_33 rfl rfl (by decide) rfl ?_
  refine jr_iload_n 0 35 dJ6_bitCount_0f7a4_34 rfl rfl rfl ?_
  refine jr_iload_n 0 36 dJ6_bitCount_0f7a4_35 rfl rfl rfl ?_
  refine jr_bipush (8) 38 dJ6_bitCount_0f7a4_36 rfl rfl ?_
  refine jr_iushr 39 dJ6_bitCount_0f7a4_38 rfl ?_
  refine jr_iadd 40 dJ6_bitCount_0f7a4_39 rfl ?_
  refine jr_istore_n 0 (L' := [_]) 41 dJ6_bitCount_0f7a4_40 rfl rfl (by decide) rfl ?_
  refine jr_iload_n 0 42 dJ6_bitCount_0f7a4_41 rfl rfl rfl ?_
  refine jr_iload_n 0 43 dJ6_bitCount_0f7a4_42 rfl rfl rfl ?_
  refine jr_bipush (16) 45 dJ6_bitCount_0f7a4_43 rfl rfl ?_
  refine jr_iushr 46 dJ6_bitCount_0f7a4_45 rfl ?_
  refine jr_iadd 47 dJ6_bitCount_0f7a4_46 rfl ?_
  refine jr_istore_n 0 (L' := [_]) 48 dJ6_bitCount_0f7a4_47 rfl rfl (by decide) rfl ?_
  refine jr_iload_n 0 49 dJ6_bitCount_0f7a4_48 rfl rfl rfl ?_
  refine jr_bipush (63) 51 dJ6_bitCount_0f7a4_49 rfl rfl ?_
  refine jr_iand 52 dJ6_bitCount_0f7a4_51 rfl ?_
  refine jr_ireturn dJ6_bitCount_0f7a4_52 rfl rfl ?_
  exact h
theorem ones_loop {G : jr_G} {d : Nat} {σ : jr_Sg} {k : Value → jr_Sg → Prop} {x : Int32} (h : k (.int (pr_ones x)) σ) : ∀ (m i : Nat) (a : Int32), i + m = 12 → a = lp (fun k a => a + ((x >>> (nI k &&& 31)) &&& 1)) 0 i → jr_R G d mi_X10_ones (jr_k k) 4 [some (.int x), some (.int a), some (.int (nI i))] [] σ := by
  intro m
  induction m with
  | zero =>
    intro i a hi e
    have ei : i = 12 := hi
    subst ei
    subst e
    refine jr_iload_n 2 5 dX10_ones_4 rfl rfl rfl ?_
    refine jr_bipush (nI 12) 7 dX10_ones_5 rfl rfl ?_
    refine jr_icmp_ge 24 10 dX10_ones_7 rfl rfl (fun q7 => ?_) (fun z => absurd (by decide) z)
    refine jr_iload_n 1 25 dX10_ones_24 rfl rfl rfl ?_
    refine jr_ireturn dX10_ones_25 rfl rfl ?_
    exact h
  | succ m ih =>
    intro i a hi e
    refine jr_iload_n 2 5 dX10_ones_4 rfl rfl rfl ?_
    refine jr_bipush (nI 12) 7 dX10_ones_5 rfl rfl ?_
    refine jr_icmp_ge 24 10 dX10_ones_7 rfl rfl (fun z => absurd z (nI_ge (b := 12) (by omega) (by decide))) (fun q7 => ?_)
    refine jr_iload_n 1 11 dX10_ones_10 rfl rfl rfl ?_
    refine jr_iload_n 0 12 dX10_ones_11 rfl rfl rfl ?_
    refine jr_iload_n 2 13 dX10_ones_12 rfl rfl rfl ?_
    refine jr_ishr 14 dX10_ones_13 rfl ?_
    refine jr_iconst (1) 15 dX10_ones_14 rfl rfl ?_
    refine jr_iand 16 dX10_ones_15 rfl ?_
    refine jr_iadd 17 dX10_ones_16 rfl ?_
    refine jr_istore_n 1 (L' := [_, _, _]) 18 dX10_ones_17 rfl rfl (by decide) rfl ?_
    refine jr_iinc (v := nI (i + 1)) (L' := [_, _, _]) 21 dX10_ones_18 rfl rfl (nI_1 i) (by decide) rfl ?_
    refine jr_goto 4 dX10_ones_21 rfl ?_
    exact ih (i + 1) _ (by omega) (by rw [e]; rfl)
theorem wp_ones {G : jr_G} {d : Nat} {σ : jr_Sg} {k : Value → jr_Sg → Prop} {x : Int32} (h : k (.int (pr_ones x)) σ) : jr_M G d mi_X10_ones [.int x] σ (jr_k k) := by
  refine jr_enter (L := [some (.int x), none, none]) (by decide) (Nat.le_of_ble_eq_true rfl) rfl ?_
  refine jr_iconst (0) 1 dX10_ones_0 rfl rfl ?_
  refine jr_istore_n 1 (L' := [_, _, _]) 2 dX10_ones_1 rfl rfl (by decide) rfl ?_
  refine jr_iconst (nI 0) 3 dX10_ones_2 rfl rfl ?_
  refine jr_istore_n 2 (L' := [_, _, _]) 4 dX10_ones_3 rfl rfl (by decide) rfl ?_
  exact ones_loop h 12 0 _ (by omega) rfl
theorem pass_x {G : jr_G} {d : Nat} {σ : jr_Sg} {k : Value → jr_Sg → Prop} {T : Nat → Nat → List Nat} {n nf nc lw tp len : Nat} {kd se : Nat → Nat} (h : iv T n nf nc kd se lw tp σ) (hlen : len ≤ 40) {σ1 : jr_Sg} (hnf1 : σ1 15 8 = nI nf) (h5 : nf ≤ 5) (g2 : (∀ f, f < nf → pd σ1 len f (pr_rf kd se σ f) (sm_R T lw nf nc kd se σ f))) (fin : ∀ σ2 : jr_Sg, (∀ a, a ≠ 18 → σ2 a = σ1 a) → (∀ f, f < nf → σ2 18 f = (sm_R T lw nf nc kd se σ f len).1) → jr_R G (d + 19) mi_X9_pass (jr_k k) 59 [some (.ref 0), some (.int (nI len)), some (.int (nI nf))] [] σ2) : ∀ (m i : Nat) (σ2 : jr_Sg), i + m = nf → (∀ a, a ≠ 18 → σ2 a = σ1 a) → (∀ f, f < i → σ2 18 f = (sm_R T lw nf nc kd se σ f len).1) → jr_R G (d + 19) mi_X9_pass (jr_k k) 19 [some (.ref 0), some (.int (nI len)), some (.int (nI i))] [] σ2 := by
  intro m
  induction m with
  | zero =>
    intro i σ2 hi g g18
    have ei : i = nf := hi
    subst ei
    refine jr_iload_n 2 20 dX9_pass_19 rfl rfl rfl ?_
    refine jr_aload_n 0 21 dX9_pass_20 rfl rfl rfl ?_
    refine gf_X9_44 24 dX9_pass_21 rfl rfl rfl rfl ?_
    refine gf_X9_84 27 dX9_pass_24 rfl rfl rfl rfl ?_
    rw [g 15 (by decide), hnf1]
    refine jr_icmp_ge 59 30 dX9_pass_27 rfl rfl (fun q27 => ?_) (fun q => absurd (Int32.le_refl _) q)
    exact fin σ2 g g18
  | succ m ih =>
    intro i σ2 hi g g18
    refine jr_iload_n 2 20 dX9_pass_19 rfl rfl rfl ?_
    refine jr_aload_n 0 21 dX9_pass_20 rfl rfl rfl ?_
    refine gf_X9_44 24 dX9_pass_21 rfl rfl rfl rfl ?_
    refine gf_X9_84 27 dX9_pass_24 rfl rfl rfl rfl ?_
    rw [g 15 (by decide), hnf1]
    refine jr_icmp_ge 59 30 dX9_pass_27 rfl rfl (fun q => absurd q (nI_ge (by omega) (by omega))) (fun q27 => ?_)
    refine jr_iload_n 2 31 dX9_pass_30 rfl rfl rfl ?_
    refine jr_iconst (nI 5) 32 dX9_pass_31 rfl rfl ?_
    refine jr_icmp_ge 59 35 dX9_pass_32 rfl rfl (fun q => absurd q (nI_ge (b := 5) (by omega) (by decide))) (fun q32 => ?_)
    refine jr_aload_n 0 36 dX9_pass_35 rfl rfl rfl ?_
    refine gf_X9_44 39 dX9_pass_36 rfl rfl rfl rfl ?_
    refine gf_X9_149 42 dX9_pass_39 rfl rfl rfl rfl ?_
    refine jr_iload_n 2 43 dX9_pass_42 rfl rfl rfl ?_
    refine jr_aload_n 0 44 dX9_pass_43 rfl rfl rfl ?_
    refine gf_X9_37 47 dX9_pass_44 rfl rfl rfl rfl ?_
    refine jr_iload_n 1 48 dX9_pass_47 rfl rfl rfl ?_
    refine jr_iload_n 2 49 dX9_pass_48 rfl rfl rfl ?_
    refine cs_X9_192 52 dX9_pass_49 rfl rfl rfl (Nat.le_of_ble_eq_true rfl) (wp_warmthBehind (t := len) (f := i) hlen (by omega) ?_)
    refine jr_topi (y := (sm_R T lw nf nc kd se σ i len).1) (by rw [g 12 (by decide)]; exact ((g2 i (by omega)).2 len (Nat.le_refl _)).1) ?_
    refine jr_iast rfl rfl (by omega) 53 dX9_pass_52 rfl ?_
    refine jr_iinc (v := nI (i + 1)) (L' := [_, _, _]) 56 dX9_pass_53 rfl rfl (nI_1 i) (by decide) rfl ?_
    refine jr_goto 19 dX9_pass_56 rfl ?_
    refine ih (i + 1) _ (by omega) (fun a ha => ?_) (fun f hf => ?_)
    · unfold jr_up
      rw [if_neg ha]
      exact g a ha
    · show upd (σ2 18) i (sm_R T lw nf nc kd se σ i len).1 f = _
      by_cases e : f = i
      · subst e; exact pk_us
      · rw [pk_un e]; exact g18 f (by omega)
theorem pass_r {G : jr_G} {d : Nat} {σ : jr_Sg} {k : Value → jr_Sg → Prop} {T : Nat → Nat → List Nat} {n nf nc lw tp len : Nat} {kd se : Nat → Nat} (h : iv T n nf nc kd se lw tp σ) (hlen : len ≤ 40) {σ1 : jr_Sg} (hnf1 : σ1 46 1 = nI nf) (h5 : nf ≤ 5) (g2 : ∀ f, f < nf → σ1 65 f = (sm_R T lw nf nc kd se σ f len).1) (fin : ∀ σ2 : jr_Sg, (∀ a, a ≠ 50 → σ2 a = σ1 a) → (∀ f, f < nf → σ2 50 f = (sm_R T lw nf nc kd se σ f len).1) → jr_R G (d + 20) mi_X10_pass (jr_k k) 46 [some (.ref 46), some (.int (nI len)), some (.int (nI nf))] [] σ2) : ∀ (m i : Nat) (σ2 : jr_Sg), i + m = nf → (∀ a, a ≠ 50 → σ2 a = σ1 a) → (∀ f, f < i → σ2 50 f = (sm_R T lw nf nc kd se σ f len).1) → jr_R G (d + 20) mi_X10_pass (jr_k k) 20 [some (.ref 46), some (.int (nI len)), some (.int (nI i))] [] σ2 := by
  intro m
  induction m with
  | zero =>
    intro i σ2 hi g g18
    have ei : i = nf := hi
    subst ei
    refine jr_iload_n 2 21 dX10_pass_20 rfl rfl rfl ?_
    refine jr_aload_n 0 22 dX10_pass_21 rfl rfl rfl ?_
    refine gf_X10_105 25 dX10_pass_22 rfl rfl rfl rfl ?_
    rw [g 46 (by decide), hnf1]
    refine jr_icmp_ge 46 28 dX10_pass_25 rfl rfl (fun q25 => ?_) (fun q => absurd (Int32.le_refl _) q)
    exact fin σ2 g g18
  | succ m ih =>
    intro i σ2 hi g g18
    refine jr_iload_n 2 21 dX10_pass_20 rfl rfl rfl ?_
    refine jr_aload_n 0 22 dX10_pass_21 rfl rfl rfl ?_
    refine gf_X10_105 25 dX10_pass_22 rfl rfl rfl rfl ?_
    rw [g 46 (by decide), hnf1]
    refine jr_icmp_ge 46 28 dX10_pass_25 rfl rfl (fun q => absurd q (nI_ge (by omega) (by omega))) (fun q25 => ?_)
    refine jr_aload_n 0 29 dX10_pass_28 rfl rfl rfl ?_
    refine gf_X10_19 32 dX10_pass_29 rfl rfl rfl rfl ?_
    refine jr_iload_n 2 33 dX10_pass_32 rfl rfl rfl ?_
    refine jr_aload_n 0 34 dX10_pass_33 rfl rfl rfl ?_
    refine gf_X10_64 37 dX10_pass_34 rfl rfl rfl rfl ?_
    refine jr_iload_n 2 38 dX10_pass_37 rfl rfl rfl ?_
    refine jr_iald rfl rfl (by omega) 39 dX10_pass_38 rfl ?_
    refine jr_topi (y := (sm_R T lw nf nc kd se σ i len).1) (by rw [g 65 (by decide)]; exact g2 i (by omega)) ?_
    refine jr_iast rfl rfl (by omega) 40 dX10_pass_39 rfl ?_
    refine jr_iinc (v := nI (i + 1)) (L' := [_, _, _]) 43 dX10_pass_40 rfl rfl (nI_1 i) (by decide) rfl ?_
    refine jr_goto 20 dX10_pass_43 rfl ?_
    refine ih (i + 1) _ (by omega) (fun a ha => ?_) (fun f hf => ?_)
    · unfold jr_up
      rw [if_neg ha]
      exact g a ha
    · show upd (σ2 50) i (sm_R T lw nf nc kd se σ i len).1 f = _
      by_cases e : f = i
      · subst e; exact pk_us
      · rw [pk_un e]; exact g18 f (by omega)
theorem pp_pass {G : jr_G} {d : Nat} {σ : jr_Sg} {a : Int32} (h : IV σ) : jr_pair G (d + 20) mi_X9_pass mi_X10_pass [.int a] σ := by
  obtain ⟨T, n, nf, nc, kd, se, lw, tp, h⟩ := h
  have hh := h
  obtain ⟨hTC, hTR, ⟨hsc, hsr, hl1, hl2, hlw, hfc, hli, hca⟩, htp, himg, hsh, hrest, hwd⟩ := hh
  have hnf := hsc.1
  have h5 := hsc.2.1
  have hnc := hsc.2.2.1
  have h8 := hsc.2.2.2.1
  have rnf := hsr.1
  have rnc := hsr.2.2.1
  have hlm := hrest.2.2.2.1
  unfold jr_pair
  rcases jr_rg a (m := 40) (by decide) with qlen | ⟨len, hlen, rfl⟩
  · refine jr_enter (L := [some (.ref 0), some (.int a), none]) (by decide) (Nat.le_of_ble_eq_true rfl) rfl ?_
    refine jr_iload_n 1 1 dX9_pass_0 rfl rfl rfl ?_
    refine jr_bipush (40) 3 dX9_pass_1 rfl rfl ?_
    refine cs_X9_104 6 dX9_pass_3 rfl rfl (Nat.le_of_ble_eq_true rfl) (wp_wiF qlen ?_)
    refine jr_if_ne 12 9 dX9_pass_6 rfl rfl (fun q => absurd (by decide) q) (fun q6 => ?_)
    refine jr_bipush ((-2)) 11 dX9_pass_9 rfl rfl ?_
    refine jr_ireturn dX9_pass_11 rfl rfl ?_
    refine jr_enter (L := [some (.ref 46), some (.int a), none]) (by decide) (Nat.le_of_ble_eq_true rfl) rfl ?_
    refine jr_iload_n 1 1 dX10_pass_0 rfl rfl rfl ?_
    refine jr_iconst (0) 2 dX10_pass_1 rfl rfl ?_
    refine jr_bipush (40) 4 dX10_pass_2 rfl rfl ?_
    refine cs_X10_108 7 dX10_pass_4 rfl rfl (Nat.le_of_ble_eq_true rfl) (wp_inF qlen ?_)
    refine jr_if_ne 13 10 dX10_pass_7 rfl rfl (fun q => absurd (by decide) q) (fun q7 => ?_)
    refine jr_bipush ((-2)) 12 dX10_pass_10 rfl rfl ?_
    refine jr_ireturn dX10_pass_12 rfl rfl ?_
    exact ⟨rfl, IV_mov (iv_same_x (jr_eqx_rf [] _) (by decide)) h⟩
  · refine jr_enter (L := [some (.ref 0), some (.int (nI len)), none]) (by decide) (Nat.le_of_ble_eq_true rfl) rfl ?_
    refine jr_iload_n 1 1 dX9_pass_0 rfl rfl rfl ?_
    refine jr_bipush (nI 40) 3 dX9_pass_1 rfl rfl ?_
    refine cs_X9_104 6 dX9_pass_3 rfl rfl (Nat.le_of_ble_eq_true rfl) (wp_wiT hlen (by decide) rfl ?_)
    refine jr_if_ne 12 9 dX9_pass_6 rfl rfl (fun q6 => ?_) (fun q => absurd q (by decide))
    refine jr_aload_n 0 13 dX9_pass_12 rfl rfl rfl ?_
    refine jr_iload_n 1 14 dX9_pass_13 rfl rfl rfl ?_
    refine cs_X9_205 17 dX9_pass_14 rfl rfl rfl (Nat.le_of_ble_eq_true rfl) (wp_playAllNow (len := len) h hlen (jr_eqx_rf _ _) (fun σ1 g1 g6 g2 => ?_))
    refine jr_iconst (nI 0) 18 dX9_pass_17 rfl rfl ?_
    refine jr_istore_n 2 (L' := [_, _, _]) 19 dX9_pass_18 rfl rfl (by decide) rfl ?_
    refine pass_x h hlen (σ1 := σ1) (by rw [g1 15 (by decide)]; exact hnf) h5 g2 (fun σ5 g5 w5 => ?_) nf 0 σ1 (Nat.zero_add _) (fun _ _ => rfl) (fun f hf => absurd hf (Nat.not_lt_zero f))
    refine jr_aload_n 0 60 dX9_pass_59 rfl rfl rfl ?_
    refine gf_X9_37 63 dX9_pass_60 rfl rfl rfl rfl ?_
    refine jr_iload_n 1 64 dX9_pass_63 rfl rfl rfl ?_
    refine cs_X9_208 67 dX9_pass_64 rfl rfl rfl (Nat.le_of_ble_eq_true rfl) (wp_redBits (nf := nf) (t := len) (by rw [g5 9 (by decide)]; exact g6) h5 hlen ?_)
    refine jr_topi (y := lp (fun f a => a ||| if pr_rf kd se σ f ≤ (sm_R T lw nf nc kd se σ f len).1 then (1 : Int32) <<< (nI f &&& 31) else 0) 0 nf) (lp_congr (fun f hf x => by rw [g5 14 (by decide), g5 12 (by decide), (g2 f hf).1, ((g2 f hf).2 len (Nat.le_refl _)).1])) ?_
    refine cs_X9_217 70 dX9_pass_67 rfl rfl (Nat.le_of_ble_eq_true rfl) (wp_bitCount ?_)
    refine jr_ireturn dX9_pass_70 rfl rfl ?_
    have g5' : jr_eqx [18] σ1 σ5 := fun a ha => g5 a (fun e => ha (by rw [e]; decide))
    have r3 : rr_ok T n nf nc kd se lw σ5 := rr_x (rr_x (rr_of h) g1 (by decide)) g5' (by decide)
    have ew5 : ∀ f, (sm_R T lw nf nc kd se σ5 f len).1 = (sm_R T lw nf nc kd se σ f len).1 := fun f => by rw [sm_R_x g5' (by decide), sm_R_of g1]
    have er5 : ∀ f, pr_rf kd se σ5 f = pr_rf kd se σ f := fun f => by rw [pr_rf_x g5' (by decide), pr_rf_of g1]
    refine jr_enter (L := [some (.ref 46), some (.int (nI len)), none]) (by decide) (Nat.le_of_ble_eq_true rfl) rfl ?_
    refine jr_iload_n 1 1 dX10_pass_0 rfl rfl rfl ?_
    refine jr_iconst (nI 0) 2 dX10_pass_1 rfl rfl ?_
    refine jr_bipush (nI 40) 4 dX10_pass_2 rfl rfl ?_
    refine cs_X10_108 7 dX10_pass_4 rfl rfl (Nat.le_of_ble_eq_true rfl) (wp_inT hlen (by decide) rfl ?_)
    refine jr_if_ne 13 10 dX10_pass_7 rfl rfl (fun q7 => ?_) (fun q => absurd q (by decide))
    refine jr_aload_n 0 14 dX10_pass_13 rfl rfl rfl ?_
    refine jr_iload_n 1 15 dX10_pass_14 rfl rfl rfl ?_
    refine cs_X10_253 18 dX10_pass_15 rfl rfl rfl (Nat.le_of_ble_eq_true rfl) (wp_rruns (len := len) r3 hlen (fun σ7 g7 g8 => ?_))
    refine jr_iconst (nI 0) 19 dX10_pass_18 rfl rfl ?_
    refine jr_istore_n 2 (L' := [_, _, _]) 20 dX10_pass_19 rfl rfl (by decide) rfl ?_
    refine pass_r h hlen (σ1 := σ7) (rr_rx r3 g7).1.1 h5 (fun f hf => by rw [(g8 f hf).1, ew5 f]) (fun σ9 g9 w9 => ?_) nf 0 σ7 (Nat.zero_add _) (fun _ _ => rfl) (fun f hf => absurd hf (Nat.not_lt_zero f))
    have r4 : rr_ok T n nf nc kd se lw σ9 := rr_x (X := [50]) (rr_rx r3 g7) (fun a ha => g9 a (fun e => ha (by rw [e]; decide))) (by decide)
    refine jr_aload_n 0 47 dX10_pass_46 rfl rfl rfl ?_
    refine cs_X10_278 50 dX10_pass_47 rfl rfl rfl (Nat.le_of_ble_eq_true rfl) (wp_redNow (nf := nf) r4.1 ?_)
    refine jr_topi (y := lp (fun f a => a ||| if pr_rf kd se σ f ≤ (sm_R T lw nf nc kd se σ f len).1 then (1 : Int32) <<< (nI f &&& 31) else 0) 0 nf) (lp_congr (fun f hf x => by rw [g9 49 (by decide), g9 47 (by decide), g9 65 (by decide), (g8 f hf).1, g7 49 (by decide), g7 47 (by decide), show pu_redf (kd f) (σ5 49 f) (σ5 47 (se f)) = pr_rf kd se σ f from er5 f, ew5 f])) ?_
    refine cs_X10_281 53 dX10_pass_50 rfl rfl (Nat.le_of_ble_eq_true rfl) (wp_ones ?_)
    refine jr_ireturn dX10_pass_53 rfl rfl ?_
    refine ⟨congrArg Value.int (ones_of h5), ?_⟩
    refine ⟨T, n, nf, nc, kd, se, lw, tp, iv_warm h (fun a ha e1 e5 => ?_) (fun k hk => ?_) (fun f hf => ?_)⟩
    · have hx : a ∉ iv_RX ∧ a ∉ iv_CX := by
        revert e1 e5
        revert a
        decide
      rw [g9 a e5, g7 a hx.1, g5 a e1, g1 a hx.2]
    · rw [g9 46 (by decide), g7 46 (by decide), g5 46 (by decide), g1 46 (by decide)]
    · refine ⟨?_, ?_⟩
      · rw [w9 f hf, g9 18 (by decide), g7 18 (by decide), w5 f hf]
      · rw [w9 f hf]
        exact sm_nat hlm (hfc f hf).2.2 len

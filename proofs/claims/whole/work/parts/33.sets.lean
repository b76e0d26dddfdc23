theorem pu_ite {p : Prop} [Decidable p] (a b : Int32) : (if p then a else b) = pu_if p a b := by
  by_cases h : p
  · rw [if_pos h, pu_if_t h]
  · rw [if_neg h, pu_if_f h]
theorem or_if (p q : Prop) (B : Int32) : pu_if p B 0 ||| pu_if q B 0 = pu_if (p ∨ q) B 0 := by
  by_cases hp : p
  · rw [pu_if_t hp, pu_if_t (Or.inl hp)]
    by_cases hq : q
    · rw [pu_if_t hq, Int32.or_self]
    · rw [pu_if_f hq, Int32.or_zero]
  · rw [pu_if_f hp, Int32.zero_or]
    by_cases hq : q
    · rw [pu_if_t hq, pu_if_t (Or.inr hq)]
    · rw [pu_if_f hq, pu_if_f (fun z => z.elim hp hq)]
theorem or_four (x c y d : Int32) : (x ||| c) ||| (y ||| d) = (x ||| y) ||| (c ||| d) := by
  rw [Int32.or_assoc, ← Int32.or_assoc c y d, Int32.or_comm c y, Int32.or_assoc y c d, ← Int32.or_assoc x y]
theorem or_row {P Q : Nat → Prop} {B : Nat → Int32} : ∀ m, lp (fun f a => a ||| pu_if (P f) (B f) 0) 0 m ||| lp (fun f a => a ||| pu_if (Q f) (B f) 0) 0 m = lp (fun f a => a ||| pu_if (P f ∨ Q f) (B f) 0) 0 m
  | 0 => by simp [lp]
  | m + 1 => by
    rw [lp, lp, lp, or_four, or_row m, or_if]
theorem or_zero_row {P : Nat → Prop} {B : Nat → Int32} (h : ∀ f, ¬ P f) : ∀ m, lp (fun f a => a ||| pu_if (P f) (B f) 0) 0 m = 0
  | 0 => rfl
  | m + 1 => by rw [lp, or_zero_row h m, pu_if_f (h m), Int32.or_zero]
theorem or_all {P : Nat → Nat → Prop} {B : Nat → Int32} {m : Nat} : ∀ n, lp (fun i a => a ||| lp (fun f a => a ||| pu_if (P f i) (B f) 0) 0 m) 0 n = lp (fun f a => a ||| pu_if (∃ i, i < n ∧ P f i) (B f) 0) 0 m
  | 0 => (or_zero_row (P := fun f => ∃ i, i < 0 ∧ P f i) (fun f ⟨i, hi, _⟩ => absurd hi (Nat.not_lt_zero i)) m).symm
  | n + 1 => by
    rw [lp, or_all n, or_row (P := fun f => ∃ i, i < n ∧ P f i) (Q := fun f => P f n) m]
    exact lp_congr (fun f _ x => by
      have hq : ((∃ i, i < n ∧ P f i) ∨ P f n) ↔ (∃ i, i < n + 1 ∧ P f i) := by
        constructor
        · rintro (⟨i, hi, hp⟩ | hp)
          · exact ⟨i, by omega, hp⟩
          · exact ⟨n, by omega, hp⟩
        · rintro ⟨i, hi, hp⟩
          rcases (by omega : i < n ∨ i = n) with q | rfl
          · exact Or.inl ⟨i, q, hp⟩
          · exact Or.inr hp
      rw [pu_if_congr hq])
theorem tr_rs_pos (W : Nat → Int32 × Int32) (rf : Int32) : 0 < tr_rs W rf ↔ ∃ i, i < 40 ∧ rf ≤ (W (i + 1)).1 := by
  have key : ∀ n, n ≤ 40 → ∃ c : Nat, c ≤ n ∧ lp (fun i a => a + if rf ≤ (W (i + 1)).1 then 1 else 0) 0 n = nI c ∧ (0 < c ↔ ∃ i, i < n ∧ rf ≤ (W (i + 1)).1) := by
    intro n
    induction n with
    | zero => exact fun _ => ⟨0, Nat.le_refl _, rfl, ⟨fun h => absurd h (Nat.lt_irrefl 0), fun ⟨i, hi, _⟩ => absurd hi (Nat.not_lt_zero i)⟩⟩
    | succ n ih =>
      intro hn
      obtain ⟨c, hc, e, hi⟩ := ih (by omega)
      rw [lp, e]
      by_cases h : rf ≤ (W (n + 1)).1
      · rw [if_pos h, nI_1]; exact ⟨c + 1, by omega, rfl, ⟨fun _ => ⟨n, Nat.lt_succ_self n, h⟩, fun _ => Nat.succ_pos c⟩⟩
      · rw [if_neg h, Int32.add_zero]
        exact ⟨c, by omega, rfl, ⟨fun z => by obtain ⟨i, q, hp⟩ := hi.mp z; exact ⟨i, by omega, hp⟩, fun ⟨i, q, hp⟩ => hi.mpr ⟨i, by
          rcases (by omega : i < n ∨ i = n) with z | rfl
          · exact z
          · exact absurd hp h, hp⟩⟩⟩
  obtain ⟨c, hc, e, hi⟩ := key 40 (Nat.le_refl _)
  show 0 < lp _ 0 40 ↔ _
  rw [e, ← hi]
  constructor
  · intro h
    rcases Nat.eq_zero_or_pos c with rfl | q
    · exact absurd h (by decide)
    · exact q
  · intro h
    exact nI_lt (a := 0) h (by omega)
/-- who is ever red -/
noncomputable def er (T : Nat → Nat → List Nat) (lw nf nc : Nat) (kd se : Nat → Nat) (σ : jr_Sg) : Int32 := lp (fun f a => a ||| if 0 < tr_rs (sm_R T lw nf nc kd se σ f) (pr_rf kd se σ f) then (1 : Int32) <<< (nI f &&& 31) else 0) 0 nf
theorem er_eq {T : Nat → Nat → List Nat} {lw nf nc : Nat} {kd se : Nat → Nat} {σ σ1 : jr_Sg} (h : ∀ f, f < nf → pd σ1 40 f (pr_rf kd se σ f) (sm_R T lw nf nc kd se σ f)) : lp (fun i a => a ||| lp (fun f a => a ||| if σ1 14 f ≤ σ1 12 (5 * (i + 1) + f) then (1 : Int32) <<< (nI f &&& 31) else 0) 0 nf) 0 40 = er T lw nf nc kd se σ := by
  have e1 : lp (fun i a => a ||| lp (fun f a => a ||| if σ1 14 f ≤ σ1 12 (5 * (i + 1) + f) then (1 : Int32) <<< (nI f &&& 31) else 0) 0 nf) 0 40 = lp (fun i a => a ||| lp (fun f a => a ||| pu_if (pr_rf kd se σ f ≤ (sm_R T lw nf nc kd se σ f (i + 1)).1) ((1 : Int32) <<< (nI f &&& 31)) 0) 0 nf) 0 40 :=
    lp_congr (fun i hi x => by
      rw [lp_congr (fun f hf y => by rw [(h f hf).1, ((h f hf).2 (i + 1) (by omega)).1, pu_ite])])
  rw [e1, or_all]
  exact lp_congr (fun f hf x => by rw [pu_ite, pu_if_congr (tr_rs_pos _ _)])
theorem er_x {X : List Nat} {T : Nat → Nat → List Nat} {lw nf nc : Nat} {kd se : Nat → Nat} {σ σ' : jr_Sg} (h : jr_eqx X σ σ') (hX : ∀ a, a ∈ [46, 47, 49, 50, 52, 70, 71] → a ∉ X) : er T lw nf nc kd se σ' = er T lw nf nc kd se σ := lp_congr (fun i _ x => by rw [sm_R_x h hX, pr_rf_x h (fun a ha => hX a (by revert a; decide))])
theorem ag_c0 {σ : jr_Sg} {y : Nat} {much : Int32} (e : σ 46 45 = 0) : jr_ag [47, 49, 50, 52, 70, 71] [39, 40, 41, 42, 43, 45, 46] (md_c σ y 0 much) (jr_up σ 70 y much) := by
  refine ⟨fun c hc => ?_, fun k hk => ?_⟩
  · have hc2 : c ≠ 46 := by revert c; decide
    unfold md_c
    have q : ∀ τ : jr_Sg, jr_up τ 46 45 0 c = τ c := fun τ => by unfold jr_up; rw [if_neg hc2]
    rw [q]
  · show σ 46 k = upd (σ 46) 45 0 k
    by_cases e4 : k = 45
    · subst e4; rw [pk_us]; exact e
    · rw [pk_un e4]
theorem er_c0 {T : Nat → Nat → List Nat} {lw nf nc y : Nat} {kd se : Nat → Nat} {σ : jr_Sg} {much : Int32} (e : σ 46 45 = 0) : er T lw nf nc kd se (jr_up σ 70 y much) = er T lw nf nc kd se (md_c σ y 0 much) := lp_congr (fun i _ x => by rw [sm_R_ag (ag_c0 e), show pr_rf kd se (jr_up σ 70 y much) i = pr_rf kd se (md_c σ y 0 much) i from rfl])
theorem wp_cRedAsked {G : jr_G} {d : Nat} {σ : jr_Sg} {k : Value → jr_Sg → Prop} {T : Nat → Nat → List Nat} {n nf nc lw tp f len : Nat} {kd se : Nat → Nat} {σ0 : jr_Sg} {much : Int32} (h : iv T n nf nc kd se lw tp σ0) (hf : f < nf) (hlen : len ≤ 40) (hC : jr_eqx iv_CX σ0 σ) (h1 : ∀ σ' : jr_Sg, jr_eqx iv_CX σ0 σ' → pr_rf kd se σ0 f ≤ (sm_R T lw nf nc kd se (md_c σ0 f 0 much) f len).1 → k (.int 1) σ') (h0 : ∀ σ' : jr_Sg, jr_eqx iv_CX σ0 σ' → ¬ pr_rf kd se σ0 f ≤ (sm_R T lw nf nc kd se (md_c σ0 f 0 much) f len).1 → k (.int 0) σ') : jr_M G (d + 6) mi_X9_isRedAsked [.ref 0, .int (nI f), .int much, .int (nI len)] σ (jr_k k) := by
  have h5 : nf ≤ 5 := h.2.2.1.2.1.2.1
  refine jr_enter (L := [some (.ref 0), some (.int (nI f)), some (.int much), some (.int (nI len))]) (by decide) (Nat.le_of_ble_eq_true rfl) rfl ?_
  refine jr_aload_n 0 1 dX9_isRedAsked_0 rfl rfl rfl ?_
  refine jr_iload_n 1 2 dX9_isRedAsked_1 rfl rfl rfl ?_
  refine jr_iload_n 1 3 dX9_isRedAsked_2 rfl rfl rfl ?_
  refine jr_iconst (0) 4 dX9_isRedAsked_3 rfl rfl ?_
  refine jr_iload_n 2 5 dX9_isRedAsked_4 rfl rfl rfl ?_
  refine jr_iload_n 3 6 dX9_isRedAsked_5 rfl rfl rfl ?_
  refine cs_X9_270 9 dX9_isRedAsked_6 rfl rfl rfl (Nat.le_of_ble_eq_true rfl) (wp_playCaused (len := len) (y := f) (by omega) hlen h hf hC (fun σ1 g1 g2 => ?_))
  refine jr_aload_n 0 10 dX9_isRedAsked_9 rfl rfl rfl ?_
  refine gf_X9_37 13 dX9_isRedAsked_10 rfl rfl rfl rfl ?_
  refine jr_iload_n 3 14 dX9_isRedAsked_13 rfl rfl rfl ?_
  refine jr_iload_n 1 15 dX9_isRedAsked_14 rfl rfl rfl ?_
  refine cs_X9_196 18 dX9_isRedAsked_15 rfl rfl rfl (Nat.le_of_ble_eq_true rfl) (wp_isRedBehind (t := len) (f := f) hlen (by omega) (fun qr => ?_) (fun qr => ?_))
  · refine jr_ireturn dX9_isRedAsked_18 rfl rfl ?_
    exact h1 σ1 g1 (by rw [← g2.1, show (sm_R T lw nf nc kd se (md_c σ0 f 0 much) f len).1 = σ1 12 (5 * len + f) from (g2.2 len (Nat.le_refl _)).1.symm]; exact qr)
  · refine jr_ireturn dX9_isRedAsked_18 rfl rfl ?_
    exact h0 σ1 g1 (by rw [← g2.1, show (sm_R T lw nf nc kd se (md_c σ0 f 0 much) f len).1 = σ1 12 (5 * len + f) from (g2.2 len (Nat.le_refl _)).1.symm]; exact qr)
theorem wp_rRedAsked {G : jr_G} {d : Nat} {σ : jr_Sg} {k : Value → jr_Sg → Prop} {T : Nat → Nat → List Nat} {n lw nf nc f len : Nat} {kd se : Nat → Nat} {much : Int32} (hr : rr_ok T n nf nc kd se lw σ) (hf : f < nf) (hlen : len ≤ 40) (e70 : σ 70 f = 0) (e45 : σ 46 45 = 0) (h1 : ∀ σ' : jr_Sg, jr_eqx iv_RX σ σ' → pr_rf kd se σ f ≤ (sm_R T lw nf nc kd se (md_c σ f 0 much) f len).1 → k (.int 1) σ') (h0 : ∀ σ' : jr_Sg, jr_eqx iv_RX σ σ' → ¬ pr_rf kd se σ f ≤ (sm_R T lw nf nc kd se (md_c σ f 0 much) f len).1 → k (.int 0) σ') : jr_M G (d + 6) mi_X10_isRedAsked [.ref 46, .int (nI f), .int much, .int (nI len)] σ (jr_k k) := by
  have h5 : nf ≤ 5 := hr.1.2.1
  have r2 : rr_ok T n nf nc kd se lw (jr_up σ 70 f much) := rr_x hr (jr_eqx_up (X := [70]) _ _ _ (by decide)) (by decide)
  refine jr_enter (L := [some (.ref 46), some (.int (nI f)), some (.int much), some (.int (nI len))]) (by decide) (Nat.le_of_ble_eq_true rfl) rfl ?_
  refine jr_aload_n 0 1 dX10_isRedAsked_0 rfl rfl rfl ?_
  refine gf_X10_89 4 dX10_isRedAsked_1 rfl rfl rfl rfl ?_
  refine jr_iload_n 1 5 dX10_isRedAsked_4 rfl rfl rfl ?_
  refine jr_iload_n 2 6 dX10_isRedAsked_5 rfl rfl rfl ?_
  refine jr_iast rfl rfl (by omega) 7 dX10_isRedAsked_6 rfl ?_
  refine jr_aload_n 0 8 dX10_isRedAsked_7 rfl rfl rfl ?_
  refine jr_iload_n 3 9 dX10_isRedAsked_8 rfl rfl rfl ?_
  refine cs_X10_253 12 dX10_isRedAsked_9 rfl rfl rfl (Nat.le_of_ble_eq_true rfl) (wp_rruns (len := len) r2 hlen (fun σ1 g1 g2 => ?_))
  refine jr_aload_n 0 13 dX10_isRedAsked_12 rfl rfl rfl ?_
  refine gf_X10_89 16 dX10_isRedAsked_13 rfl rfl rfl rfl ?_
  refine jr_iload_n 1 17 dX10_isRedAsked_16 rfl rfl rfl ?_
  refine jr_iconst (0) 18 dX10_isRedAsked_17 rfl rfl ?_
  refine jr_iast rfl rfl (by omega) 19 dX10_isRedAsked_18 rfl ?_
  have gz : jr_eqx iv_RX σ (jr_up σ1 70 f 0) := fun a ha => by
    by_cases e7 : a = 70
    · subst e7
      show upd (σ1 70) f 0 = _
      rw [g1 70 (by decide)]
      exact up_zero e70
    · have q1 : jr_up σ1 70 f 0 a = σ1 a := by unfold jr_up; rw [if_neg e7]
      rw [q1, g1 a ha]
      unfold jr_up
      rw [if_neg e7]
  have ew : (jr_up σ1 70 f 0) 65 f = (sm_R T lw nf nc kd se (md_c σ f 0 much) f len).1 := (g2 f hf).1.trans (by rw [sm_R_ag (ag_c0 e45)])
  have ef : pu_redf (kd f) ((jr_up σ1 70 f 0) 49 f) ((jr_up σ1 70 f 0) 47 (se f)) = pr_rf kd se σ f := pr_rf_rx gz
  refine jr_aload_n 0 20 dX10_isRedAsked_19 rfl rfl rfl ?_
  refine jr_iload_n 1 21 dX10_isRedAsked_20 rfl rfl rfl ?_
  refine cs_X10_250 24 dX10_isRedAsked_21 rfl rfl rfl (Nat.le_of_ble_eq_true rfl) (wp_isRedNow (f := f) (rr_rx hr gz).1 hf (fun qr => ?_) (fun qr => ?_))
  · refine jr_ireturn dX10_isRedAsked_24 rfl rfl ?_
    exact h1 _ gz (by rw [← ew, ← ef]; exact qr)
  · refine jr_ireturn dX10_isRedAsked_24 rfl rfl ?_
    exact h0 _ gz (by rw [← ew, ← ef]; exact qr)
theorem pp_sets {G : jr_G} {d : Nat} {σ : jr_Sg} {f c : Int32} (h : IV σ) : jr_pair G (d + 20) mi_X9_sets mi_X10_sets [.int f, .int c] σ := by
  obtain ⟨T, n, nf, nc, kd, se, lw, tp, h⟩ := h
  have hh := h
  obtain ⟨hTC, hTR, ⟨hsc, hsr, hl1, hl2, hlw, hfc, hli, hca⟩, htp, himg, hsh, hrest, hwd⟩ := hh
  have hnf := hsc.1
  have h5 := hsc.2.1
  have hnc := hsc.2.2.1
  have h8 := hsc.2.2.2.1
  have rnf := hsr.1
  have rnc := hsr.2.2.1
  have hlm := hrest.2.2.2.1
  unfold jr_pair
  rcases jr_fc f h5 with hf | ⟨j, hj, rfl⟩
  · refine jr_enter (L := [some (.ref 0), some (.int f), some (.int c), none]) (by decide) (Nat.le_of_ble_eq_true rfl) rfl ?_
    refine jr_aload_n 0 1 dX9_sets_0 rfl rfl rfl ?_
    refine gf_X9_44 4 dX9_sets_1 rfl rfl rfl rfl ?_
    refine jr_iload_n 1 5 dX9_sets_4 rfl rfl rfl ?_
    refine cs_X9_146 8 dX9_sets_5 rfl rfl rfl (Nat.le_of_ble_eq_true rfl) (wp_has_15 hnf h5 (fun j hj e => absurd hf (by rw [e]; exact jr_fcn hj (by omega))) (fun _ => ?_))
    refine jr_if_ne 14 11 dX9_sets_8 rfl rfl (fun q => absurd (by decide) q) (fun q8 => ?_)
    refine jr_bipush ((-5)) 13 dX9_sets_11 rfl rfl ?_
    refine jr_ireturn dX9_sets_13 rfl rfl ?_
    refine jr_enter (L := [some (.ref 46), some (.int f), some (.int c), none, none]) (by decide) (Nat.le_of_ble_eq_true rfl) rfl ?_
    refine jr_aload_n 0 1 dX10_sets_0 rfl rfl rfl ?_
    refine jr_iload_n 1 2 dX10_sets_1 rfl rfl rfl ?_
    refine cs_X10_204 5 dX10_sets_2 rfl rfl rfl (Nat.le_of_ble_eq_true rfl) (wp_isFace rnf h5 (fun j hj e => absurd hf (by rw [e]; exact jr_fcn hj (by omega))) (fun _ => ?_))
    refine jr_if_ne 11 8 dX10_sets_5 rfl rfl (fun q => absurd (by decide) q) (fun q5 => ?_)
    refine jr_bipush ((-5)) 10 dX10_sets_8 rfl rfl ?_
    refine jr_ireturn dX10_sets_10 rfl rfl ?_
    exact ⟨rfl, IV_mov (iv_same_x (jr_eqx_rf [] _) (by decide)) h⟩
  · rcases jr_rg c (m := 400) (by decide) with qc2 | ⟨c2, hc2, rfl⟩
    · refine jr_enter (L := [some (.ref 0), some (.int (nI j)), some (.int c), none]) (by decide) (Nat.le_of_ble_eq_true rfl) rfl ?_
      refine jr_aload_n 0 1 dX9_sets_0 rfl rfl rfl ?_
      refine gf_X9_44 4 dX9_sets_1 rfl rfl rfl rfl ?_
      refine jr_iload_n 1 5 dX9_sets_4 rfl rfl rfl ?_
      refine cs_X9_146 8 dX9_sets_5 rfl rfl rfl (Nat.le_of_ble_eq_true rfl) (wp_hasT_15 hnf h5 hj ?_)
      refine jr_if_ne 14 11 dX9_sets_8 rfl rfl (fun q8 => ?_) (fun q => absurd q (by decide))
      refine jr_iload_n 2 15 dX9_sets_14 rfl rfl rfl ?_
      refine jr_sipush (400) 18 dX9_sets_15 rfl rfl ?_
      refine cs_X9_104 21 dX9_sets_18 rfl rfl (Nat.le_of_ble_eq_true rfl) (wp_wiF qc2 ?_)
      refine jr_if_ne 27 24 dX9_sets_21 rfl rfl (fun q => absurd (by decide) q) (fun q21 => ?_)
      refine jr_bipush ((-7)) 26 dX9_sets_24 rfl rfl ?_
      refine jr_ireturn dX9_sets_26 rfl rfl ?_
      refine jr_enter (L := [some (.ref 46), some (.int (nI j)), some (.int c), none, none]) (by decide) (Nat.le_of_ble_eq_true rfl) rfl ?_
      refine jr_aload_n 0 1 dX10_sets_0 rfl rfl rfl ?_
      refine jr_iload_n 1 2 dX10_sets_1 rfl rfl rfl ?_
      refine cs_X10_204 5 dX10_sets_2 rfl rfl rfl (Nat.le_of_ble_eq_true rfl) (wp_isFace rnf h5 (fun _ _ _ => ?_) (fun q => absurd q (jr_fcn hj (by omega))))
      refine jr_if_ne 11 8 dX10_sets_5 rfl rfl (fun q5 => ?_) (fun q => absurd q (by decide))
      refine jr_iload_n 2 12 dX10_sets_11 rfl rfl rfl ?_
      refine cs_X10_191 15 dX10_sets_12 rfl rfl (Nat.le_of_ble_eq_true rfl) (wp_risMuch (fun a b => absurd ⟨a, b⟩ qc2) (fun _ => ?_))
      refine jr_if_ne 21 18 dX10_sets_15 rfl rfl (fun q => absurd (by decide) q) (fun q15 => ?_)
      refine jr_bipush ((-7)) 20 dX10_sets_18 rfl rfl ?_
      refine jr_ireturn dX10_sets_20 rfl rfl ?_
      exact ⟨rfl, IV_mov (iv_same_x (jr_eqx_rf [] _) (by decide)) h⟩
    · refine jr_enter (L := [some (.ref 0), some (.int (nI j)), some (.int (nI c2)), none]) (by decide) (Nat.le_of_ble_eq_true rfl) rfl ?_
      refine jr_aload_n 0 1 dX9_sets_0 rfl rfl rfl ?_
      refine gf_X9_44 4 dX9_sets_1 rfl rfl rfl rfl ?_
      refine jr_iload_n 1 5 dX9_sets_4 rfl rfl rfl ?_
      refine cs_X9_146 8 dX9_sets_5 rfl rfl rfl (Nat.le_of_ble_eq_true rfl) (wp_hasT_15 hnf h5 hj ?_)
      refine jr_if_ne 14 11 dX9_sets_8 rfl rfl (fun q8 => ?_) (fun q => absurd q (by decide))
      refine jr_iload_n 2 15 dX9_sets_14 rfl rfl rfl ?_
      refine jr_sipush (400) 18 dX9_sets_15 rfl rfl ?_
      refine cs_X9_104 21 dX9_sets_18 rfl rfl (Nat.le_of_ble_eq_true rfl) (wp_wiT hc2 (by decide) rfl ?_)
      refine jr_if_ne 27 24 dX9_sets_21 rfl rfl (fun q21 => ?_) (fun q => absurd q (by decide))
      refine jr_aload_n 0 28 dX9_sets_27 rfl rfl rfl ?_
      refine jr_bipush (40) 30 dX9_sets_28 rfl rfl ?_
      refine cs_X9_205 33 dX9_sets_30 rfl rfl rfl (Nat.le_of_ble_eq_true rfl) (wp_playAllNow (len := 40) h (by omega) (jr_eqx_rf _ _) (fun σ1 g1 g6 g2 => ?_))
      refine jr_aload_n 0 34 dX9_sets_33 rfl rfl rfl ?_
      refine gf_X9_37 37 dX9_sets_34 rfl rfl rfl rfl ?_
      refine cs_X9_265 40 dX9_sets_37 rfl rfl rfl (Nat.le_of_ble_eq_true rfl) (wp_everRedBits (nf := nf) g6 h5 ?_)
      refine jr_topi (y := (er T lw nf nc kd se σ)) (er_eq g2) ?_
      refine jr_istore_n 3 (L' := [_, _, _, _]) 41 dX9_sets_40 rfl rfl (by decide) rfl ?_
      refine jr_aload_n 0 42 dX9_sets_41 rfl rfl rfl ?_
      refine gf_X9_28 45 dX9_sets_42 rfl rfl rfl rfl ?_
      refine cs_X9_249 48 dX9_sets_45 rfl rfl rfl (Nat.le_of_ble_eq_true rfl) (wp_clear ?_)
      refine jr_aload_n 0 49 dX9_sets_48 rfl rfl rfl ?_
      refine gf_X9_28 52 dX9_sets_49 rfl rfl rfl rfl ?_
      refine jr_iload_n 1 53 dX9_sets_52 rfl rfl rfl ?_
      refine jr_iconst (0) 54 dX9_sets_53 rfl rfl ?_
      refine jr_iload_n 2 55 dX9_sets_54 rfl rfl rfl ?_
      refine cs_X9_268 58 dX9_sets_55 rfl rfl rfl (Nat.le_of_ble_eq_true rfl) (wp_addCause ?_)
      refine jr_aload_n 0 59 dX9_sets_58 rfl rfl rfl ?_
      refine gf_X9_37 62 dX9_sets_59 rfl rfl rfl rfl ?_
      refine jr_aload_n 0 63 dX9_sets_62 rfl rfl rfl ?_
      refine gf_X9_44 66 dX9_sets_63 rfl rfl rfl rfl ?_
      refine jr_bipush (40) 68 dX9_sets_66 rfl rfl ?_
      refine cs_X9_255 71 dX9_sets_68 rfl rfl rfl (Nat.le_of_ble_eq_true rfl) (cplay_all (len := 40) (σR := (md_c σ j 0 (nI c2))) h (by omega) (jr_eqx_tr g1 (by repeat (first | exact jr_eqx_rf _ _ | refine jr_eqx_tr ?_ (jr_eqx_up _ _ _ (by decide))))) (fun f hf => par_now h hf (jr_eqx_tr g1 (by repeat (first | exact jr_eqx_rf _ _ | refine jr_eqx_tr ?_ (jr_eqx_up _ _ _ (by decide))))) rfl rfl rfl rfl (fun x hx => ⟨fun e => (jr_m1 (by omega) (Eq.symm e.1)).elim, fun e => (jr_m1 (by omega) (Eq.symm (e.1.trans hrest.2.1))).elim⟩) (fun w t n => ⟨fun e => (do_none (by omega) rfl e).elim, fun e => (do_none (by omega) hrest.1 e).elim⟩) (fun t ht => by
          show pu_if (nI f = nI j ∧ nI t = 0) (nI c2) 0 = pu_if (nI t = 0) (upd (σ 70) j (nI c2) f) 0
          by_cases e : nI t = 0
          · rw [pu_if_t e]
            by_cases e2 : f = j
            · subst e2
              rw [pu_if_t ⟨rfl, e⟩, pk_us]
            · rw [pu_if_f (fun q => e2 (nI_inj (by omega) (by omega) q.1)), pk_un e2, (hrest.2.2.2.2 f (by omega)).1]
          · rw [pu_if_f e, pu_if_f (fun q => e q.2)]) (fun t ht => Eq.trans (pu_z rfl) (Eq.symm (pu_if_f (fun e => jr_m1 (by omega) ((hrest.2.2.2.2 f (by omega)).2.symm.trans e)))))) (fun σ3 g3 g7 g4 => ?_))
      refine jr_aload_n 0 72 dX9_sets_71 rfl rfl rfl ?_
      refine gf_X9_37 75 dX9_sets_72 rfl rfl rfl rfl ?_
      refine cs_X9_265 78 dX9_sets_75 rfl rfl rfl (Nat.le_of_ble_eq_true rfl) (wp_everRedBits (nf := nf) g7 h5 ?_)
      refine jr_topi (y := (er T lw nf nc kd se (md_c σ j 0 (nI c2)))) (er_eq g4) ?_
      refine jr_iload_n 3 79 dX9_sets_78 rfl rfl rfl ?_
      refine jr_iconst ((-1)) 80 dX9_sets_79 rfl rfl ?_
      refine jr_ixor 81 dX9_sets_80 rfl ?_
      refine jr_iand 82 dX9_sets_81 rfl ?_
      refine jr_iconst (1) 83 dX9_sets_82 rfl rfl ?_
      refine jr_iload_n 1 84 dX9_sets_83 rfl rfl rfl ?_
      refine jr_ishl 85 dX9_sets_84 rfl ?_
      refine jr_iconst ((-1)) 86 dX9_sets_85 rfl rfl ?_
      refine jr_ixor 87 dX9_sets_86 rfl ?_
      refine jr_iand 88 dX9_sets_87 rfl ?_
      refine jr_ireturn dX9_sets_88 rfl rfl ?_
      refine jr_enter (L := [some (.ref 46), some (.int (nI j)), some (.int (nI c2)), none, none]) (by decide) (Nat.le_of_ble_eq_true rfl) rfl ?_
      have h1 := iv_mov (iv_cx g3) h
      have r1 := rr_of h1
      refine jr_aload_n 0 1 dX10_sets_0 rfl rfl rfl ?_
      refine jr_iload_n 1 2 dX10_sets_1 rfl rfl rfl ?_
      refine cs_X10_204 5 dX10_sets_2 rfl rfl rfl (Nat.le_of_ble_eq_true rfl) (wp_isFace r1.1.1 h5 (fun _ _ _ => ?_) (fun q => absurd q (jr_fcn hj (by omega))))
      refine jr_if_ne 11 8 dX10_sets_5 rfl rfl (fun q5 => ?_) (fun q => absurd q (by decide))
      refine jr_iload_n 2 12 dX10_sets_11 rfl rfl rfl ?_
      refine cs_X10_191 15 dX10_sets_12 rfl rfl (Nat.le_of_ble_eq_true rfl) (wp_risMuch (fun _ _ => ?_) (fun q => absurd ⟨nI_pos' (by omega), nI_le (b := 400) hc2 (by omega)⟩ q))
      refine jr_if_ne 21 18 dX10_sets_15 rfl rfl (fun q15 => ?_) (fun q => absurd q (by decide))
      refine jr_aload_n 0 22 dX10_sets_21 rfl rfl rfl ?_
      refine cs_X10_307 25 dX10_sets_22 rfl rfl rfl (Nat.le_of_ble_eq_true rfl) (wp_everRed r1 (fun σ4 g8 => ?_))
      refine jr_topi (y := (er T lw nf nc kd se σ)) (er_x g3 (by decide)) ?_
      refine jr_istore_n 3 (L' := [_, _, _, _, _]) 26 dX10_sets_25 rfl rfl (by decide) rfl ?_
      have r2 : rr_ok T n nf nc kd se lw (jr_up σ4 70 j (nI c2)) := rr_x (rr_rx r1 g8) (jr_eqx_up (X := [70]) _ _ _ (by decide)) (by decide)
      refine jr_aload_n 0 27 dX10_sets_26 rfl rfl rfl ?_
      refine gf_X10_89 30 dX10_sets_27 rfl rfl rfl rfl ?_
      refine jr_iload_n 1 31 dX10_sets_30 rfl rfl rfl ?_
      refine jr_iload_n 2 32 dX10_sets_31 rfl rfl rfl ?_
      refine jr_iast rfl rfl (by omega) 33 dX10_sets_32 rfl ?_
      refine jr_aload_n 0 34 dX10_sets_33 rfl rfl rfl ?_
      refine cs_X10_307 37 dX10_sets_34 rfl rfl rfl (Nat.le_of_ble_eq_true rfl) (wp_everRed r2 (fun σ5 g9 => ?_))
      refine jr_topi (y := (er T lw nf nc kd se (md_c σ j 0 (nI c2)))) ((er_x (jr_eqx_upb g8 (by decide)) (by decide)).trans ((er_x (jr_eqx_upb g3 (by decide)) (by decide)).trans (er_c0 hrest.2.2.1))) ?_
      refine jr_istore (L' := [_, _, _, _, _]) 39 dX10_sets_37 rfl (by decide) rfl ?_
      refine jr_aload_n 0 40 dX10_sets_39 rfl rfl rfl ?_
      refine gf_X10_89 43 dX10_sets_40 rfl rfl rfl rfl ?_
      refine jr_iload_n 1 44 dX10_sets_43 rfl rfl rfl ?_
      refine jr_iconst (0) 45 dX10_sets_44 rfl rfl ?_
      refine jr_iast rfl rfl (by omega) 46 dX10_sets_45 rfl ?_
      refine jr_iload 48 dX10_sets_46 rfl rfl ?_
      refine jr_iload_n 3 49 dX10_sets_48 rfl rfl rfl ?_
      refine jr_iconst ((-1)) 50 dX10_sets_49 rfl rfl ?_
      refine jr_ixor 51 dX10_sets_50 rfl ?_
      refine jr_iand 52 dX10_sets_51 rfl ?_
      refine jr_iconst (1) 53 dX10_sets_52 rfl rfl ?_
      refine jr_iload_n 1 54 dX10_sets_53 rfl rfl rfl ?_
      refine jr_ishl 55 dX10_sets_54 rfl ?_
      refine jr_iconst ((-1)) 56 dX10_sets_55 rfl rfl ?_
      refine jr_ixor 57 dX10_sets_56 rfl ?_
      refine jr_iand 58 dX10_sets_57 rfl ?_
      refine jr_ireturn dX10_sets_58 rfl rfl ?_
      refine ⟨rfl, IV_mov (iv_same_tr (iv_cx g3) ⟨fun a ha => ?_, fun k hk => ?_⟩) h⟩
      · have hx : a ∉ iv_RX := by revert a; decide
        by_cases e7 : a = 70
        · subst e7
          show upd (σ5 70) j 0 = _
          rw [g9 70 (by decide), show jr_up σ4 70 j (nI c2) 70 = upd (σ4 70) j (nI c2) from rfl, g8 70 (by decide)]
          exact up_zero (h1.2.2.2.2.2.2.1.2.2.2.2 j (by omega)).1
        · have q1 : jr_up σ5 70 j 0 a = σ5 a := by unfold jr_up; rw [if_neg e7]
          have q2 : jr_up σ4 70 j (nI c2) a = σ4 a := by unfold jr_up; rw [if_neg e7]
          rw [q1, g9 a hx, q2]
          exact g8 a hx
      · show σ5 46 k = _
        rw [g9 46 (by decide)]
        show σ4 46 k = _
        rw [g8 46 (by decide)]
/-- bits of the P -/
noncomputable def bp (P : Nat → Prop) (n : Nat) : Int32 := lp (fun f a => a ||| pu_if (P f) ((1 : Int32) <<< (nI f &&& 31)) 0) 0 n
theorem bp_t {P : Nat → Prop} {i : Nat} {x : Int32} (e : x = bp P i) (h : P i) : x ||| (1 : Int32) <<< (nI i &&& 31) = bp P (i + 1) := by
  unfold bp at e ⊢
  rw [lp, ← e, pu_if_t h]
theorem bp_f {P : Nat → Prop} {i : Nat} {x : Int32} (e : x = bp P i) (h : ¬ P i) : x ||| 0 = bp P (i + 1) := by
  unfold bp at e ⊢
  rw [lp, ← e, pu_if_f h]
theorem bp_s {P : Nat → Prop} {i : Nat} {x : Int32} (e : x = bp P i) (h : ¬ P i) : x = bp P (i + 1) := by
  rw [← bp_f e h, Int32.or_zero]
theorem asked_x {G : jr_G} {d : Nat} {σ : jr_Sg} {k : Value → jr_Sg → Prop} {T : Nat → Nat → List Nat} {n nf nc lw tp len : Nat} {kd se : Nat → Nat} {much : Int32} (h : iv T n nf nc kd se lw tp σ) (hlen : len ≤ 40) (fin : ∀ σ1 : jr_Sg, jr_eqx iv_CX σ σ1 → k (.int (bp (fun f => pr_rf kd se σ f ≤ (sm_R T lw nf nc kd se (md_c σ f 0 much) f len).1) nf)) σ1) : ∀ (m i : Nat) (x : Int32) (σ1 : jr_Sg), i + m = nf → x = bp (fun f => pr_rf kd se σ f ≤ (sm_R T lw nf nc kd se (md_c σ f 0 much) f len).1) i → jr_eqx iv_CX σ σ1 → jr_R G (d + 19) mi_X9_asked (jr_k k) 27 [some (.ref 0), some (.int much), some (.int (nI len)), some (.int x), some (.int (nI i))] [] σ1 := by
  have h5 : nf ≤ 5 := h.2.2.1.2.1.2.1
  intro m
  induction m with
  | zero =>
    intro i x σ1 hi e g
    have ei : i = nf := hi
    subst ei
    have hnf1 : σ1 15 8 = nI i := by rw [g 15 (by decide)]; exact h.2.2.1.1.1
    refine jr_iload 29 dX9_asked_27 rfl rfl ?_
    refine jr_aload_n 0 30 dX9_asked_29 rfl rfl rfl ?_
    refine gf_X9_44 33 dX9_asked_30 rfl rfl rfl rfl ?_
    refine gf_X9_84 36 dX9_asked_33 rfl rfl rfl rfl ?_
    rw [hnf1]
    refine jr_icmp_ge 63 39 dX9_asked_36 rfl rfl (fun q36 => ?_) (fun q => absurd (Int32.le_refl _) q)
    refine jr_iload_n 3 64 dX9_asked_63 rfl rfl rfl ?_
    refine jr_ireturn dX9_asked_64 rfl rfl ?_
    rw [e]
    exact fin σ1 g
  | succ m ih =>
    intro i x σ1 hi e g
    have hnf1 : σ1 15 8 = nI nf := by rw [g 15 (by decide)]; exact h.2.2.1.1.1
    refine jr_iload 29 dX9_asked_27 rfl rfl ?_
    refine jr_aload_n 0 30 dX9_asked_29 rfl rfl rfl ?_
    refine gf_X9_44 33 dX9_asked_30 rfl rfl rfl rfl ?_
    refine gf_X9_84 36 dX9_asked_33 rfl rfl rfl rfl ?_
    rw [hnf1]
    refine jr_icmp_ge 63 39 dX9_asked_36 rfl rfl (fun q => absurd q (nI_ge (by omega) (by omega))) (fun q36 => ?_)
    refine jr_aload_n 0 40 dX9_asked_39 rfl rfl rfl ?_
    refine jr_iload 42 dX9_asked_40 rfl rfl ?_
    refine jr_iload_n 1 43 dX9_asked_42 rfl rfl rfl ?_
    refine jr_iload_n 2 44 dX9_asked_43 rfl rfl rfl ?_
    refine cs_X9_274 47 dX9_asked_44 rfl rfl rfl (Nat.le_of_ble_eq_true rfl) (wp_cRedAsked (f := i) h (by omega) hlen g (fun σ2 g2 qr => ?_) (fun σ2 g2 qr => ?_))
    · refine jr_if_eq 57 50 dX9_asked_47 rfl rfl (fun q => absurd q (by decide)) (fun q47 => ?_)
      refine jr_iload_n 3 51 dX9_asked_50 rfl rfl rfl ?_
      refine jr_iconst (1) 52 dX9_asked_51 rfl rfl ?_
      refine jr_iload 54 dX9_asked_52 rfl rfl ?_
      refine jr_ishl 55 dX9_asked_54 rfl ?_
      refine jr_ior 56 dX9_asked_55 rfl ?_
      refine jr_istore_n 3 (L' := [_, _, _, _, _]) 57 dX9_asked_56 rfl rfl (by decide) rfl ?_
      refine jr_iinc (v := nI (i + 1)) (L' := [_, _, _, _, _]) 60 dX9_asked_57 rfl rfl (nI_1 i) (by decide) rfl ?_
      refine jr_goto 27 dX9_asked_60 rfl ?_
      exact ih (i + 1) _ σ2 (by omega) (bp_t (P := (fun f => pr_rf kd se σ f ≤ (sm_R T lw nf nc kd se (md_c σ f 0 much) f len).1)) e qr) g2
    · refine jr_if_eq 57 50 dX9_asked_47 rfl rfl (fun q47 => ?_) (fun q => absurd (by decide) q)
      refine jr_iinc (v := nI (i + 1)) (L' := [_, _, _, _, _]) 60 dX9_asked_57 rfl rfl (nI_1 i) (by decide) rfl ?_
      refine jr_goto 27 dX9_asked_60 rfl ?_
      exact ih (i + 1) _ σ2 (by omega) (bp_s (P := (fun f => pr_rf kd se σ f ≤ (sm_R T lw nf nc kd se (md_c σ f 0 much) f len).1)) e qr) g2
theorem asked_r {G : jr_G} {d : Nat} {σ : jr_Sg} {k : Value → jr_Sg → Prop} {T : Nat → Nat → List Nat} {n nf nc lw tp len : Nat} {kd se : Nat → Nat} {much : Int32} (h : iv T n nf nc kd se lw tp σ) (hlen : len ≤ 40) {σ1 : jr_Sg} (g1 : jr_eqx iv_CX σ σ1) (fin : ∀ σ2 : jr_Sg, jr_eqx iv_RX σ1 σ2 → k (.int (bp (fun f => pr_rf kd se σ f ≤ (sm_R T lw nf nc kd se (md_c σ f 0 much) f len).1) nf)) σ2) : ∀ (m i : Nat) (x : Int32) (σ2 : jr_Sg), i + m = nf → x = bp (fun f => pr_rf kd se σ f ≤ (sm_R T lw nf nc kd se (md_c σ f 0 much) f len).1) i → jr_eqx iv_RX σ1 σ2 → jr_R G (d + 20) mi_X10_asked (jr_k k) 25 [some (.ref 46), some (.int much), some (.int (nI len)), some (.int x), some (.int (nI i))] [] σ2 := by
  have h1 := iv_mov (iv_cx g1) h
  have r1 := rr_of h1
  have h5 : nf ≤ 5 := r1.1.2.1
  intro m
  induction m with
  | zero =>
    intro i x σ2 hi e g
    have ei : i = nf := hi
    subst ei
    have hnf1 : σ2 46 1 = nI i := by rw [g 46 (by decide)]; exact r1.1.1
    refine jr_iload 27 dX10_asked_25 rfl rfl ?_
    refine jr_aload_n 0 28 dX10_asked_27 rfl rfl rfl ?_
    refine gf_X10_105 31 dX10_asked_28 rfl rfl rfl rfl ?_
    rw [hnf1]
    refine jr_icmp_ge 62 34 dX10_asked_31 rfl rfl (fun q31 => ?_) (fun q => absurd (Int32.le_refl _) q)
    refine jr_iload_n 3 63 dX10_asked_62 rfl rfl rfl ?_
    refine jr_ireturn dX10_asked_63 rfl rfl ?_
    rw [e]
    exact fin σ2 g
  | succ m ih =>
    intro i x σ2 hi e g
    have hnf1 : σ2 46 1 = nI nf := by rw [g 46 (by decide)]; exact r1.1.1
    have e70 : σ2 70 i = 0 := by rw [g 70 (by decide)]; exact (h1.2.2.2.2.2.2.1.2.2.2.2 i (by omega)).1
    have e45 : σ2 46 45 = 0 := by rw [g 46 (by decide)]; exact h1.2.2.2.2.2.2.1.2.2.1
    have ep : (pr_rf kd se σ2 i ≤ (sm_R T lw nf nc kd se (md_c σ2 i 0 much) i len).1) = (pr_rf kd se σ i ≤ (sm_R T lw nf nc kd se (md_c σ i 0 much) i len).1) := by
      rw [pr_rf_rx g, pr_rf_of g1, sm_R_x (show jr_eqx iv_RX (md_c σ1 i 0 much) (md_c σ2 i 0 much) from jr_eqx_upb (jr_eqx_upb g (by decide)) (by decide)) (by decide), sm_R_of (cx_c g1 _ _ _)]
    refine jr_iload 27 dX10_asked_25 rfl rfl ?_
    refine jr_aload_n 0 28 dX10_asked_27 rfl rfl rfl ?_
    refine gf_X10_105 31 dX10_asked_28 rfl rfl rfl rfl ?_
    rw [hnf1]
    refine jr_icmp_ge 62 34 dX10_asked_31 rfl rfl (fun q => absurd q (nI_ge (by omega) (by omega))) (fun q31 => ?_)
    refine jr_iload_n 3 35 dX10_asked_34 rfl rfl rfl ?_
    refine jr_aload_n 0 36 dX10_asked_35 rfl rfl rfl ?_
    refine jr_iload 38 dX10_asked_36 rfl rfl ?_
    refine jr_iload_n 1 39 dX10_asked_38 rfl rfl rfl ?_
    refine jr_iload_n 2 40 dX10_asked_39 rfl rfl rfl ?_
    refine cs_X10_310 43 dX10_asked_40 rfl rfl rfl (Nat.le_of_ble_eq_true rfl) (wp_rRedAsked (f := i) (rr_rx r1 g) (by omega) hlen e70 e45 (fun σ3 g3 qr => ?_) (fun σ3 g3 qr => ?_))
    · refine jr_if_eq 53 46 dX10_asked_43 rfl rfl (fun q => absurd q (by decide)) (fun q43 => ?_)
      refine jr_iconst (1) 47 dX10_asked_46 rfl rfl ?_
      refine jr_iload 49 dX10_asked_47 rfl rfl ?_
      refine jr_ishl 50 dX10_asked_49 rfl ?_
      refine jr_goto 54 dX10_asked_50 rfl ?_
      refine jr_ior 55 dX10_asked_54 rfl ?_
      refine jr_istore_n 3 (L' := [_, _, _, _, _]) 56 dX10_asked_55 rfl rfl (by decide) rfl ?_
      refine jr_iinc (v := nI (i + 1)) (L' := [_, _, _, _, _]) 59 dX10_asked_56 rfl rfl (nI_1 i) (by decide) rfl ?_
      refine jr_goto 25 dX10_asked_59 rfl ?_
      exact ih (i + 1) _ σ3 (by omega) (bp_t (P := (fun f => pr_rf kd se σ f ≤ (sm_R T lw nf nc kd se (md_c σ f 0 much) f len).1)) e (ep ▸ qr)) (jr_eqx_tr g g3)
    · refine jr_if_eq 53 46 dX10_asked_43 rfl rfl (fun q43 => ?_) (fun q => absurd (by decide) q)
      refine jr_iconst (0) 54 dX10_asked_53 rfl rfl ?_
      refine jr_ior 55 dX10_asked_54 rfl ?_
      refine jr_istore_n 3 (L' := [_, _, _, _, _]) 56 dX10_asked_55 rfl rfl (by decide) rfl ?_
      refine jr_iinc (v := nI (i + 1)) (L' := [_, _, _, _, _]) 59 dX10_asked_56 rfl rfl (nI_1 i) (by decide) rfl ?_
      refine jr_goto 25 dX10_asked_59 rfl ?_
      exact ih (i + 1) _ σ3 (by omega) (bp_f (P := (fun f => pr_rf kd se σ f ≤ (sm_R T lw nf nc kd se (md_c σ f 0 much) f len).1)) e (ep ▸ qr)) (jr_eqx_tr g g3)
theorem pp_asked {G : jr_G} {d : Nat} {σ : jr_Sg} {a c : Int32} (h : IV σ) : jr_pair G (d + 20) mi_X9_asked mi_X10_asked [.int a, .int c] σ := by
  obtain ⟨T, n, nf, nc, kd, se, lw, tp, h⟩ := h
  have hh := h
  obtain ⟨hTC, hTR, ⟨hsc, hsr, hl1, hl2, hlw, hfc, hli, hca⟩, htp, himg, hsh, hrest, hwd⟩ := hh
  have hnf := hsc.1
  have h5 := hsc.2.1
  have hnc := hsc.2.2.1
  have h8 := hsc.2.2.2.1
  have rnf := hsr.1
  have rnc := hsr.2.2.1
  have hlm := hrest.2.2.2.1
  unfold jr_pair
  rcases jr_rg a (m := 400) (by decide) with qa2 | ⟨a2, ha2, rfl⟩
  · refine jr_enter (L := [some (.ref 0), some (.int a), some (.int c), none, none]) (by decide) (Nat.le_of_ble_eq_true rfl) rfl ?_
    refine jr_iload_n 1 1 dX9_asked_0 rfl rfl rfl ?_
    refine jr_sipush (400) 4 dX9_asked_1 rfl rfl ?_
    refine cs_X9_104 7 dX9_asked_4 rfl rfl (Nat.le_of_ble_eq_true rfl) (wp_wiF qa2 ?_)
    refine jr_if_eq 19 10 dX9_asked_7 rfl rfl (fun q7 => ?_) (fun q => absurd (by decide) q)
    refine jr_bipush ((-2)) 21 dX9_asked_19 rfl rfl ?_
    refine jr_ireturn dX9_asked_21 rfl rfl ?_
    refine jr_enter (L := [some (.ref 46), some (.int a), some (.int c), none, none]) (by decide) (Nat.le_of_ble_eq_true rfl) rfl ?_
    refine jr_iload_n 1 1 dX10_asked_0 rfl rfl rfl ?_
    refine cs_X10_191 4 dX10_asked_1 rfl rfl (Nat.le_of_ble_eq_true rfl) (wp_risMuch (fun a b => absurd ⟨a, b⟩ qa2) (fun _ => ?_))
    refine jr_if_eq 17 7 dX10_asked_4 rfl rfl (fun q4 => ?_) (fun q => absurd (by decide) q)
    refine jr_bipush ((-2)) 19 dX10_asked_17 rfl rfl ?_
    refine jr_ireturn dX10_asked_19 rfl rfl ?_
    exact ⟨rfl, IV_mov (iv_same_x (jr_eqx_rf [] _) (by decide)) h⟩
  · rcases jr_rg c (m := 40) (by decide) with qlen | ⟨len, hlen, rfl⟩
    · refine jr_enter (L := [some (.ref 0), some (.int (nI a2)), some (.int c), none, none]) (by decide) (Nat.le_of_ble_eq_true rfl) rfl ?_
      refine jr_iload_n 1 1 dX9_asked_0 rfl rfl rfl ?_
      refine jr_sipush (400) 4 dX9_asked_1 rfl rfl ?_
      refine cs_X9_104 7 dX9_asked_4 rfl rfl (Nat.le_of_ble_eq_true rfl) (wp_wiT ha2 (by decide) rfl ?_)
      refine jr_if_eq 19 10 dX9_asked_7 rfl rfl (fun q => absurd q (by decide)) (fun q7 => ?_)
      refine jr_iload_n 2 11 dX9_asked_10 rfl rfl rfl ?_
      refine jr_bipush (40) 13 dX9_asked_11 rfl rfl ?_
      refine cs_X9_104 16 dX9_asked_13 rfl rfl (Nat.le_of_ble_eq_true rfl) (wp_wiF qlen ?_)
      refine jr_if_ne 22 19 dX9_asked_16 rfl rfl (fun q => absurd (by decide) q) (fun q16 => ?_)
      refine jr_bipush ((-2)) 21 dX9_asked_19 rfl rfl ?_
      refine jr_ireturn dX9_asked_21 rfl rfl ?_
      refine jr_enter (L := [some (.ref 46), some (.int (nI a2)), some (.int c), none, none]) (by decide) (Nat.le_of_ble_eq_true rfl) rfl ?_
      refine jr_iload_n 1 1 dX10_asked_0 rfl rfl rfl ?_
      refine cs_X10_191 4 dX10_asked_1 rfl rfl (Nat.le_of_ble_eq_true rfl) (wp_risMuch (fun _ _ => ?_) (fun q => absurd ⟨nI_pos' (by omega), nI_le (b := 400) ha2 (by omega)⟩ q))
      refine jr_if_eq 17 7 dX10_asked_4 rfl rfl (fun q => absurd q (by decide)) (fun q4 => ?_)
      refine jr_iload_n 2 8 dX10_asked_7 rfl rfl rfl ?_
      refine jr_iconst (0) 9 dX10_asked_8 rfl rfl ?_
      refine jr_bipush (40) 11 dX10_asked_9 rfl rfl ?_
      refine cs_X10_108 14 dX10_asked_11 rfl rfl (Nat.le_of_ble_eq_true rfl) (wp_inF qlen ?_)
      refine jr_if_ne 20 17 dX10_asked_14 rfl rfl (fun q => absurd (by decide) q) (fun q14 => ?_)
      refine jr_bipush ((-2)) 19 dX10_asked_17 rfl rfl ?_
      refine jr_ireturn dX10_asked_19 rfl rfl ?_
      exact ⟨rfl, IV_mov (iv_same_x (jr_eqx_rf [] _) (by decide)) h⟩
    · refine jr_enter (L := [some (.ref 0), some (.int (nI a2)), some (.int (nI len)), none, none]) (by decide) (Nat.le_of_ble_eq_true rfl) rfl ?_
      refine jr_iload_n 1 1 dX9_asked_0 rfl rfl rfl ?_
      refine jr_sipush (400) 4 dX9_asked_1 rfl rfl ?_
      refine cs_X9_104 7 dX9_asked_4 rfl rfl (Nat.le_of_ble_eq_true rfl) (wp_wiT ha2 (by decide) rfl ?_)
      refine jr_if_eq 19 10 dX9_asked_7 rfl rfl (fun q => absurd q (by decide)) (fun q7 => ?_)
      refine jr_iload_n 2 11 dX9_asked_10 rfl rfl rfl ?_
      refine jr_bipush (40) 13 dX9_asked_11 rfl rfl ?_
      refine cs_X9_104 16 dX9_asked_13 rfl rfl (Nat.le_of_ble_eq_true rfl) (wp_wiT hlen (by decide) rfl ?_)
      refine jr_if_ne 22 19 dX9_asked_16 rfl rfl (fun q16 => ?_) (fun q => absurd q (by decide))
      refine jr_iconst (0) 23 dX9_asked_22 rfl rfl ?_
      refine jr_istore_n 3 (L' := [_, _, _, _, _]) 24 dX9_asked_23 rfl rfl (by decide) rfl ?_
      refine jr_iconst (0) 25 dX9_asked_24 rfl rfl ?_
      refine jr_istore (L' := [_, _, _, _, _]) 27 dX9_asked_25 rfl (by decide) rfl ?_
      refine asked_x h hlen (fun σ1 g1 => ?_) nf 0 _ σ (Nat.zero_add _) rfl (jr_eqx_rf _ _)
      have h1 := iv_mov (iv_cx g1) h
      have r1 := rr_of h1
      refine jr_enter (L := [some (.ref 46), some (.int (nI a2)), some (.int (nI len)), none, none]) (by decide) (Nat.le_of_ble_eq_true rfl) rfl ?_
      refine jr_iload_n 1 1 dX10_asked_0 rfl rfl rfl ?_
      refine cs_X10_191 4 dX10_asked_1 rfl rfl (Nat.le_of_ble_eq_true rfl) (wp_risMuch (fun _ _ => ?_) (fun q => absurd ⟨nI_pos' (by omega), nI_le (b := 400) ha2 (by omega)⟩ q))
      refine jr_if_eq 17 7 dX10_asked_4 rfl rfl (fun q => absurd q (by decide)) (fun q4 => ?_)
      refine jr_iload_n 2 8 dX10_asked_7 rfl rfl rfl ?_
      refine jr_iconst (0) 9 dX10_asked_8 rfl rfl ?_
      refine jr_bipush (40) 11 dX10_asked_9 rfl rfl ?_
      refine cs_X10_108 14 dX10_asked_11 rfl rfl (Nat.le_of_ble_eq_true rfl) (wp_inT hlen (by decide) rfl ?_)
      refine jr_if_ne 20 17 dX10_asked_14 rfl rfl (fun q14 => ?_) (fun q => absurd q (by decide))
      refine jr_iconst (0) 21 dX10_asked_20 rfl rfl ?_
      refine jr_istore_n 3 (L' := [_, _, _, _, _]) 22 dX10_asked_21 rfl rfl (by decide) rfl ?_
      refine jr_iconst (0) 23 dX10_asked_22 rfl rfl ?_
      refine jr_istore (L' := [_, _, _, _, _]) 25 dX10_asked_23 rfl (by decide) rfl ?_
      refine asked_r h hlen g1 (fun σ2 g3 => ?_) nf 0 _ _ (Nat.zero_add _) rfl (jr_eqx_rf _ _)
      exact ⟨rfl, IV_mov (iv_same_tr (iv_cx g1) (iv_rx g3)) h⟩

/-- the lots drawn from a seed -/
def lo_s (s : Int32) : Nat → Int64
  | 0 => s.toInt64 + 1
  | n + 1 => lo_s s n * 48271 - lo_s s n * 48271 / 2147483647 * 2147483647
def lo_a (s : Int32) (f : Nat) : Int32 := (lo_s s (f + 1) - lo_s s (f + 1) / 80 * 80).toInt32
theorem drawLots_l {G : jr_G} {d : Nat} {σ : jr_Sg} {k : jr_Sg → Prop} {s much : Int32} (hk : ∀ σ' : jr_Sg, jr_eqx [7, 8] σ σ' → (∀ q, q ≠ 9 → σ' 7 q = σ 7 q) → σ' 7 9 = much → (∀ f, f < 5 → σ' 8 f = lo_a s f) → k σ') : ∀ (m i : Nat) (σ2 : jr_Sg), i + m = 5 → jr_eqx [8] σ σ2 → (∀ f, f < i → σ2 8 f = lo_a s f) → jr_R G d mi_X7_drawLots (jr_kv k) 8 [some (.ref 7), some (.int s), some (.int much), some (.long (lo_s s i)), none, some (.int (nI i))] [] σ2 := by
  intro m
  induction m with
  | zero =>
    intro i σ2 hi g e
    have ei : i = 5 := hi
    subst ei
    refine jr_iload 10 dX7_drawLots_8 rfl rfl ?_
    refine jr_iconst (nI 5) 11 dX7_drawLots_10 rfl rfl ?_
    refine jr_icmp_ge 43 14 dX7_drawLots_11 rfl rfl (fun q11 => ?_) (fun z => absurd (by decide) z)
    refine jr_aload_n 0 44 dX7_drawLots_43 rfl rfl rfl ?_
    refine jr_iload_n 2 45 dX7_drawLots_44 rfl rfl rfl ?_
    refine pf_X7_40 48 dX7_drawLots_45 rfl rfl rfl rfl ?_
    refine jr_return dX7_drawLots_48 rfl ?_
    refine hk _ (jr_eqx_tr (jr_eqx_w g (by decide)) (jr_eqx_up _ _ _ (by decide))) (fun q hq => ?_) rfl e
    show upd (σ2 7) 9 much q = _
    rw [pk_un hq, g 7 (by decide)]
  | succ m ih =>
    intro i σ2 hi g e
    refine jr_iload 10 dX7_drawLots_8 rfl rfl ?_
    refine jr_iconst (nI 5) 11 dX7_drawLots_10 rfl rfl ?_
    refine jr_icmp_ge 43 14 dX7_drawLots_11 rfl rfl (fun z => absurd z (nI_ge (b := 5) (by omega) (by decide))) (fun q11 => ?_)
    refine jr_lload_n 3 15 dX7_drawLots_14 rfl rfl rfl ?_
    refine jr_ldc2 kc_X7_43 18 dX7_drawLots_15 rfl ?_
    refine jr_lmul 19 dX7_drawLots_18 rfl ?_
    refine jr_ldc2 kc_X7_45 22 dX7_drawLots_19 rfl ?_
    refine jr_lrem 23 dX7_drawLots_22 rfl (by decide) ?_
    refine jr_lstore_n 3 (L' := [_, _, _, _, _, _]) 24 dX7_drawLots_23 rfl rfl (by decide) rfl ?_
    refine jr_aload_n 0 25 dX7_drawLots_24 rfl rfl rfl ?_
    refine gf_X7_36 28 dX7_drawLots_25 rfl rfl rfl rfl ?_
    refine jr_iload 30 dX7_drawLots_28 rfl rfl ?_
    refine jr_lload_n 3 31 dX7_drawLots_30 rfl rfl rfl ?_
    refine jr_ldc2 kc_X7_47 34 dX7_drawLots_31 rfl ?_
    refine jr_lrem 35 dX7_drawLots_34 rfl (by decide) ?_
    refine jr_l2i 36 dX7_drawLots_35 rfl ?_
    refine jr_iast rfl rfl (by omega) 37 dX7_drawLots_36 rfl ?_
    refine jr_iinc (v := nI (i + 1)) (L' := [_, _, _, _, _, _]) 40 dX7_drawLots_37 rfl rfl (nI_1 i) (by decide) rfl ?_
    refine jr_goto 8 dX7_drawLots_40 rfl ?_
    refine ih (i + 1) _ (by omega) (jr_eqx_tr g (jr_eqx_up _ _ _ (by decide))) (fun f hf => ?_)
    show upd (σ2 8) i (lo_a s i) f = _
    by_cases q : f = i
    · subst q; exact pk_us
    · rw [pk_un q]; exact e f (by omega)
theorem wp_drawLots {G : jr_G} {d : Nat} {σ : jr_Sg} {k : jr_Sg → Prop} {s much : Int32} (hk : ∀ σ' : jr_Sg, jr_eqx [7, 8] σ σ' → (∀ q, q ≠ 9 → σ' 7 q = σ 7 q) → σ' 7 9 = much → (∀ f, f < 5 → σ' 8 f = lo_a s f) → k σ') : jr_M G d mi_X7_drawLots [.ref 7, .int s, .int much] σ (jr_kv k) := by
  refine jr_enter (L := [some (.ref 7), some (.int s), some (.int much), none, none, none]) (by decide) (Nat.le_of_ble_eq_true rfl) rfl ?_
  refine jr_iload_n 1 1 dX7_drawLots_0 rfl rfl rfl ?_
  refine jr_i2l 2 dX7_drawLots_1 rfl ?_
  refine jr_lconst (1) 3 dX7_drawLots_2 rfl rfl ?_
  refine jr_ladd 4 dX7_drawLots_3 rfl ?_
  refine jr_lstore_n 3 (L' := [_, _, _, _, _, _]) 5 dX7_drawLots_4 rfl rfl (by decide) rfl ?_
  refine jr_iconst (nI 0) 6 dX7_drawLots_5 rfl rfl ?_
  refine jr_istore (L' := [_, _, _, _, _, _]) 8 dX7_drawLots_6 rfl (by decide) rfl ?_
  exact drawLots_l hk 5 0 σ (by omega) (jr_eqx_rf _ _) (fun f hf => absurd hf (Nat.not_lt_zero f))
/-- LOTS, by the reference -/
def md_l (σ : jr_Sg) (nf : Nat) (s much : Int32) : jr_Sg := jr_up (jr_upc σ 71 (fun f => if f < nf then lo_a s f else σ 71 f)) 46 46 much
theorem cx_l {σ σ' : jr_Sg} (g : jr_eqx iv_CX σ σ') (nf : Nat) (s much : Int32) : jr_eqx iv_CX (md_l σ nf s much) (md_l σ' nf s much) := fun a ha => by
  unfold md_l
  refine jr_eqx_upb (X := iv_CX) (fun b hb => ?_) (by decide) a ha
  unfold jr_upc
  by_cases e : b = 71
  · rw [if_pos e, if_pos e, g 71 (by decide)]
  · rw [if_neg e, if_neg e]; exact g b hb
theorem iv_lot {T : Nat → Nat → List Nat} {n nf nc : Nat} {kd se : Nat → Nat} {lw tp : Nat} {σ σ' : jr_Sg} (h : iv T n nf nc kd se lw tp σ) (hc : ∀ a, a ∈ iv_cells → σ' a = σ a) (hf : ∀ k, k ∈ iv_flds → k ≠ 46 → σ' 46 k = σ 46 k) (hm : ∃ m : Nat, m ≤ 400 ∧ σ' 46 46 = nI m) : iv T n nf nc kd se lw tp σ' := by
  have h2 : iv T n nf nc kd se lw tp (jr_up σ' 46 46 (σ 46 46)) := iv_mov ⟨fun a ha => by
    have e : ¬ a = 46 := by revert a; decide
    unfold jr_up
    rw [if_neg e]
    exact hc a ha, fun k hk => by
    show upd (σ' 46) 46 (σ 46 46) k = σ 46 k
    by_cases e : k = 46
    · subst e; exact pk_us
    · rw [pk_un e]; exact hf k hk e⟩ h
  obtain ⟨a1, a2, a3, a4, a5, a6, ⟨b1, b2, b3, b4, b5⟩, a8⟩ := h2
  exact ⟨a1, a2, a3, a4, a5, a6, ⟨b1, b2, b3, hm, b5⟩, a8⟩
theorem rr_lot {T : Nat → Nat → List Nat} {n nf nc lw : Nat} {kd se : Nat → Nat} {σ : jr_Sg} {m : Nat} (h : rr_ok T n nf nc kd se lw σ) (hm : m ≤ 400) : rr_ok T n nf nc kd se lw (jr_up σ 46 46 (nI m)) := by
  obtain ⟨hr, hl, hT, hlw, hru⟩ := h
  exact ⟨hr, ⟨m, hm, rfl⟩, hT, hlw, hru⟩
theorem redBy_l {G : jr_G} {d : Nat} {σ : jr_Sg} {k : Value → jr_Sg → Prop} {nf c : Nat} {s : Int32} {σ0 : jr_Sg} (hnf : σ 46 1 = nI nf) (h5 : nf ≤ 5) (fin : ∀ (x : Int64) (σ2 : jr_Sg), jr_eqx [71] σ σ2 → σ2 71 = (fun f => if f < nf then lo_a s f else σ 71 f) → jr_R G (d + 6) mi_X10_redBy (jr_k k) 51 [some (.ref 46), some (.int s), some (.int (nI c)), some (.long x), none, some (.int (nI nf)), none] [] σ2) : ∀ (m i : Nat) (σ2 : jr_Sg), i + m = nf → jr_eqx [71] σ σ2 → σ2 71 = (fun f => if f < i then lo_a s f else σ 71 f) → jr_R G (d + 6) mi_X10_redBy (jr_k k) 13 [some (.ref 46), some (.int s), some (.int (nI c)), some (.long (lo_s s i)), none, some (.int (nI i)), none] [] σ2 := by
  intro m
  induction m with
  | zero =>
    intro i σ2 hi g e
    have ei : i = nf := hi
    subst ei
    have hnf1 : σ2 46 1 = nI i := by rw [g 46 (by decide)]; exact hnf
    refine jr_iload 15 dX10_redBy_13 rfl rfl ?_
    refine jr_aload_n 0 16 dX10_redBy_15 rfl rfl rfl ?_
    refine gf_X10_105 19 dX10_redBy_16 rfl rfl rfl rfl ?_
    rw [hnf1]
    refine jr_icmp_ge 51 22 dX10_redBy_19 rfl rfl (fun q19 => ?_) (fun q => absurd (Int32.le_refl _) q)
    exact fin _ σ2 g e
  | succ m ih =>
    intro i σ2 hi g e
    have hnf1 : σ2 46 1 = nI nf := by rw [g 46 (by decide)]; exact hnf
    refine jr_iload 15 dX10_redBy_13 rfl rfl ?_
    refine jr_aload_n 0 16 dX10_redBy_15 rfl rfl rfl ?_
    refine gf_X10_105 19 dX10_redBy_16 rfl rfl rfl rfl ?_
    rw [hnf1]
    refine jr_icmp_ge 51 22 dX10_redBy_19 rfl rfl (fun q => absurd q (nI_ge (by omega) (by omega))) (fun q19 => ?_)
    refine jr_lload_n 3 23 dX10_redBy_22 rfl rfl rfl ?_
    refine jr_ldc2 kc_X10_328 26 dX10_redBy_23 rfl ?_
    refine jr_lmul 27 dX10_redBy_26 rfl ?_
    refine jr_ldc2 kc_X10_330 30 dX10_redBy_27 rfl ?_
    refine jr_lrem 31 dX10_redBy_30 rfl (by decide) ?_
    refine jr_lstore_n 3 (L' := [_, _, _, _, _, _, _]) 32 dX10_redBy_31 rfl rfl (by decide) rfl ?_
    refine jr_aload_n 0 33 dX10_redBy_32 rfl rfl rfl ?_
    refine gf_X10_92 36 dX10_redBy_33 rfl rfl rfl rfl ?_
    refine jr_iload 38 dX10_redBy_36 rfl rfl ?_
    refine jr_lload_n 3 39 dX10_redBy_38 rfl rfl rfl ?_
    refine jr_ldc2 kc_X10_332 42 dX10_redBy_39 rfl ?_
    refine jr_lrem 43 dX10_redBy_42 rfl (by decide) ?_
    refine jr_l2i 44 dX10_redBy_43 rfl ?_
    refine jr_iast rfl rfl (by omega) 45 dX10_redBy_44 rfl ?_
    refine jr_iinc (v := nI (i + 1)) (L' := [_, _, _, _, _, _, _]) 48 dX10_redBy_45 rfl rfl (nI_1 i) (by decide) rfl ?_
    refine jr_goto 13 dX10_redBy_48 rfl ?_
    refine ih (i + 1) _ (by omega) (jr_eqx_tr g (jr_eqx_up _ _ _ (by decide))) ?_
    show upd (σ2 71) i (lo_a s i) = _
    rw [e]
    funext f
    by_cases q : f = i
    · subst q; rw [pk_us, if_pos (Nat.lt_succ_self f)]
    · rw [pk_un q]
      by_cases z : f < i
      · rw [if_pos z, if_pos (by omega)]
      · rw [if_neg z, if_neg (by omega)]
theorem wp_redBy {G : jr_G} {d : Nat} {σ : jr_Sg} {k : Value → jr_Sg → Prop} {T : Nat → Nat → List Nat} {n lw nf nc c : Nat} {kd se : Nat → Nat} {s : Int32} (hr : rr_ok T n nf nc kd se lw σ) (hc : c ≤ 400) (h71 : ∀ f, f < 5 → σ 71 f = -1) (hk : ∀ σ' : jr_Sg, (∀ a, a ∉ iv_RX → a ≠ 46 → σ' a = σ a) → (∀ q, q ≠ 46 → σ' 46 q = σ 46 q) → σ' 46 46 = nI c → k (.int (er T lw nf nc kd se (md_l σ nf s (nI c)))) σ') : jr_M G (d + 7) mi_X10_redBy [.ref 46, .int s, .int (nI c)] σ (jr_k k) := by
  have h5 : nf ≤ 5 := hr.1.2.1
  refine jr_enter (L := [some (.ref 46), some (.int s), some (.int (nI c)), none, none, none, none]) (by decide) (Nat.le_of_ble_eq_true rfl) rfl ?_
  refine jr_iload_n 1 1 dX10_redBy_0 rfl rfl rfl ?_
  refine jr_i2l 2 dX10_redBy_1 rfl ?_
  refine jr_lconst (1) 3 dX10_redBy_2 rfl rfl ?_
  refine jr_ladd 4 dX10_redBy_3 rfl ?_
  refine jr_lstore_n 3 (L' := [_, _, _, _, _, _, _]) 5 dX10_redBy_4 rfl rfl (by decide) rfl ?_
  refine jr_aload_n 0 6 dX10_redBy_5 rfl rfl rfl ?_
  refine jr_iload_n 2 7 dX10_redBy_6 rfl rfl rfl ?_
  refine pf_X10_244 10 dX10_redBy_7 rfl rfl rfl rfl ?_
  refine jr_iconst (nI 0) 11 dX10_redBy_10 rfl rfl ?_
  refine jr_istore (L' := [_, _, _, _, _, _, _]) 13 dX10_redBy_11 rfl (by decide) rfl ?_
  refine redBy_l (σ := jr_up σ 46 46 (nI c)) (σ0 := σ) hr.1.1 h5 (fun x σ2 g2 e2 => ?_) nf 0 _ (Nat.zero_add _) (jr_eqx_rf _ _) (funext fun f => (if_neg (Nat.not_lt_zero f)).symm)
  refine jr_aload_n 0 52 dX10_redBy_51 rfl rfl rfl ?_
  have r2 : rr_ok T n nf nc kd se lw σ2 := rr_x (rr_lot hr hc) g2 (by decide)
  have em : jr_eqx [] (md_l σ nf s (nI c)) σ2 := fun a _ => by
    unfold md_l
    by_cases e6 : a = 46
    · subst e6; rw [g2 46 (by decide)]; rfl
    · by_cases e7 : a = 71
      · subst e7; exact e2
      · rw [g2 a (fun q => e7 (List.mem_singleton.mp q))]
        unfold jr_up jr_upc
        rw [if_neg e6, if_neg e6, if_neg e7]
  refine cs_X10_307 55 dX10_redBy_52 rfl rfl rfl (Nat.le_of_ble_eq_true rfl) (wp_everRed r2 (fun σ3 g3 => ?_))
  refine jr_topi (y := er T lw nf nc kd se (md_l σ nf s (nI c))) (er_x em (by decide)) ?_
  refine jr_istore (L' := [_, _, _, _, _, _, _]) 57 dX10_redBy_55 rfl (by decide) rfl ?_
  refine jr_iconst (nI 0) 58 dX10_redBy_57 rfl rfl ?_
  refine jr_istore (L' := [_, _, _, _, _, _, _]) 60 dX10_redBy_58 rfl (by decide) rfl ?_
  refine jr_iload 62 dX10_redBy_60 rfl rfl ?_
  refine jr_iconst (nI 5) 63 dX10_redBy_62 rfl rfl ?_
  refine jr_icmp_ge 80 66 dX10_redBy_63 rfl rfl (fun q => absurd q (by decide)) (fun q63 => ?_)
  refine jr_aload_n 0 67 dX10_redBy_66 rfl rfl rfl ?_
  refine gf_X10_92 70 dX10_redBy_67 rfl rfl rfl rfl ?_
  refine jr_iload 72 dX10_redBy_70 rfl rfl ?_
  refine jr_iconst ((-1)) 73 dX10_redBy_72 rfl rfl ?_
  refine jr_iast rfl rfl (by decide) 74 dX10_redBy_73 rfl ?_
  refine jr_iinc (v := nI 1) (L' := [_, _, _, _, _, _, _]) 77 dX10_redBy_74 rfl rfl (by decide) (by decide) rfl ?_
  refine jr_goto 60 dX10_redBy_77 rfl ?_
  refine jr_iload 62 dX10_redBy_60 rfl rfl ?_
  refine jr_iconst (nI 5) 63 dX10_redBy_62 rfl rfl ?_
  refine jr_icmp_ge 80 66 dX10_redBy_63 rfl rfl (fun q => absurd q (by decide)) (fun q63 => ?_)
  refine jr_aload_n 0 67 dX10_redBy_66 rfl rfl rfl ?_
  refine gf_X10_92 70 dX10_redBy_67 rfl rfl rfl rfl ?_
  refine jr_iload 72 dX10_redBy_70 rfl rfl ?_
  refine jr_iconst ((-1)) 73 dX10_redBy_72 rfl rfl ?_
  refine jr_iast rfl rfl (by decide) 74 dX10_redBy_73 rfl ?_
  refine jr_iinc (v := nI 2) (L' := [_, _, _, _, _, _, _]) 77 dX10_redBy_74 rfl rfl (by decide) (by decide) rfl ?_
  refine jr_goto 60 dX10_redBy_77 rfl ?_
  refine jr_iload 62 dX10_redBy_60 rfl rfl ?_
  refine jr_iconst (nI 5) 63 dX10_redBy_62 rfl rfl ?_
  refine jr_icmp_ge 80 66 dX10_redBy_63 rfl rfl (fun q => absurd q (by decide)) (fun q63 => ?_)
  refine jr_aload_n 0 67 dX10_redBy_66 rfl rfl rfl ?_
  refine gf_X10_92 70 dX10_redBy_67 rfl rfl rfl rfl ?_
  refine jr_iload 72 dX10_redBy_70 rfl rfl ?_
  refine jr_iconst ((-1)) 73 dX10_redBy_72 rfl rfl ?_
  refine jr_iast rfl rfl (by decide) 74 dX10_redBy_73 rfl ?_
  refine jr_iinc (v := nI 3) (L' := [_, _, _, _, _, _, _]) 77 dX10_redBy_74 rfl rfl (by decide) (by decide) rfl ?_
  refine jr_goto 60 dX10_redBy_77 rfl ?_
  refine jr_iload 62 dX10_redBy_60 rfl rfl ?_
  refine jr_iconst (nI 5) 63 dX10_redBy_62 rfl rfl ?_
  refine jr_icmp_ge 80 66 dX10_redBy_63 rfl rfl (fun q => absurd q (by decide)) (fun q63 => ?_)
  refine jr_aload_n 0 67 dX10_redBy_66 rfl rfl rfl ?_
  refine gf_X10_92 70 dX10_redBy_67 rfl rfl rfl rfl ?_
  refine jr_iload 72 dX10_redBy_70 rfl rfl ?_
  refine jr_iconst ((-1)) 73 dX10_redBy_72 rfl rfl ?_
  refine jr_iast rfl rfl (by decide) 74 dX10_redBy_73 rfl ?_
  refine jr_iinc (v := nI 4) (L' := [_, _, _, _, _, _, _]) 77 dX10_redBy_74 rfl rfl (by decide) (by decide) rfl ?_
  refine jr_goto 60 dX10_redBy_77 rfl ?_
  refine jr_iload 62 dX10_redBy_60 rfl rfl ?_
  refine jr_iconst (nI 5) 63 dX10_redBy_62 rfl rfl ?_
  refine jr_icmp_ge 80 66 dX10_redBy_63 rfl rfl (fun q => absurd q (by decide)) (fun q63 => ?_)
  refine jr_aload_n 0 67 dX10_redBy_66 rfl rfl rfl ?_
  refine gf_X10_92 70 dX10_redBy_67 rfl rfl rfl rfl ?_
  refine jr_iload 72 dX10_redBy_70 rfl rfl ?_
  refine jr_iconst ((-1)) 73 dX10_redBy_72 rfl rfl ?_
  refine jr_iast rfl rfl (by decide) 74 dX10_redBy_73 rfl ?_
  refine jr_iinc (v := nI 5) (L' := [_, _, _, _, _, _, _]) 77 dX10_redBy_74 rfl rfl (by decide) (by decide) rfl ?_
  refine jr_goto 60 dX10_redBy_77 rfl ?_
  refine jr_iload 62 dX10_redBy_60 rfl rfl ?_
  refine jr_iconst (nI 5) 63 dX10_redBy_62 rfl rfl ?_
  refine jr_icmp_ge 80 66 dX10_redBy_63 rfl rfl (fun q63 => ?_) (fun q => absurd (by decide) q)
  refine jr_iload 82 dX10_redBy_80 rfl rfl ?_
  refine jr_ireturn dX10_redBy_82 rfl rfl ?_
  refine hk _ (fun a ha ha2 => ?_) (fun q hq => ?_) ?_
  · by_cases e7 : a = 71
    · subst e7
      funext f
      show upd (upd (upd (upd (upd (σ3 71) 0 _) 1 _) 2 _) 3 _) 4 _ f = _
      rcases (by omega : f = 0 ∨ f = 1 ∨ f = 2 ∨ f = 3 ∨ f = 4 ∨ 5 ≤ f) with rfl | rfl | rfl | rfl | rfl | hf
      · exact (h71 0 (by omega)).symm
      · exact (h71 1 (by omega)).symm
      · exact (h71 2 (by omega)).symm
      · exact (h71 3 (by omega)).symm
      · exact (h71 4 (by omega)).symm
      · rw [pk_un (by omega), pk_un (by omega), pk_un (by omega), pk_un (by omega), pk_un (by omega), g3 71 (by decide), e2]
        show (if f < nf then lo_a s f else σ 71 f) = _
        rw [if_neg (by omega)]
    · have q1 : ∀ (τ : jr_Sg) (i : Nat) (v : Int32), jr_up τ 71 i v a = τ a := fun τ i v => by unfold jr_up; rw [if_neg e7]
      rw [q1, q1, q1, q1, q1, g3 a ha, g2 a (fun q => e7 (List.mem_singleton.mp q))]
      unfold jr_up
      rw [if_neg ha2]
  · show σ3 46 q = _
    rw [g3 46 (by decide), g2 46 (by decide)]
    exact pk_un hq
  · show σ3 46 46 = _
    rw [g3 46 (by decide), g2 46 (by decide)]
    rfl
theorem par_lot {T : Nat → Nat → List Nat} {n nf nc lw tp : Nat} {kd se : Nat → Nat} {σ σ1 σC : jr_Sg} {s much : Int32} (h : iv T n nf nc kd se lw tp σ) (g : jr_eqx iv_CX σ σ1) (c0 : σ1 7 0 = -1) (c3 : σ1 7 3 = -1) (c5 : σ1 7 5 = -1) (g2 : jr_eqx [7, 8] σ1 σC) (g7 : ∀ q, q ≠ 9 → σC 7 q = σ1 7 q) (g9 : σC 7 9 = much) (g8 : ∀ f, f < 5 → σC 8 f = lo_a s f) {f : Nat} (hf : f < nf) : sm_par 15 nf nc f (se f) σC (md_l σ nf s much) := by
  have h5 : nf ≤ 5 := h.2.2.1.2.1.2.1
  have hrest := h.2.2.2.2.2.2.1
  refine par_now h hf (jr_eqx_tr g (jr_eqx_w g2 (by decide))) rfl rfl rfl rfl (fun x hx => ⟨fun e => (jr_m1 (by omega) (Eq.symm (e.1.trans ((g7 3 (by decide)).trans c3)))).elim, fun e => (jr_m1 (by omega) (Eq.symm (e.1.trans hrest.2.1))).elim⟩) (fun w t n => ⟨fun e => (do_none (by omega) ((g7 0 (by decide)).trans c0) e).elim, fun e => (do_none (by omega) hrest.1 e).elim⟩) (fun t ht => (pu_if_f (fun e => jr_m1 (by omega) (Eq.symm (e.1.trans ((g7 5 (by decide)).trans c5))))).trans (Eq.symm (pu_z (hrest.2.2.2.2 f (by omega)).1))) (fun t ht => ?_)
  unfold pu_dr pr_dr
  rw [g8 f (by omega), g9]
  show _ = pu_if ((if f < nf then lo_a s f else σ 71 f) = nI t) much 0
  rw [if_pos hf]
theorem pp_drawn {G : jr_G} {d : Nat} {σ : jr_Sg} {a c : Int32} (h : IV σ) : jr_pair G (d + 20) mi_X9_drawn mi_X10_drawn [.int a, .int c] σ := by
  obtain ⟨T, n, nf, nc, kd, se, lw, tp, h⟩ := h
  have hh := h
  obtain ⟨hTC, hTR, ⟨hsc, hsr, hl1, hl2, hlw, hfc, hli, hca⟩, htp, himg, hsh, hrest, hwd⟩ := hh
  have hnf := hsc.1
  have h5 := hsc.2.1
  have hnc := hsc.2.2.1
  have h8 := hsc.2.2.2.1
  have rnf := hsr.1
  have rnc := hsr.2.2.1
  have hlm := hrest.2.2.2.1
  unfold jr_pair
  rcases jr_rg a (m := 99999) (by decide) with qs | ⟨s, hs, rfl⟩
  · refine jr_enter (L := [some (.ref 0), some (.int a), some (.int c)]) (by decide) (Nat.le_of_ble_eq_true rfl) rfl ?_
    refine jr_iload_n 1 1 dX9_drawn_0 rfl rfl rfl ?_
    refine jr_ldcw kc_X9_304 4 dX9_drawn_1 rfl ?_
    refine cs_X9_104 7 dX9_drawn_4 rfl rfl (Nat.le_of_ble_eq_true rfl) (wp_wiF qs ?_)
    refine jr_if_eq 20 10 dX9_drawn_7 rfl rfl (fun q7 => ?_) (fun q => absurd (by decide) q)
    refine jr_bipush ((-2)) 22 dX9_drawn_20 rfl rfl ?_
    refine jr_ireturn dX9_drawn_22 rfl rfl ?_
    refine jr_enter (L := [some (.ref 46), some (.int a), some (.int c)]) (by decide) (Nat.le_of_ble_eq_true rfl) rfl ?_
    refine jr_iload_n 1 1 dX10_drawn_0 rfl rfl rfl ?_
    refine jr_iconst (0) 2 dX10_drawn_1 rfl rfl ?_
    refine jr_ldcw kc_X10_334 5 dX10_drawn_2 rfl ?_
    refine cs_X10_108 8 dX10_drawn_5 rfl rfl (Nat.le_of_ble_eq_true rfl) (wp_inF qs ?_)
    refine jr_if_eq 27 11 dX10_drawn_8 rfl rfl (fun q8 => ?_) (fun q => absurd (by decide) q)
    refine jr_bipush ((-2)) 29 dX10_drawn_27 rfl rfl ?_
    refine jr_ireturn dX10_drawn_29 rfl rfl ?_
    exact ⟨rfl, IV_mov (iv_same_x (jr_eqx_rf [] _) (by decide)) h⟩
  · rcases jr_rg c (m := 400) (by decide) with qc2 | ⟨c2, hc2, rfl⟩
    · refine jr_enter (L := [some (.ref 0), some (.int (nI s)), some (.int c)]) (by decide) (Nat.le_of_ble_eq_true rfl) rfl ?_
      refine jr_iload_n 1 1 dX9_drawn_0 rfl rfl rfl ?_
      refine jr_ldcw kc_X9_304 4 dX9_drawn_1 rfl ?_
      refine cs_X9_104 7 dX9_drawn_4 rfl rfl (Nat.le_of_ble_eq_true rfl) (wp_wiT hs (by decide) rfl ?_)
      refine jr_if_eq 20 10 dX9_drawn_7 rfl rfl (fun q => absurd q (by decide)) (fun q7 => ?_)
      refine jr_iload_n 2 11 dX9_drawn_10 rfl rfl rfl ?_
      refine jr_sipush (400) 14 dX9_drawn_11 rfl rfl ?_
      refine cs_X9_104 17 dX9_drawn_14 rfl rfl (Nat.le_of_ble_eq_true rfl) (wp_wiF qc2 ?_)
      refine jr_if_ne 23 20 dX9_drawn_17 rfl rfl (fun q => absurd (by decide) q) (fun q17 => ?_)
      refine jr_bipush ((-2)) 22 dX9_drawn_20 rfl rfl ?_
      refine jr_ireturn dX9_drawn_22 rfl rfl ?_
      refine jr_enter (L := [some (.ref 46), some (.int (nI s)), some (.int c)]) (by decide) (Nat.le_of_ble_eq_true rfl) rfl ?_
      refine jr_iload_n 1 1 dX10_drawn_0 rfl rfl rfl ?_
      refine jr_iconst (0) 2 dX10_drawn_1 rfl rfl ?_
      refine jr_ldcw kc_X10_334 5 dX10_drawn_2 rfl ?_
      refine cs_X10_108 8 dX10_drawn_5 rfl rfl (Nat.le_of_ble_eq_true rfl) (wp_inT hs (by decide) rfl ?_)
      refine jr_if_eq 27 11 dX10_drawn_8 rfl rfl (fun q => absurd q (by decide)) (fun q8 => ?_)
      refine jr_iload_n 2 12 dX10_drawn_11 rfl rfl rfl ?_
      refine cs_X10_191 15 dX10_drawn_12 rfl rfl (Nat.le_of_ble_eq_true rfl) (wp_risMuch (fun a b => absurd ⟨a, b⟩ qc2) (fun _ => ?_))
      refine jr_if_eq 27 18 dX10_drawn_15 rfl rfl (fun q15 => ?_) (fun q => absurd (by decide) q)
      refine jr_bipush ((-2)) 29 dX10_drawn_27 rfl rfl ?_
      refine jr_ireturn dX10_drawn_29 rfl rfl ?_
      exact ⟨rfl, IV_mov (iv_same_x (jr_eqx_rf [] _) (by decide)) h⟩
    · refine jr_enter (L := [some (.ref 0), some (.int (nI s)), some (.int (nI c2))]) (by decide) (Nat.le_of_ble_eq_true rfl) rfl ?_
      refine jr_iload_n 1 1 dX9_drawn_0 rfl rfl rfl ?_
      refine jr_ldcw kc_X9_304 4 dX9_drawn_1 rfl ?_
      refine cs_X9_104 7 dX9_drawn_4 rfl rfl (Nat.le_of_ble_eq_true rfl) (wp_wiT hs (by decide) rfl ?_)
      refine jr_if_eq 20 10 dX9_drawn_7 rfl rfl (fun q => absurd q (by decide)) (fun q7 => ?_)
      refine jr_iload_n 2 11 dX9_drawn_10 rfl rfl rfl ?_
      refine jr_sipush (400) 14 dX9_drawn_11 rfl rfl ?_
      refine cs_X9_104 17 dX9_drawn_14 rfl rfl (Nat.le_of_ble_eq_true rfl) (wp_wiT hc2 (by decide) rfl ?_)
      refine jr_if_ne 23 20 dX9_drawn_17 rfl rfl (fun q17 => ?_) (fun q => absurd q (by decide))
      refine jr_aload_n 0 24 dX9_drawn_23 rfl rfl rfl ?_
      refine gf_X9_28 27 dX9_drawn_24 rfl rfl rfl rfl ?_
      refine cs_X9_249 30 dX9_drawn_27 rfl rfl rfl (Nat.le_of_ble_eq_true rfl) (wp_clear ?_)
      have gc : jr_eqx iv_CX σ (jr_up (jr_up (jr_up (jr_up σ 7 0 (-1)) 7 3 (-1)) 7 5 (-1)) 7 9 0) := (by repeat (first | exact jr_eqx_rf _ _ | refine jr_eqx_tr ?_ (jr_eqx_up _ _ _ (by decide))))
      refine jr_aload_n 0 31 dX9_drawn_30 rfl rfl rfl ?_
      refine gf_X9_28 34 dX9_drawn_31 rfl rfl rfl rfl ?_
      refine jr_iload_n 1 35 dX9_drawn_34 rfl rfl rfl ?_
      refine jr_iload_n 2 36 dX9_drawn_35 rfl rfl rfl ?_
      refine cs_X9_305 39 dX9_drawn_36 rfl rfl rfl (Nat.le_of_ble_eq_true rfl) (wp_drawLots (fun σ2 g2 g7 g9 g8 => ?_))
      refine jr_aload_n 0 40 dX9_drawn_39 rfl rfl rfl ?_
      refine gf_X9_37 43 dX9_drawn_40 rfl rfl rfl rfl ?_
      refine jr_aload_n 0 44 dX9_drawn_43 rfl rfl rfl ?_
      refine gf_X9_44 47 dX9_drawn_44 rfl rfl rfl rfl ?_
      refine jr_bipush (40) 49 dX9_drawn_47 rfl rfl ?_
      refine cs_X9_255 52 dX9_drawn_49 rfl rfl rfl (Nat.le_of_ble_eq_true rfl) (cplay_all (len := 40) (σR := (md_l σ nf (nI s) (nI c2))) h (by omega) (jr_eqx_tr gc (jr_eqx_w g2 (by decide))) (fun f hf => par_lot h gc rfl rfl rfl g2 g7 g9 g8 hf) (fun σ3 g4 g6 g5 => ?_))
      refine jr_aload_n 0 53 dX9_drawn_52 rfl rfl rfl ?_
      refine gf_X9_37 56 dX9_drawn_53 rfl rfl rfl rfl ?_
      refine cs_X9_265 59 dX9_drawn_56 rfl rfl rfl (Nat.le_of_ble_eq_true rfl) (wp_everRedBits (nf := nf) g6 h5 ?_)
      refine jr_topi (y := er T lw nf nc kd se (md_l σ nf (nI s) (nI c2))) (er_eq g5) ?_
      refine jr_ireturn dX9_drawn_59 rfl rfl ?_
      refine jr_enter (L := [some (.ref 46), some (.int (nI s)), some (.int (nI c2))]) (by decide) (Nat.le_of_ble_eq_true rfl) rfl ?_
      have h1 := iv_mov (iv_cx g4) h
      have r1 := rr_of h1
      refine jr_iload_n 1 1 dX10_drawn_0 rfl rfl rfl ?_
      refine jr_iconst (0) 2 dX10_drawn_1 rfl rfl ?_
      refine jr_ldcw kc_X10_334 5 dX10_drawn_2 rfl ?_
      refine cs_X10_108 8 dX10_drawn_5 rfl rfl (Nat.le_of_ble_eq_true rfl) (wp_inT hs (by decide) rfl ?_)
      refine jr_if_eq 27 11 dX10_drawn_8 rfl rfl (fun q => absurd q (by decide)) (fun q8 => ?_)
      refine jr_iload_n 2 12 dX10_drawn_11 rfl rfl rfl ?_
      refine cs_X10_191 15 dX10_drawn_12 rfl rfl (Nat.le_of_ble_eq_true rfl) (wp_risMuch (fun _ _ => ?_) (fun q => absurd ⟨nI_pos' (by omega), nI_le (b := 400) hc2 (by omega)⟩ q))
      refine jr_if_eq 27 18 dX10_drawn_15 rfl rfl (fun q => absurd q (by decide)) (fun q15 => ?_)
      refine jr_aload_n 0 19 dX10_drawn_18 rfl rfl rfl ?_
      refine jr_iload_n 1 20 dX10_drawn_19 rfl rfl rfl ?_
      refine jr_iload_n 2 21 dX10_drawn_20 rfl rfl rfl ?_
      refine cs_X10_335 24 dX10_drawn_21 rfl rfl rfl (Nat.le_of_ble_eq_true rfl) (wp_redBy r1 hc2 (fun f hf => (h1.2.2.2.2.2.2.1.2.2.2.2 f hf).2) (fun σ5 e7 e8 e9 => ?_))
      refine jr_topi (y := er T lw nf nc kd se (md_l σ nf (nI s) (nI c2))) (er_x (cx_l g4 nf (nI s) (nI c2)) (by decide)) ?_
      refine jr_goto 29 dX10_drawn_24 rfl ?_
      refine jr_ireturn dX10_drawn_29 rfl rfl ?_
      refine ⟨rfl, T, n, nf, nc, kd, se, lw, tp, iv_lot h (fun a ha => ?_) (fun q hq hq2 => ?_) ⟨c2, hc2, e9⟩⟩
      · have hx : a ∉ iv_RX ∧ a ≠ 46 ∧ a ∉ iv_CX := by revert a; decide
        rw [e7 a hx.1 hx.2.1, g4 a hx.2.2]
      · rw [e8 q hq2, g4 46 (by decide)]
/-- how many of the first are P -/
noncomputable def cn (Q : Nat → Prop) : Nat → Nat
  | 0 => 0
  | i + 1 => cn Q i + @ite Nat (Q i) (Classical.propDecidable _) 1 0
theorem cn_t {Q : Nat → Prop} {i : Nat} (h : Q i) : cn Q (i + 1) = cn Q i + 1 := by rw [cn, if_pos h]
theorem cn_f {Q : Nat → Prop} {i : Nat} (h : ¬ Q i) : cn Q (i + 1) = cn Q i := by rw [cn, if_neg h]; rfl
theorem cn_le {Q : Nat → Prop} : ∀ i, cn Q i ≤ i
  | 0 => Nat.le_refl 0
  | i + 1 => by
    have := cn_le (Q := Q) i
    by_cases h : Q i
    · rw [cn_t h]; omega
    · rw [cn_f h]; omega
theorem nL_succ : ∀ a : Fin 21, nL a.val + (1 : Int32).toInt64 = nL (a.val + 1) := by decide +kernel
theorem nL_same : ∀ a : Fin 21, nL a.val + (0 : Int32).toInt64 = nL a.val := by decide +kernel
theorem er_ag {T : Nat → Nat → List Nat} {lw nf nc : Nat} {kd se : Nat → Nat} {σ σ' : jr_Sg} (h : jr_ag [47, 49, 50, 52, 70, 71] [39, 40, 41, 42, 43, 45, 46] σ σ') : er T lw nf nc kd se σ' = er T lw nf nc kd se σ := lp_congr (fun i _ x => by rw [sm_R_ag h, show pr_rf kd se σ' i = pr_rf kd se σ i by unfold pr_rf; rw [h.1 47 (by decide), h.1 49 (by decide)]])
theorem ag_l {σ σ' : jr_Sg} {nf : Nat} {s much : Int32} (h1 : ∀ a, a ∉ iv_RX → a ≠ 46 → σ' a = σ a) (h2 : ∀ q, q ≠ 46 → σ' 46 q = σ 46 q) : jr_ag [47, 49, 50, 52, 70, 71] [39, 40, 41, 42, 43, 45, 46] (md_l σ nf s much) (md_l σ' nf s much) := by
  refine ⟨fun c hc => ?_, fun k hk => ?_⟩
  · have hc2 : c ∉ iv_RX ∧ c ≠ 46 := by revert c; decide
    unfold md_l
    have q : ∀ τ : jr_Sg, jr_up τ 46 46 much c = τ c := fun τ => by unfold jr_up; rw [if_neg hc2.2]
    rw [q, q]
    unfold jr_upc
    by_cases e : c = 71
    · rw [if_pos e, if_pos e, h1 71 (by decide) (by decide)]
    · rw [if_neg e, if_neg e, h1 c hc2.1 hc2.2]
  · show upd (σ' 46) 46 much k = upd (σ 46) 46 much k
    by_cases e : k = 46
    · subst e; rw [pk_us, pk_us]
    · rw [pk_un e, pk_un e]; exact h2 k e
def od_P (T : Nat → Nat → List Nat) (lw nf nc : Nat) (kd se : Nat → Nat) (σ : jr_Sg) (j s c i : Nat) : Prop := 0 < tr_rs (sm_R T lw nf nc kd se (md_l σ nf (nI (s + i)) (nI c)) j) (pr_rf kd se σ j)
theorem odds_x {G : jr_G} {d : Nat} {σ : jr_Sg} {k : Value → jr_Sg → Prop} {T : Nat → Nat → List Nat} {n nf nc lw tp s u c b : Nat} {kd se : Nat → Nat} (h : iv T n nf nc kd se lw tp σ) (hs : s ≤ 99999) (hu : u ≤ 20) (hc : c ≤ 400) (hb : b < 2 ^ 31) (hj : b / 10 < nf) (fin : ∀ σ1 : jr_Sg, jr_eqx iv_CX σ σ1 → k (.long (ltC (cn (od_P T lw nf nc kd se σ (b / 10) s c) u) u (b % 10))) σ1) (hu0 : 0 < u) (hb2 : b % 10 < 2) : ∀ (m i : Nat) (σ1 : jr_Sg), i + m = u → jr_eqx iv_CX σ σ1 → jr_R G (d + 19) mi_X9_odds (jr_k k) 82 [some (.ref 0), some (.int (nI s)), some (.int (nI u)), some (.int (nI c)), some (.int (nI b)), some (.int 1), some (.int (nI (cn (od_P T lw nf nc kd se σ (b / 10) s c) i))), some (.int (nI i))] [] σ1 := by
  have h5 : nf ≤ 5 := h.2.2.1.2.1.2.1
  have ediv : nI b / nI 10 = nI (b / 10) := pk_div hb (by omega) (by omega)
  have erem : nI b - nI b / nI 10 * nI 10 = nI (b % 10) := pk_rem hb (by omega) (by omega)
  intro m
  induction m with
  | zero =>
    intro i σ1 hi g
    have ei : i = u := hi
    subst ei
    have hle := cn_le (Q := (od_P T lw nf nc kd se σ (b / 10) s c)) i
    refine jr_iload 84 dX9_odds_82 rfl rfl ?_
    refine jr_iload_n 2 85 dX9_odds_84 rfl rfl rfl ?_
    refine jr_icmp_ge 156 88 dX9_odds_85 rfl rfl (fun q85 => ?_) (fun q => absurd (Int32.le_refl _) q)
    refine jr_iload 158 dX9_odds_156 rfl rfl ?_
    refine jr_iload_n 2 159 dX9_odds_158 rfl rfl rfl ?_
    refine jr_iload 161 dX9_odds_159 rfl rfl ?_
    refine jr_bipush (nI 10) 163 dX9_odds_161 rfl rfl ?_
    refine jr_irem 164 dX9_odds_163 rfl (by decide) ?_
    rw [erem]
    refine cs_X9_285 167 dX9_odds_164 rfl rfl (Nat.le_of_ble_eq_true rfl) (wp_lowestTerms (by omega) hu hb2 ?_)
    refine jr_lreturn dX9_odds_167 rfl ?_
    exact fin σ1 g
  | succ m ih =>
    intro i σ1 hi g
    have hle := cn_le (Q := (od_P T lw nf nc kd se σ (b / 10) s c)) i
    refine jr_iload 84 dX9_odds_82 rfl rfl ?_
    refine jr_iload_n 2 85 dX9_odds_84 rfl rfl rfl ?_
    refine jr_icmp_ge 156 88 dX9_odds_85 rfl rfl (fun q => absurd q (nI_ge (by omega) (by omega))) (fun q85 => ?_)
    refine jr_aload_n 0 89 dX9_odds_88 rfl rfl rfl ?_
    refine gf_X9_28 92 dX9_odds_89 rfl rfl rfl rfl ?_
    refine cs_X9_249 95 dX9_odds_92 rfl rfl rfl (Nat.le_of_ble_eq_true rfl) (wp_clear ?_)
    have gc : jr_eqx iv_CX σ (jr_up (jr_up (jr_up (jr_up σ1 7 0 (-1)) 7 3 (-1)) 7 5 (-1)) 7 9 0) := jr_eqx_tr g (by repeat (first | exact jr_eqx_rf _ _ | refine jr_eqx_tr ?_ (jr_eqx_up _ _ _ (by decide))))
    refine jr_aload_n 0 96 dX9_odds_95 rfl rfl rfl ?_
    refine gf_X9_28 99 dX9_odds_96 rfl rfl rfl rfl ?_
    refine jr_iload_n 1 100 dX9_odds_99 rfl rfl rfl ?_
    refine jr_iload 102 dX9_odds_100 rfl rfl ?_
    refine jr_iadd 103 dX9_odds_102 rfl ?_
    rw [nI_add]
    refine jr_iload_n 3 104 dX9_odds_103 rfl rfl rfl ?_
    refine cs_X9_305 107 dX9_odds_104 rfl rfl rfl (Nat.le_of_ble_eq_true rfl) (wp_drawLots (fun σ2 g2 g7 g9 g8 => ?_))
    refine jr_aload_n 0 108 dX9_odds_107 rfl rfl rfl ?_
    refine gf_X9_37 111 dX9_odds_108 rfl rfl rfl rfl ?_
    refine jr_aload_n 0 112 dX9_odds_111 rfl rfl rfl ?_
    refine gf_X9_44 115 dX9_odds_112 rfl rfl rfl rfl ?_
    refine jr_iload 117 dX9_odds_115 rfl rfl ?_
    refine jr_bipush (nI 10) 119 dX9_odds_117 rfl rfl ?_
    refine jr_idiv 120 dX9_odds_119 rfl (by decide) ?_
    rw [ediv]
    refine jr_bipush (nI 40) 122 dX9_odds_120 rfl rfl ?_
    refine cs_X9_308 125 dX9_odds_122 rfl rfl rfl (Nat.le_of_ble_eq_true rfl) (cplay_now (len := 40) (σR := (md_l σ nf (nI (s + i)) (nI c))) h hj (by omega) (jr_eqx_tr gc (jr_eqx_w g2 (by decide))) (par_lot h gc rfl rfl rfl g2 g7 g9 g8 hj) rfl rfl (fun σ3 g4 g5 => ?_))
    refine jr_iload 127 dX9_odds_125 rfl rfl ?_
    refine jr_aload_n 0 128 dX9_odds_127 rfl rfl rfl ?_
    refine gf_X9_37 131 dX9_odds_128 rfl rfl rfl rfl ?_
    refine jr_iload 133 dX9_odds_131 rfl rfl ?_
    refine jr_bipush (nI 10) 135 dX9_odds_133 rfl rfl ?_
    refine jr_idiv 136 dX9_odds_135 rfl (by decide) ?_
    rw [ediv]
    refine cs_X9_236 139 dX9_odds_136 rfl rfl rfl (Nat.le_of_ble_eq_true rfl) (wp_redSeconds (by omega) ?_)
    refine jr_topi (y := tr_rs (sm_R T lw nf nc kd se (md_l σ nf (nI (s + i)) (nI c)) (b / 10)) (pr_rf kd se σ (b / 10))) (pd_rs g5) ?_
    refine jr_if_le 146 142 dX9_odds_139 rfl rfl (fun q139 => ?_) (fun q139 => ?_)
    · refine jr_iconst (0) 147 dX9_odds_146 rfl rfl ?_
      refine jr_iadd 148 dX9_odds_147 rfl ?_
      have hp : ¬ (od_P T lw nf nc kd se σ (b / 10) s c) i := Int32.not_lt.mpr q139
      refine jr_topi (y := nI (cn (od_P T lw nf nc kd se σ (b / 10) s c) (i + 1))) (by rw [cn_f hp]; exact Int32.add_zero _) ?_
      refine jr_istore (L' := [_, _, _, _, _, _, _, _]) 150 dX9_odds_148 rfl (by decide) rfl ?_
      refine jr_iinc (v := nI (i + 1)) (L' := [_, _, _, _, _, _, _, _]) 153 dX9_odds_150 rfl rfl (nI_1 i) (by decide) rfl ?_
      refine jr_goto 82 dX9_odds_153 rfl ?_
      exact ih (i + 1) σ3 (by omega) g4
    · refine jr_iconst (1) 143 dX9_odds_142 rfl rfl ?_
      refine jr_goto 147 dX9_odds_143 rfl ?_
      refine jr_iadd 148 dX9_odds_147 rfl ?_
      have hp : (od_P T lw nf nc kd se σ (b / 10) s c) i := Int32.not_le.mp q139
      refine jr_topi (y := nI (cn (od_P T lw nf nc kd se σ (b / 10) s c) (i + 1))) (by rw [cn_t hp]; exact nI_1 _) ?_
      refine jr_istore (L' := [_, _, _, _, _, _, _, _]) 150 dX9_odds_148 rfl (by decide) rfl ?_
      refine jr_iinc (v := nI (i + 1)) (L' := [_, _, _, _, _, _, _, _]) 153 dX9_odds_150 rfl rfl (nI_1 i) (by decide) rfl ?_
      refine jr_goto 82 dX9_odds_153 rfl ?_
      exact ih (i + 1) σ3 (by omega) g4
theorem odds_r {G : jr_G} {d : Nat} {σ : jr_Sg} {k : Value → jr_Sg → Prop} {T : Nat → Nat → List Nat} {n nf nc lw tp s u c b : Nat} {kd se : Nat → Nat} (h : iv T n nf nc kd se lw tp σ) (hs : s ≤ 99999) (hu : u ≤ 20) (hc : c ≤ 400) (hb : b < 2 ^ 31) (hj : b / 10 < nf) {σ1 : jr_Sg} (g1 : jr_eqx iv_CX σ σ1) (fin : ∀ σ2 : jr_Sg, iv T n nf nc kd se lw tp σ2 → k (.long (ltC (cn (od_P T lw nf nc kd se σ (b / 10) s c) u) u (b % 10))) σ2) (hu0 : 0 < u) (hb2 : b % 10 < 2) : ∀ (m i : Nat) (σ2 : jr_Sg), i + m = u → iv T n nf nc kd se lw tp σ2 → (∀ a, a ∉ iv_RX → a ≠ 46 → σ2 a = σ1 a) → (∀ q, q ≠ 46 → σ2 46 q = σ1 46 q) → jr_R G (d + 20) mi_X10_odds (jr_k k) 76 [some (.ref 46), some (.int (nI s)), some (.int (nI u)), some (.int (nI c)), some (.int (nI b)), some (.int 1), some (.long (nL (cn (od_P T lw nf nc kd se σ (b / 10) s c) i))), none, some (.int (nI i))] [] σ2 := by
  have h5 : nf ≤ 5 := h.2.2.1.2.1.2.1
  have ediv : nI b / nI 10 = nI (b / 10) := pk_div hb (by omega) (by omega)
  have erem : nI b - nI b / nI 10 * nI 10 = nI (b % 10) := pk_rem hb (by omega) (by omega)
  intro m
  induction m with
  | zero =>
    intro i σ2 hi h2 e1 e2
    have ei : i = u := hi
    subst ei
    have hle := cn_le (Q := (od_P T lw nf nc kd se σ (b / 10) s c)) i
    refine jr_iload 78 dX10_odds_76 rfl rfl ?_
    refine jr_iload_n 2 79 dX10_odds_78 rfl rfl rfl ?_
    refine jr_icmp_ge 111 82 dX10_odds_79 rfl rfl (fun q79 => ?_) (fun q => absurd (Int32.le_refl _) q)
    refine jr_lload 113 dX10_odds_111 rfl rfl ?_
    refine jr_iload_n 2 114 dX10_odds_113 rfl rfl rfl ?_
    refine jr_i2l 115 dX10_odds_114 rfl ?_
    rw [show (nI i).toInt64 = nL i from nI_L ⟨i, by omega⟩]
    refine jr_iload 117 dX10_odds_115 rfl rfl ?_
    refine jr_bipush (nI 10) 119 dX10_odds_117 rfl rfl ?_
    refine jr_irem 120 dX10_odds_119 rfl (by decide) ?_
    rw [erem]
    refine cs_X10_315 123 dX10_odds_120 rfl rfl (Nat.le_of_ble_eq_true rfl) (wp_lowest (by omega) hu hu0 hb2 ?_)
    refine jr_lreturn dX10_odds_123 rfl ?_
    exact fin σ2 h2
  | succ m ih =>
    intro i σ2 hi h2 e1 e2
    have hle := cn_le (Q := (od_P T lw nf nc kd se σ (b / 10) s c)) i
    have r2 := rr_of h2
    have eE : er T lw nf nc kd se (md_l σ2 nf (nI (s + i)) (nI c)) = er T lw nf nc kd se (md_l σ nf (nI (s + i)) (nI c)) := (er_ag (ag_l e1 e2)).trans (er_x (cx_l g1 nf (nI (s + i)) (nI c)) (by decide))
    have eP : ∀ x : Int32, (if 0 < tr_rs (sm_R T lw nf nc kd se (md_l σ nf (nI (s + i)) (nI c)) (b / 10)) (pr_rf kd se (md_l σ nf (nI (s + i)) (nI c)) (b / 10)) then (1 : Int32) else 0) = x → nL (cn (od_P T lw nf nc kd se σ (b / 10) s c) i) + x.toInt64 = nL (cn (od_P T lw nf nc kd se σ (b / 10) s c) (i + 1)) := fun x ex => by
      have hl2 := cn_le (Q := (od_P T lw nf nc kd se σ (b / 10) s c)) i
      by_cases hp : 0 < tr_rs (sm_R T lw nf nc kd se (md_l σ nf (nI (s + i)) (nI c)) (b / 10)) (pr_rf kd se (md_l σ nf (nI (s + i)) (nI c)) (b / 10))
      · rw [if_pos hp] at ex
        rw [← ex, cn_t (Q := (od_P T lw nf nc kd se σ (b / 10) s c)) hp]; exact nL_succ ⟨_, by omega⟩
      · rw [if_neg hp] at ex
        rw [← ex, cn_f (Q := (od_P T lw nf nc kd se σ (b / 10) s c)) hp]; exact nL_same ⟨_, by omega⟩
    refine jr_iload 78 dX10_odds_76 rfl rfl ?_
    refine jr_iload_n 2 79 dX10_odds_78 rfl rfl rfl ?_
    refine jr_icmp_ge 111 82 dX10_odds_79 rfl rfl (fun q => absurd q (nI_ge (by omega) (by omega))) (fun q79 => ?_)
    refine jr_lload 84 dX10_odds_82 rfl rfl ?_
    refine jr_aload_n 0 85 dX10_odds_84 rfl rfl rfl ?_
    refine jr_iload_n 1 86 dX10_odds_85 rfl rfl rfl ?_
    refine jr_iload 88 dX10_odds_86 rfl rfl ?_
    refine jr_iadd 89 dX10_odds_88 rfl ?_
    rw [nI_add]
    refine jr_iload_n 3 90 dX10_odds_89 rfl rfl rfl ?_
    refine cs_X10_335 93 dX10_odds_90 rfl rfl rfl (Nat.le_of_ble_eq_true rfl) (wp_redBy r2 hc (fun f hf => (h2.2.2.2.2.2.2.1.2.2.2.2 f hf).2) (fun σ5 e7 e8 e9 => ?_))
    rw [eE]
    refine jr_iload 95 dX10_odds_93 rfl rfl ?_
    refine jr_bipush (nI 10) 97 dX10_odds_95 rfl rfl ?_
    refine jr_idiv 98 dX10_odds_97 rfl (by decide) ?_
    rw [ediv]
    refine jr_ishr 99 dX10_odds_98 rfl ?_
    refine jr_iconst (1) 100 dX10_odds_99 rfl rfl ?_
    refine jr_iand 101 dX10_odds_100 rfl ?_
    refine jr_topi (y := if 0 < tr_rs (sm_R T lw nf nc kd se (md_l σ nf (nI (s + i)) (nI c)) (b / 10)) (pr_rf kd se (md_l σ nf (nI (s + i)) (nI c)) (b / 10)) then (1 : Int32) else 0) (bit_of h5 hj) ?_
    refine jr_i2l 102 dX10_odds_101 rfl ?_
    refine jr_ladd 103 dX10_odds_102 rfl ?_
    rw [eP _ rfl]
    refine jr_lstore (L' := [_, _, _, _, _, _, _, _, _]) 105 dX10_odds_103 rfl (by decide) rfl ?_
    refine jr_iinc (v := nI (i + 1)) (L' := [_, _, _, _, _, _, _, _, _]) 108 dX10_odds_105 rfl rfl (nI_1 i) (by decide) rfl ?_
    refine jr_goto 76 dX10_odds_108 rfl ?_
    refine ih (i + 1) σ5 (by omega) (iv_lot h2 (fun a ha => ?_) (fun q hq hq2 => e8 q hq2) ⟨c, hc, e9⟩) (fun a ha ha2 => (e7 a ha ha2).trans (e1 a ha ha2)) (fun q hq => (e8 q hq).trans (e2 q hq))
    have hx : a ∉ iv_RX ∧ a ≠ 46 := by revert a; decide
    exact e7 a hx.1 hx.2
theorem pp_odds {G : jr_G} {d : Nat} {σ : jr_Sg} {a v c e : Int32} (h : IV σ) : jr_pair G (d + 20) mi_X9_odds mi_X10_odds [.int a, .int v, .int c, .int e] σ := by
  obtain ⟨T, n, nf, nc, kd, se, lw, tp, h⟩ := h
  have hh := h
  obtain ⟨hTC, hTR, ⟨hsc, hsr, hl1, hl2, hlw, hfc, hli, hca⟩, htp, himg, hsh, hrest, hwd⟩ := hh
  have hnf := hsc.1
  have h5 := hsc.2.1
  have hnc := hsc.2.2.1
  have h8 := hsc.2.2.2.1
  have rnf := hsr.1
  have rnc := hsr.2.2.1
  have hlm := hrest.2.2.2.1
  unfold jr_pair
  rcases jr_rg a (m := 99999) (by decide) with qs | ⟨s, hs, rfl⟩
  · refine jr_enter (L := [some (.ref 0), some (.int a), some (.int v), some (.int c), some (.int e), none, none, none]) (by decide) (Nat.le_of_ble_eq_true rfl) rfl ?_
    refine jr_iload_n 1 1 dX9_odds_0 rfl rfl rfl ?_
    refine jr_ldcw kc_X9_304 4 dX9_odds_1 rfl ?_
    refine cs_X9_104 7 dX9_odds_4 rfl rfl (Nat.le_of_ble_eq_true rfl) (wp_wiF qs ?_)
    refine jr_if_eq 49 10 dX9_odds_7 rfl rfl (fun q7 => ?_) (fun q => absurd (by decide) q)
    refine jr_iconst (0) 50 dX9_odds_49 rfl rfl ?_
    refine jr_istore (L' := [_, _, _, _, _, _, _, _]) 52 dX9_odds_50 rfl (by decide) rfl ?_
    refine jr_iload 54 dX9_odds_52 rfl rfl ?_
    refine jr_if_eq 72 57 dX9_odds_54 rfl rfl (fun q54 => ?_) (fun q => absurd (by decide) q)
    refine jr_ldc2 kc_X9_278 75 dX9_odds_72 rfl ?_
    refine jr_lreturn dX9_odds_75 rfl ?_
    refine jr_enter (L := [some (.ref 46), some (.int a), some (.int v), some (.int c), some (.int e), none, none, none, none]) (by decide) (Nat.le_of_ble_eq_true rfl) rfl ?_
    refine jr_iload_n 1 1 dX10_odds_0 rfl rfl rfl ?_
    refine jr_iconst (0) 2 dX10_odds_1 rfl rfl ?_
    refine jr_ldcw kc_X10_334 5 dX10_odds_2 rfl ?_
    refine cs_X10_108 8 dX10_odds_5 rfl rfl (Nat.le_of_ble_eq_true rfl) (wp_inF qs ?_)
    refine jr_if_eq 58 11 dX10_odds_8 rfl rfl (fun q8 => ?_) (fun q => absurd (by decide) q)
    refine jr_iconst (0) 59 dX10_odds_58 rfl rfl ?_
    refine jr_istore (L' := [_, _, _, _, _, _, _, _, _]) 61 dX10_odds_59 rfl (by decide) rfl ?_
    refine jr_iload 63 dX10_odds_61 rfl rfl ?_
    refine jr_if_ne 70 66 dX10_odds_63 rfl rfl (fun q => absurd (by decide) q) (fun q63 => ?_)
    refine jr_ldc2 kc_X10_313 69 dX10_odds_66 rfl ?_
    refine jr_lreturn dX10_odds_69 rfl ?_
    exact ⟨rfl, IV_mov (iv_same_x (jr_eqx_rf [] _) (by decide)) h⟩
  · by_cases v1 : v < 1
    · refine jr_enter (L := [some (.ref 0), some (.int (nI s)), some (.int v), some (.int c), some (.int e), none, none, none]) (by decide) (Nat.le_of_ble_eq_true rfl) rfl ?_
      refine jr_iload_n 1 1 dX9_odds_0 rfl rfl rfl ?_
      refine jr_ldcw kc_X9_304 4 dX9_odds_1 rfl ?_
      refine cs_X9_104 7 dX9_odds_4 rfl rfl (Nat.le_of_ble_eq_true rfl) (wp_wiT hs (by decide) rfl ?_)
      refine jr_if_eq 49 10 dX9_odds_7 rfl rfl (fun q => absurd q (by decide)) (fun q7 => ?_)
      refine jr_iload_n 2 11 dX9_odds_10 rfl rfl rfl ?_
      refine jr_iconst (1) 12 dX9_odds_11 rfl rfl ?_
      refine jr_icmp_lt 49 15 dX9_odds_12 rfl rfl (fun q12 => ?_) (fun q => absurd v1 q)
      refine jr_iconst (0) 50 dX9_odds_49 rfl rfl ?_
      refine jr_istore (L' := [_, _, _, _, _, _, _, _]) 52 dX9_odds_50 rfl (by decide) rfl ?_
      refine jr_iload 54 dX9_odds_52 rfl rfl ?_
      refine jr_if_eq 72 57 dX9_odds_54 rfl rfl (fun q54 => ?_) (fun q => absurd (by decide) q)
      refine jr_ldc2 kc_X9_278 75 dX9_odds_72 rfl ?_
      refine jr_lreturn dX9_odds_75 rfl ?_
      refine jr_enter (L := [some (.ref 46), some (.int (nI s)), some (.int v), some (.int c), some (.int e), none, none, none, none]) (by decide) (Nat.le_of_ble_eq_true rfl) rfl ?_
      refine jr_iload_n 1 1 dX10_odds_0 rfl rfl rfl ?_
      refine jr_iconst (0) 2 dX10_odds_1 rfl rfl ?_
      refine jr_ldcw kc_X10_334 5 dX10_odds_2 rfl ?_
      refine cs_X10_108 8 dX10_odds_5 rfl rfl (Nat.le_of_ble_eq_true rfl) (wp_inT hs (by decide) rfl ?_)
      refine jr_if_eq 58 11 dX10_odds_8 rfl rfl (fun q => absurd q (by decide)) (fun q8 => ?_)
      refine jr_iload_n 2 12 dX10_odds_11 rfl rfl rfl ?_
      refine jr_iconst (1) 13 dX10_odds_12 rfl rfl ?_
      refine jr_bipush (20) 15 dX10_odds_13 rfl rfl ?_
      refine cs_X10_108 18 dX10_odds_15 rfl rfl (Nat.le_of_ble_eq_true rfl) (wp_in (fun q _ => absurd v1 (Int32.not_lt.mpr q)) (fun _ => ?_))
      refine jr_if_eq 58 21 dX10_odds_18 rfl rfl (fun q18 => ?_) (fun q => absurd (by decide) q)
      refine jr_iconst (0) 59 dX10_odds_58 rfl rfl ?_
      refine jr_istore (L' := [_, _, _, _, _, _, _, _, _]) 61 dX10_odds_59 rfl (by decide) rfl ?_
      refine jr_iload 63 dX10_odds_61 rfl rfl ?_
      refine jr_if_ne 70 66 dX10_odds_63 rfl rfl (fun q => absurd (by decide) q) (fun q63 => ?_)
      refine jr_ldc2 kc_X10_313 69 dX10_odds_66 rfl ?_
      refine jr_lreturn dX10_odds_69 rfl ?_
      exact ⟨rfl, IV_mov (iv_same_x (jr_eqx_rf [] _) (by decide)) h⟩
    · by_cases v2 : 20 < v
      · refine jr_enter (L := [some (.ref 0), some (.int (nI s)), some (.int v), some (.int c), some (.int e), none, none, none]) (by decide) (Nat.le_of_ble_eq_true rfl) rfl ?_
        refine jr_iload_n 1 1 dX9_odds_0 rfl rfl rfl ?_
        refine jr_ldcw kc_X9_304 4 dX9_odds_1 rfl ?_
        refine cs_X9_104 7 dX9_odds_4 rfl rfl (Nat.le_of_ble_eq_true rfl) (wp_wiT hs (by decide) rfl ?_)
        refine jr_if_eq 49 10 dX9_odds_7 rfl rfl (fun q => absurd q (by decide)) (fun q7 => ?_)
        refine jr_iload_n 2 11 dX9_odds_10 rfl rfl rfl ?_
        refine jr_iconst (1) 12 dX9_odds_11 rfl rfl ?_
        refine jr_icmp_lt 49 15 dX9_odds_12 rfl rfl (fun q => absurd q v1) (fun q12 => ?_)
        refine jr_iload_n 2 16 dX9_odds_15 rfl rfl rfl ?_
        refine jr_bipush (20) 18 dX9_odds_16 rfl rfl ?_
        refine jr_icmp_gt 49 21 dX9_odds_18 rfl rfl (fun q18 => ?_) (fun q => absurd v2 q)
        refine jr_iconst (0) 50 dX9_odds_49 rfl rfl ?_
        refine jr_istore (L' := [_, _, _, _, _, _, _, _]) 52 dX9_odds_50 rfl (by decide) rfl ?_
        refine jr_iload 54 dX9_odds_52 rfl rfl ?_
        refine jr_if_eq 72 57 dX9_odds_54 rfl rfl (fun q54 => ?_) (fun q => absurd (by decide) q)
        refine jr_ldc2 kc_X9_278 75 dX9_odds_72 rfl ?_
        refine jr_lreturn dX9_odds_75 rfl ?_
        refine jr_enter (L := [some (.ref 46), some (.int (nI s)), some (.int v), some (.int c), some (.int e), none, none, none, none]) (by decide) (Nat.le_of_ble_eq_true rfl) rfl ?_
        refine jr_iload_n 1 1 dX10_odds_0 rfl rfl rfl ?_
        refine jr_iconst (0) 2 dX10_odds_1 rfl rfl ?_
        refine jr_ldcw kc_X10_334 5 dX10_odds_2 rfl ?_
        refine cs_X10_108 8 dX10_odds_5 rfl rfl (Nat.le_of_ble_eq_true rfl) (wp_inT hs (by decide) rfl ?_)
        refine jr_if_eq 58 11 dX10_odds_8 rfl rfl (fun q => absurd q (by decide)) (fun q8 => ?_)
        refine jr_iload_n 2 12 dX10_odds_11 rfl rfl rfl ?_
        refine jr_iconst (1) 13 dX10_odds_12 rfl rfl ?_
        refine jr_bipush (20) 15 dX10_odds_13 rfl rfl ?_
        refine cs_X10_108 18 dX10_odds_15 rfl rfl (Nat.le_of_ble_eq_true rfl) (wp_in (fun _ q => absurd v2 (Int32.not_lt.mpr q)) (fun _ => ?_))
        refine jr_if_eq 58 21 dX10_odds_18 rfl rfl (fun q18 => ?_) (fun q => absurd (by decide) q)
        refine jr_iconst (0) 59 dX10_odds_58 rfl rfl ?_
        refine jr_istore (L' := [_, _, _, _, _, _, _, _, _]) 61 dX10_odds_59 rfl (by decide) rfl ?_
        refine jr_iload 63 dX10_odds_61 rfl rfl ?_
        refine jr_if_ne 70 66 dX10_odds_63 rfl rfl (fun q => absurd (by decide) q) (fun q63 => ?_)
        refine jr_ldc2 kc_X10_313 69 dX10_odds_66 rfl ?_
        refine jr_lreturn dX10_odds_69 rfl ?_
        exact ⟨rfl, IV_mov (iv_same_x (jr_eqx_rf [] _) (by decide)) h⟩
      · have hv : ∃ u : Nat, 1 ≤ u ∧ u ≤ 20 ∧ v = nI u := by
          rcases jr_rg v (m := 20) (by decide) with q | ⟨u, hu, rfl⟩
          · exact absurd ⟨Int32.le_trans (by decide) (Int32.not_lt.mp v1), Int32.not_lt.mp v2⟩ q
          · refine ⟨u, ?_, hu, rfl⟩
            rcases Nat.eq_zero_or_pos u with rfl | z
            · exact absurd (by decide) v1
            · exact z
        obtain ⟨u, hu1, hu, rfl⟩ := hv
        rcases jr_rg c (m := 400) (by decide) with qc2 | ⟨c2, hc2, rfl⟩
        · refine jr_enter (L := [some (.ref 0), some (.int (nI s)), some (.int (nI u)), some (.int c), some (.int e), none, none, none]) (by decide) (Nat.le_of_ble_eq_true rfl) rfl ?_
          refine jr_iload_n 1 1 dX9_odds_0 rfl rfl rfl ?_
          refine jr_ldcw kc_X9_304 4 dX9_odds_1 rfl ?_
          refine cs_X9_104 7 dX9_odds_4 rfl rfl (Nat.le_of_ble_eq_true rfl) (wp_wiT hs (by decide) rfl ?_)
          refine jr_if_eq 49 10 dX9_odds_7 rfl rfl (fun q => absurd q (by decide)) (fun q7 => ?_)
          refine jr_iload_n 2 11 dX9_odds_10 rfl rfl rfl ?_
          refine jr_iconst (1) 12 dX9_odds_11 rfl rfl ?_
          refine jr_icmp_lt 49 15 dX9_odds_12 rfl rfl (fun q => absurd q v1) (fun q12 => ?_)
          refine jr_iload_n 2 16 dX9_odds_15 rfl rfl rfl ?_
          refine jr_bipush (20) 18 dX9_odds_16 rfl rfl ?_
          refine jr_icmp_gt 49 21 dX9_odds_18 rfl rfl (fun q => absurd q v2) (fun q18 => ?_)
          refine jr_iload_n 3 22 dX9_odds_21 rfl rfl rfl ?_
          refine jr_sipush (400) 25 dX9_odds_22 rfl rfl ?_
          refine cs_X9_104 28 dX9_odds_25 rfl rfl (Nat.le_of_ble_eq_true rfl) (wp_wiF qc2 ?_)
          refine jr_if_eq 49 31 dX9_odds_28 rfl rfl (fun q28 => ?_) (fun q => absurd (by decide) q)
          refine jr_iconst (0) 50 dX9_odds_49 rfl rfl ?_
          refine jr_istore (L' := [_, _, _, _, _, _, _, _]) 52 dX9_odds_50 rfl (by decide) rfl ?_
          refine jr_iload 54 dX9_odds_52 rfl rfl ?_
          refine jr_if_eq 72 57 dX9_odds_54 rfl rfl (fun q54 => ?_) (fun q => absurd (by decide) q)
          refine jr_ldc2 kc_X9_278 75 dX9_odds_72 rfl ?_
          refine jr_lreturn dX9_odds_75 rfl ?_
          refine jr_enter (L := [some (.ref 46), some (.int (nI s)), some (.int (nI u)), some (.int c), some (.int e), none, none, none, none]) (by decide) (Nat.le_of_ble_eq_true rfl) rfl ?_
          refine jr_iload_n 1 1 dX10_odds_0 rfl rfl rfl ?_
          refine jr_iconst (0) 2 dX10_odds_1 rfl rfl ?_
          refine jr_ldcw kc_X10_334 5 dX10_odds_2 rfl ?_
          refine cs_X10_108 8 dX10_odds_5 rfl rfl (Nat.le_of_ble_eq_true rfl) (wp_inT hs (by decide) rfl ?_)
          refine jr_if_eq 58 11 dX10_odds_8 rfl rfl (fun q => absurd q (by decide)) (fun q8 => ?_)
          refine jr_iload_n 2 12 dX10_odds_11 rfl rfl rfl ?_
          refine jr_iconst (1) 13 dX10_odds_12 rfl rfl ?_
          refine jr_bipush (20) 15 dX10_odds_13 rfl rfl ?_
          refine cs_X10_108 18 dX10_odds_15 rfl rfl (Nat.le_of_ble_eq_true rfl) (wp_in (fun _ _ => ?_) (fun q => absurd ⟨Int32.not_lt.mp v1, Int32.not_lt.mp v2⟩ q))
          refine jr_if_eq 58 21 dX10_odds_18 rfl rfl (fun q => absurd q (by decide)) (fun q18 => ?_)
          refine jr_iload_n 3 22 dX10_odds_21 rfl rfl rfl ?_
          refine cs_X10_191 25 dX10_odds_22 rfl rfl (Nat.le_of_ble_eq_true rfl) (wp_risMuch (fun a b => absurd ⟨a, b⟩ qc2) (fun _ => ?_))
          refine jr_if_eq 58 28 dX10_odds_25 rfl rfl (fun q25 => ?_) (fun q => absurd (by decide) q)
          refine jr_iconst (0) 59 dX10_odds_58 rfl rfl ?_
          refine jr_istore (L' := [_, _, _, _, _, _, _, _, _]) 61 dX10_odds_59 rfl (by decide) rfl ?_
          refine jr_iload 63 dX10_odds_61 rfl rfl ?_
          refine jr_if_ne 70 66 dX10_odds_63 rfl rfl (fun q => absurd (by decide) q) (fun q63 => ?_)
          refine jr_ldc2 kc_X10_313 69 dX10_odds_66 rfl ?_
          refine jr_lreturn dX10_odds_69 rfl ?_
          exact ⟨rfl, IV_mov (iv_same_x (jr_eqx_rf [] _) (by decide)) h⟩
        · by_cases he : e < 0
          · refine jr_enter (L := [some (.ref 0), some (.int (nI s)), some (.int (nI u)), some (.int (nI c2)), some (.int e), none, none, none]) (by decide) (Nat.le_of_ble_eq_true rfl) rfl ?_
            refine jr_iload_n 1 1 dX9_odds_0 rfl rfl rfl ?_
            refine jr_ldcw kc_X9_304 4 dX9_odds_1 rfl ?_
            refine cs_X9_104 7 dX9_odds_4 rfl rfl (Nat.le_of_ble_eq_true rfl) (wp_wiT hs (by decide) rfl ?_)
            refine jr_if_eq 49 10 dX9_odds_7 rfl rfl (fun q => absurd q (by decide)) (fun q7 => ?_)
            refine jr_iload_n 2 11 dX9_odds_10 rfl rfl rfl ?_
            refine jr_iconst (1) 12 dX9_odds_11 rfl rfl ?_
            refine jr_icmp_lt 49 15 dX9_odds_12 rfl rfl (fun q => absurd q v1) (fun q12 => ?_)
            refine jr_iload_n 2 16 dX9_odds_15 rfl rfl rfl ?_
            refine jr_bipush (20) 18 dX9_odds_16 rfl rfl ?_
            refine jr_icmp_gt 49 21 dX9_odds_18 rfl rfl (fun q => absurd q v2) (fun q18 => ?_)
            refine jr_iload_n 3 22 dX9_odds_21 rfl rfl rfl ?_
            refine jr_sipush (400) 25 dX9_odds_22 rfl rfl ?_
            refine cs_X9_104 28 dX9_odds_25 rfl rfl (Nat.le_of_ble_eq_true rfl) (wp_wiT hc2 (by decide) rfl ?_)
            refine jr_if_eq 49 31 dX9_odds_28 rfl rfl (fun q => absurd q (by decide)) (fun q28 => ?_)
            refine jr_iload 33 dX9_odds_31 rfl rfl ?_
            refine jr_if_lt 49 36 dX9_odds_33 rfl rfl (fun q33 => ?_) (fun q => absurd he q)
            refine jr_iconst (0) 50 dX9_odds_49 rfl rfl ?_
            refine jr_istore (L' := [_, _, _, _, _, _, _, _]) 52 dX9_odds_50 rfl (by decide) rfl ?_
            refine jr_iload 54 dX9_odds_52 rfl rfl ?_
            refine jr_if_eq 72 57 dX9_odds_54 rfl rfl (fun q54 => ?_) (fun q => absurd (by decide) q)
            refine jr_ldc2 kc_X9_278 75 dX9_odds_72 rfl ?_
            refine jr_lreturn dX9_odds_75 rfl ?_
            refine jr_enter (L := [some (.ref 46), some (.int (nI s)), some (.int (nI u)), some (.int (nI c2)), some (.int e), none, none, none, none]) (by decide) (Nat.le_of_ble_eq_true rfl) rfl ?_
            refine jr_iload_n 1 1 dX10_odds_0 rfl rfl rfl ?_
            refine jr_iconst (0) 2 dX10_odds_1 rfl rfl ?_
            refine jr_ldcw kc_X10_334 5 dX10_odds_2 rfl ?_
            refine cs_X10_108 8 dX10_odds_5 rfl rfl (Nat.le_of_ble_eq_true rfl) (wp_inT hs (by decide) rfl ?_)
            refine jr_if_eq 58 11 dX10_odds_8 rfl rfl (fun q => absurd q (by decide)) (fun q8 => ?_)
            refine jr_iload_n 2 12 dX10_odds_11 rfl rfl rfl ?_
            refine jr_iconst (1) 13 dX10_odds_12 rfl rfl ?_
            refine jr_bipush (20) 15 dX10_odds_13 rfl rfl ?_
            refine cs_X10_108 18 dX10_odds_15 rfl rfl (Nat.le_of_ble_eq_true rfl) (wp_in (fun _ _ => ?_) (fun q => absurd ⟨Int32.not_lt.mp v1, Int32.not_lt.mp v2⟩ q))
            refine jr_if_eq 58 21 dX10_odds_18 rfl rfl (fun q => absurd q (by decide)) (fun q18 => ?_)
            refine jr_iload_n 3 22 dX10_odds_21 rfl rfl rfl ?_
            refine cs_X10_191 25 dX10_odds_22 rfl rfl (Nat.le_of_ble_eq_true rfl) (wp_risMuch (fun _ _ => ?_) (fun q => absurd ⟨nI_pos' (by omega), nI_le (b := 400) hc2 (by omega)⟩ q))
            refine jr_if_eq 58 28 dX10_odds_25 rfl rfl (fun q => absurd q (by decide)) (fun q25 => ?_)
            refine jr_iload 30 dX10_odds_28 rfl rfl ?_
            refine jr_if_lt 58 33 dX10_odds_30 rfl rfl (fun q30 => ?_) (fun q => absurd he q)
            refine jr_iconst (0) 59 dX10_odds_58 rfl rfl ?_
            refine jr_istore (L' := [_, _, _, _, _, _, _, _, _]) 61 dX10_odds_59 rfl (by decide) rfl ?_
            refine jr_iload 63 dX10_odds_61 rfl rfl ?_
            refine jr_if_ne 70 66 dX10_odds_63 rfl rfl (fun q => absurd (by decide) q) (fun q63 => ?_)
            refine jr_ldc2 kc_X10_313 69 dX10_odds_66 rfl ?_
            refine jr_lreturn dX10_odds_69 rfl ?_
            exact ⟨rfl, IV_mov (iv_same_x (jr_eqx_rf [] _) (by decide)) h⟩
          · obtain ⟨b, hb, rfl⟩ := nI_of he
            have ediv : nI b / nI 10 = nI (b / 10) := pk_div hb (by omega) (by omega)
            have erem : nI b - nI b / nI 10 * nI 10 = nI (b % 10) := pk_rem hb (by omega) (by omega)
            by_cases hj : b / 10 < nf
            · by_cases hb2 : b % 10 < 2
              · refine jr_enter (L := [some (.ref 0), some (.int (nI s)), some (.int (nI u)), some (.int (nI c2)), some (.int (nI b)), none, none, none]) (by decide) (Nat.le_of_ble_eq_true rfl) rfl ?_
                refine jr_iload_n 1 1 dX9_odds_0 rfl rfl rfl ?_
                refine jr_ldcw kc_X9_304 4 dX9_odds_1 rfl ?_
                refine cs_X9_104 7 dX9_odds_4 rfl rfl (Nat.le_of_ble_eq_true rfl) (wp_wiT hs (by decide) rfl ?_)
                refine jr_if_eq 49 10 dX9_odds_7 rfl rfl (fun q => absurd q (by decide)) (fun q7 => ?_)
                refine jr_iload_n 2 11 dX9_odds_10 rfl rfl rfl ?_
                refine jr_iconst (nI 1) 12 dX9_odds_11 rfl rfl ?_
                refine jr_icmp_lt 49 15 dX9_odds_12 rfl rfl (fun q => absurd q v1) (fun q12 => ?_)
                refine jr_iload_n 2 16 dX9_odds_15 rfl rfl rfl ?_
                refine jr_bipush (nI 20) 18 dX9_odds_16 rfl rfl ?_
                refine jr_icmp_gt 49 21 dX9_odds_18 rfl rfl (fun q => absurd q v2) (fun q18 => ?_)
                refine jr_iload_n 3 22 dX9_odds_21 rfl rfl rfl ?_
                refine jr_sipush (nI 400) 25 dX9_odds_22 rfl rfl ?_
                refine cs_X9_104 28 dX9_odds_25 rfl rfl (Nat.le_of_ble_eq_true rfl) (wp_wiT hc2 (by decide) rfl ?_)
                refine jr_if_eq 49 31 dX9_odds_28 rfl rfl (fun q => absurd q (by decide)) (fun q28 => ?_)
                refine jr_iload 33 dX9_odds_31 rfl rfl ?_
                refine jr_if_lt 49 36 dX9_odds_33 rfl rfl (fun q => absurd q he) (fun q33 => ?_)
                refine jr_iload 38 dX9_odds_36 rfl rfl ?_
                refine jr_bipush (nI 10) 40 dX9_odds_38 rfl rfl ?_
                refine jr_irem 41 dX9_odds_40 rfl (by decide) ?_
                rw [erem]
                refine jr_iconst (nI 1) 42 dX9_odds_41 rfl rfl ?_
                refine jr_icmp_gt 49 45 dX9_odds_42 rfl rfl (fun q => absurd q (Int32.not_lt.mpr (nI_le (b := 1) (by omega) (by omega)))) (fun q42 => ?_)
                refine jr_iconst (1) 46 dX9_odds_45 rfl rfl ?_
                refine jr_goto 50 dX9_odds_46 rfl ?_
                refine jr_istore (L' := [_, _, _, _, _, _, _, _]) 52 dX9_odds_50 rfl (by decide) rfl ?_
                refine jr_iload 54 dX9_odds_52 rfl rfl ?_
                refine jr_if_eq 72 57 dX9_odds_54 rfl rfl (fun q => absurd q (by decide)) (fun q54 => ?_)
                refine jr_aload_n 0 58 dX9_odds_57 rfl rfl rfl ?_
                refine gf_X9_44 61 dX9_odds_58 rfl rfl rfl rfl ?_
                refine jr_iload 63 dX9_odds_61 rfl rfl ?_
                refine jr_bipush (nI 10) 65 dX9_odds_63 rfl rfl ?_
                refine jr_idiv 66 dX9_odds_65 rfl (by decide) ?_
                rw [ediv]
                refine cs_X9_146 69 dX9_odds_66 rfl rfl rfl (Nat.le_of_ble_eq_true rfl) (wp_hasT_15 hnf h5 hj ?_)
                refine jr_if_ne 76 72 dX9_odds_69 rfl rfl (fun q69 => ?_) (fun q => absurd q (by decide))
                refine jr_iconst (nI 0) 77 dX9_odds_76 rfl rfl ?_
                refine jr_istore (L' := [_, _, _, _, _, _, _, _]) 79 dX9_odds_77 rfl (by decide) rfl ?_
                refine jr_iconst (nI 0) 80 dX9_odds_79 rfl rfl ?_
                refine jr_istore (L' := [_, _, _, _, _, _, _, _]) 82 dX9_odds_80 rfl (by decide) rfl ?_
                refine odds_x h hs hu hc2 hb hj (fun σ1 g1 => ?_) (by omega) hb2 u 0 σ (Nat.zero_add _) (jr_eqx_rf _ _)
                have h1 := iv_mov (iv_cx g1) h
                have r1 := rr_of h1
                refine jr_enter (L := [some (.ref 46), some (.int (nI s)), some (.int (nI u)), some (.int (nI c2)), some (.int (nI b)), none, none, none, none]) (by decide) (Nat.le_of_ble_eq_true rfl) rfl ?_
                refine jr_iload_n 1 1 dX10_odds_0 rfl rfl rfl ?_
                refine jr_iconst (nI 0) 2 dX10_odds_1 rfl rfl ?_
                refine jr_ldcw kc_X10_334 5 dX10_odds_2 rfl ?_
                refine cs_X10_108 8 dX10_odds_5 rfl rfl (Nat.le_of_ble_eq_true rfl) (wp_inT hs (by decide) rfl ?_)
                refine jr_if_eq 58 11 dX10_odds_8 rfl rfl (fun q => absurd q (by decide)) (fun q8 => ?_)
                refine jr_iload_n 2 12 dX10_odds_11 rfl rfl rfl ?_
                refine jr_iconst (nI 1) 13 dX10_odds_12 rfl rfl ?_
                refine jr_bipush (nI 20) 15 dX10_odds_13 rfl rfl ?_
                refine cs_X10_108 18 dX10_odds_15 rfl rfl (Nat.le_of_ble_eq_true rfl) (wp_in (fun _ _ => ?_) (fun q => absurd ⟨Int32.not_lt.mp v1, Int32.not_lt.mp v2⟩ q))
                refine jr_if_eq 58 21 dX10_odds_18 rfl rfl (fun q => absurd q (by decide)) (fun q18 => ?_)
                refine jr_iload_n 3 22 dX10_odds_21 rfl rfl rfl ?_
                refine cs_X10_191 25 dX10_odds_22 rfl rfl (Nat.le_of_ble_eq_true rfl) (wp_risMuch (fun _ _ => ?_) (fun q => absurd ⟨nI_pos' (by omega), nI_le (b := 400) hc2 (by omega)⟩ q))
                refine jr_if_eq 58 28 dX10_odds_25 rfl rfl (fun q => absurd q (by decide)) (fun q25 => ?_)
                refine jr_iload 30 dX10_odds_28 rfl rfl ?_
                refine jr_if_lt 58 33 dX10_odds_30 rfl rfl (fun q => absurd q he) (fun q30 => ?_)
                refine jr_aload_n 0 34 dX10_odds_33 rfl rfl rfl ?_
                refine jr_iload 36 dX10_odds_34 rfl rfl ?_
                refine jr_bipush (nI 10) 38 dX10_odds_36 rfl rfl ?_
                refine jr_idiv 39 dX10_odds_38 rfl (by decide) ?_
                rw [ediv]
                refine cs_X10_204 42 dX10_odds_39 rfl rfl rfl (Nat.le_of_ble_eq_true rfl) (wp_isFace r1.1.1 h5 (fun _ _ _ => ?_) (fun q => absurd q (jr_fcn hj (by omega))))
                refine jr_if_eq 58 45 dX10_odds_42 rfl rfl (fun q => absurd q (by decide)) (fun q42 => ?_)
                refine jr_iload 47 dX10_odds_45 rfl rfl ?_
                refine jr_bipush (nI 10) 49 dX10_odds_47 rfl rfl ?_
                refine jr_irem 50 dX10_odds_49 rfl (by decide) ?_
                rw [erem]
                refine jr_iconst (nI 2) 51 dX10_odds_50 rfl rfl ?_
                refine jr_icmp_ge 58 54 dX10_odds_51 rfl rfl (fun q => absurd q (nI_ge (b := 2) hb2 (by omega))) (fun q51 => ?_)
                refine jr_iconst (1) 55 dX10_odds_54 rfl rfl ?_
                refine jr_goto 59 dX10_odds_55 rfl ?_
                refine jr_istore (L' := [_, _, _, _, _, _, _, _, _]) 61 dX10_odds_59 rfl (by decide) rfl ?_
                refine jr_iload 63 dX10_odds_61 rfl rfl ?_
                refine jr_if_ne 70 66 dX10_odds_63 rfl rfl (fun q63 => ?_) (fun q => absurd q (by decide))
                refine jr_lconst (0) 71 dX10_odds_70 rfl rfl ?_
                refine jr_lstore (L' := [_, _, _, _, _, _, _, _, _]) 73 dX10_odds_71 rfl (by decide) rfl ?_
                refine jr_iconst (nI 0) 74 dX10_odds_73 rfl rfl ?_
                refine jr_istore (L' := [_, _, _, _, _, _, _, _, _]) 76 dX10_odds_74 rfl (by decide) rfl ?_
                refine odds_r h hs hu hc2 hb hj g1 (fun σ2 h2 => ?_) (by omega) hb2 u 0 σ1 (Nat.zero_add _) h1 (fun _ _ _ => rfl) (fun _ _ => rfl)
                exact ⟨rfl, T, n, nf, nc, kd, se, lw, tp, h2⟩
              · refine jr_enter (L := [some (.ref 0), some (.int (nI s)), some (.int (nI u)), some (.int (nI c2)), some (.int (nI b)), none, none, none]) (by decide) (Nat.le_of_ble_eq_true rfl) rfl ?_
                refine jr_iload_n 1 1 dX9_odds_0 rfl rfl rfl ?_
                refine jr_ldcw kc_X9_304 4 dX9_odds_1 rfl ?_
                refine cs_X9_104 7 dX9_odds_4 rfl rfl (Nat.le_of_ble_eq_true rfl) (wp_wiT hs (by decide) rfl ?_)
                refine jr_if_eq 49 10 dX9_odds_7 rfl rfl (fun q => absurd q (by decide)) (fun q7 => ?_)
                refine jr_iload_n 2 11 dX9_odds_10 rfl rfl rfl ?_
                refine jr_iconst (nI 1) 12 dX9_odds_11 rfl rfl ?_
                refine jr_icmp_lt 49 15 dX9_odds_12 rfl rfl (fun q => absurd q v1) (fun q12 => ?_)
                refine jr_iload_n 2 16 dX9_odds_15 rfl rfl rfl ?_
                refine jr_bipush (nI 20) 18 dX9_odds_16 rfl rfl ?_
                refine jr_icmp_gt 49 21 dX9_odds_18 rfl rfl (fun q => absurd q v2) (fun q18 => ?_)
                refine jr_iload_n 3 22 dX9_odds_21 rfl rfl rfl ?_
                refine jr_sipush (nI 400) 25 dX9_odds_22 rfl rfl ?_
                refine cs_X9_104 28 dX9_odds_25 rfl rfl (Nat.le_of_ble_eq_true rfl) (wp_wiT hc2 (by decide) rfl ?_)
                refine jr_if_eq 49 31 dX9_odds_28 rfl rfl (fun q => absurd q (by decide)) (fun q28 => ?_)
                refine jr_iload 33 dX9_odds_31 rfl rfl ?_
                refine jr_if_lt 49 36 dX9_odds_33 rfl rfl (fun q => absurd q he) (fun q33 => ?_)
                refine jr_iload 38 dX9_odds_36 rfl rfl ?_
                refine jr_bipush (nI 10) 40 dX9_odds_38 rfl rfl ?_
                refine jr_irem 41 dX9_odds_40 rfl (by decide) ?_
                rw [erem]
                refine jr_iconst (nI 1) 42 dX9_odds_41 rfl rfl ?_
                refine jr_icmp_gt 49 45 dX9_odds_42 rfl rfl (fun q42 => ?_) (fun q => absurd (nI_lt (a := 1) (by omega) (by omega)) q)
                refine jr_iconst (nI 0) 50 dX9_odds_49 rfl rfl ?_
                refine jr_istore (L' := [_, _, _, _, _, _, _, _]) 52 dX9_odds_50 rfl (by decide) rfl ?_
                refine jr_iload 54 dX9_odds_52 rfl rfl ?_
                refine jr_if_eq 72 57 dX9_odds_54 rfl rfl (fun q54 => ?_) (fun q => absurd (by decide) q)
                refine jr_ldc2 kc_X9_278 75 dX9_odds_72 rfl ?_
                refine jr_lreturn dX9_odds_75 rfl ?_
                refine jr_enter (L := [some (.ref 46), some (.int (nI s)), some (.int (nI u)), some (.int (nI c2)), some (.int (nI b)), none, none, none, none]) (by decide) (Nat.le_of_ble_eq_true rfl) rfl ?_
                refine jr_iload_n 1 1 dX10_odds_0 rfl rfl rfl ?_
                refine jr_iconst (nI 0) 2 dX10_odds_1 rfl rfl ?_
                refine jr_ldcw kc_X10_334 5 dX10_odds_2 rfl ?_
                refine cs_X10_108 8 dX10_odds_5 rfl rfl (Nat.le_of_ble_eq_true rfl) (wp_inT hs (by decide) rfl ?_)
                refine jr_if_eq 58 11 dX10_odds_8 rfl rfl (fun q => absurd q (by decide)) (fun q8 => ?_)
                refine jr_iload_n 2 12 dX10_odds_11 rfl rfl rfl ?_
                refine jr_iconst (nI 1) 13 dX10_odds_12 rfl rfl ?_
                refine jr_bipush (nI 20) 15 dX10_odds_13 rfl rfl ?_
                refine cs_X10_108 18 dX10_odds_15 rfl rfl (Nat.le_of_ble_eq_true rfl) (wp_in (fun _ _ => ?_) (fun q => absurd ⟨Int32.not_lt.mp v1, Int32.not_lt.mp v2⟩ q))
                refine jr_if_eq 58 21 dX10_odds_18 rfl rfl (fun q => absurd q (by decide)) (fun q18 => ?_)
                refine jr_iload_n 3 22 dX10_odds_21 rfl rfl rfl ?_
                refine cs_X10_191 25 dX10_odds_22 rfl rfl (Nat.le_of_ble_eq_true rfl) (wp_risMuch (fun _ _ => ?_) (fun q => absurd ⟨nI_pos' (by omega), nI_le (b := 400) hc2 (by omega)⟩ q))
                refine jr_if_eq 58 28 dX10_odds_25 rfl rfl (fun q => absurd q (by decide)) (fun q25 => ?_)
                refine jr_iload 30 dX10_odds_28 rfl rfl ?_
                refine jr_if_lt 58 33 dX10_odds_30 rfl rfl (fun q => absurd q he) (fun q30 => ?_)
                refine jr_aload_n 0 34 dX10_odds_33 rfl rfl rfl ?_
                refine jr_iload 36 dX10_odds_34 rfl rfl ?_
                refine jr_bipush (nI 10) 38 dX10_odds_36 rfl rfl ?_
                refine jr_idiv 39 dX10_odds_38 rfl (by decide) ?_
                rw [ediv]
                refine cs_X10_204 42 dX10_odds_39 rfl rfl rfl (Nat.le_of_ble_eq_true rfl) (wp_isFace rnf h5 (fun _ _ _ => ?_) (fun q => absurd q (jr_fcn hj (by omega))))
                refine jr_if_eq 58 45 dX10_odds_42 rfl rfl (fun q => absurd q (by decide)) (fun q42 => ?_)
                refine jr_iload 47 dX10_odds_45 rfl rfl ?_
                refine jr_bipush (nI 10) 49 dX10_odds_47 rfl rfl ?_
                refine jr_irem 50 dX10_odds_49 rfl (by decide) ?_
                rw [erem]
                refine jr_iconst (nI 2) 51 dX10_odds_50 rfl rfl ?_
                refine jr_icmp_ge 58 54 dX10_odds_51 rfl rfl (fun q51 => ?_) (fun q => absurd (nI_le (a := 2) (by omega) (by omega)) q)
                refine jr_iconst (nI 0) 59 dX10_odds_58 rfl rfl ?_
                refine jr_istore (L' := [_, _, _, _, _, _, _, _, _]) 61 dX10_odds_59 rfl (by decide) rfl ?_
                refine jr_iload 63 dX10_odds_61 rfl rfl ?_
                refine jr_if_ne 70 66 dX10_odds_63 rfl rfl (fun q => absurd (by decide) q) (fun q63 => ?_)
                refine jr_ldc2 kc_X10_313 69 dX10_odds_66 rfl ?_
                refine jr_lreturn dX10_odds_69 rfl ?_
                exact ⟨rfl, IV_mov (iv_same_x (jr_eqx_rf [] _) (by decide)) h⟩
            · by_cases hb2 : b % 10 < 2
              · refine jr_enter (L := [some (.ref 0), some (.int (nI s)), some (.int (nI u)), some (.int (nI c2)), some (.int (nI b)), none, none, none]) (by decide) (Nat.le_of_ble_eq_true rfl) rfl ?_
                refine jr_iload_n 1 1 dX9_odds_0 rfl rfl rfl ?_
                refine jr_ldcw kc_X9_304 4 dX9_odds_1 rfl ?_
                refine cs_X9_104 7 dX9_odds_4 rfl rfl (Nat.le_of_ble_eq_true rfl) (wp_wiT hs (by decide) rfl ?_)
                refine jr_if_eq 49 10 dX9_odds_7 rfl rfl (fun q => absurd q (by decide)) (fun q7 => ?_)
                refine jr_iload_n 2 11 dX9_odds_10 rfl rfl rfl ?_
                refine jr_iconst (nI 1) 12 dX9_odds_11 rfl rfl ?_
                refine jr_icmp_lt 49 15 dX9_odds_12 rfl rfl (fun q => absurd q v1) (fun q12 => ?_)
                refine jr_iload_n 2 16 dX9_odds_15 rfl rfl rfl ?_
                refine jr_bipush (nI 20) 18 dX9_odds_16 rfl rfl ?_
                refine jr_icmp_gt 49 21 dX9_odds_18 rfl rfl (fun q => absurd q v2) (fun q18 => ?_)
                refine jr_iload_n 3 22 dX9_odds_21 rfl rfl rfl ?_
                refine jr_sipush (nI 400) 25 dX9_odds_22 rfl rfl ?_
                refine cs_X9_104 28 dX9_odds_25 rfl rfl (Nat.le_of_ble_eq_true rfl) (wp_wiT hc2 (by decide) rfl ?_)
                refine jr_if_eq 49 31 dX9_odds_28 rfl rfl (fun q => absurd q (by decide)) (fun q28 => ?_)
                refine jr_iload 33 dX9_odds_31 rfl rfl ?_
                refine jr_if_lt 49 36 dX9_odds_33 rfl rfl (fun q => absurd q he) (fun q33 => ?_)
                refine jr_iload 38 dX9_odds_36 rfl rfl ?_
                refine jr_bipush (nI 10) 40 dX9_odds_38 rfl rfl ?_
                refine jr_irem 41 dX9_odds_40 rfl (by decide) ?_
                rw [erem]
                refine jr_iconst (nI 1) 42 dX9_odds_41 rfl rfl ?_
                refine jr_icmp_gt 49 45 dX9_odds_42 rfl rfl (fun q => absurd q (Int32.not_lt.mpr (nI_le (b := 1) (by omega) (by omega)))) (fun q42 => ?_)
                refine jr_iconst (1) 46 dX9_odds_45 rfl rfl ?_
                refine jr_goto 50 dX9_odds_46 rfl ?_
                refine jr_istore (L' := [_, _, _, _, _, _, _, _]) 52 dX9_odds_50 rfl (by decide) rfl ?_
                refine jr_iload 54 dX9_odds_52 rfl rfl ?_
                refine jr_if_eq 72 57 dX9_odds_54 rfl rfl (fun q => absurd q (by decide)) (fun q54 => ?_)
                refine jr_aload_n 0 58 dX9_odds_57 rfl rfl rfl ?_
                refine gf_X9_44 61 dX9_odds_58 rfl rfl rfl rfl ?_
                refine jr_iload 63 dX9_odds_61 rfl rfl ?_
                refine jr_bipush (nI 10) 65 dX9_odds_63 rfl rfl ?_
                refine jr_idiv 66 dX9_odds_65 rfl (by decide) ?_
                rw [ediv]
                refine cs_X9_146 69 dX9_odds_66 rfl rfl rfl (Nat.le_of_ble_eq_true rfl) (wp_has_15 hnf h5 (fun j hj2 e => absurd (nI_inj (by omega) (by omega) e) (by omega)) (fun _ => ?_))
                refine jr_if_ne 76 72 dX9_odds_69 rfl rfl (fun q => absurd (by decide) q) (fun q69 => ?_)
                refine jr_ldc2 kc_X9_278 75 dX9_odds_72 rfl ?_
                refine jr_lreturn dX9_odds_75 rfl ?_
                refine jr_enter (L := [some (.ref 46), some (.int (nI s)), some (.int (nI u)), some (.int (nI c2)), some (.int (nI b)), none, none, none, none]) (by decide) (Nat.le_of_ble_eq_true rfl) rfl ?_
                refine jr_iload_n 1 1 dX10_odds_0 rfl rfl rfl ?_
                refine jr_iconst (nI 0) 2 dX10_odds_1 rfl rfl ?_
                refine jr_ldcw kc_X10_334 5 dX10_odds_2 rfl ?_
                refine cs_X10_108 8 dX10_odds_5 rfl rfl (Nat.le_of_ble_eq_true rfl) (wp_inT hs (by decide) rfl ?_)
                refine jr_if_eq 58 11 dX10_odds_8 rfl rfl (fun q => absurd q (by decide)) (fun q8 => ?_)
                refine jr_iload_n 2 12 dX10_odds_11 rfl rfl rfl ?_
                refine jr_iconst (nI 1) 13 dX10_odds_12 rfl rfl ?_
                refine jr_bipush (nI 20) 15 dX10_odds_13 rfl rfl ?_
                refine cs_X10_108 18 dX10_odds_15 rfl rfl (Nat.le_of_ble_eq_true rfl) (wp_in (fun _ _ => ?_) (fun q => absurd ⟨Int32.not_lt.mp v1, Int32.not_lt.mp v2⟩ q))
                refine jr_if_eq 58 21 dX10_odds_18 rfl rfl (fun q => absurd q (by decide)) (fun q18 => ?_)
                refine jr_iload_n 3 22 dX10_odds_21 rfl rfl rfl ?_
                refine cs_X10_191 25 dX10_odds_22 rfl rfl (Nat.le_of_ble_eq_true rfl) (wp_risMuch (fun _ _ => ?_) (fun q => absurd ⟨nI_pos' (by omega), nI_le (b := 400) hc2 (by omega)⟩ q))
                refine jr_if_eq 58 28 dX10_odds_25 rfl rfl (fun q => absurd q (by decide)) (fun q25 => ?_)
                refine jr_iload 30 dX10_odds_28 rfl rfl ?_
                refine jr_if_lt 58 33 dX10_odds_30 rfl rfl (fun q => absurd q he) (fun q30 => ?_)
                refine jr_aload_n 0 34 dX10_odds_33 rfl rfl rfl ?_
                refine jr_iload 36 dX10_odds_34 rfl rfl ?_
                refine jr_bipush (nI 10) 38 dX10_odds_36 rfl rfl ?_
                refine jr_idiv 39 dX10_odds_38 rfl (by decide) ?_
                rw [ediv]
                refine cs_X10_204 42 dX10_odds_39 rfl rfl rfl (Nat.le_of_ble_eq_true rfl) (wp_isFace rnf h5 (fun j hj2 e => absurd (nI_inj (by omega) (by omega) e) (by omega)) (fun _ => ?_))
                refine jr_if_eq 58 45 dX10_odds_42 rfl rfl (fun q42 => ?_) (fun q => absurd (by decide) q)
                refine jr_iconst (nI 0) 59 dX10_odds_58 rfl rfl ?_
                refine jr_istore (L' := [_, _, _, _, _, _, _, _, _]) 61 dX10_odds_59 rfl (by decide) rfl ?_
                refine jr_iload 63 dX10_odds_61 rfl rfl ?_
                refine jr_if_ne 70 66 dX10_odds_63 rfl rfl (fun q => absurd (by decide) q) (fun q63 => ?_)
                refine jr_ldc2 kc_X10_313 69 dX10_odds_66 rfl ?_
                refine jr_lreturn dX10_odds_69 rfl ?_
                exact ⟨rfl, IV_mov (iv_same_x (jr_eqx_rf [] _) (by decide)) h⟩
              · refine jr_enter (L := [some (.ref 0), some (.int (nI s)), some (.int (nI u)), some (.int (nI c2)), some (.int (nI b)), none, none, none]) (by decide) (Nat.le_of_ble_eq_true rfl) rfl ?_
                refine jr_iload_n 1 1 dX9_odds_0 rfl rfl rfl ?_
                refine jr_ldcw kc_X9_304 4 dX9_odds_1 rfl ?_
                refine cs_X9_104 7 dX9_odds_4 rfl rfl (Nat.le_of_ble_eq_true rfl) (wp_wiT hs (by decide) rfl ?_)
                refine jr_if_eq 49 10 dX9_odds_7 rfl rfl (fun q => absurd q (by decide)) (fun q7 => ?_)
                refine jr_iload_n 2 11 dX9_odds_10 rfl rfl rfl ?_
                refine jr_iconst (nI 1) 12 dX9_odds_11 rfl rfl ?_
                refine jr_icmp_lt 49 15 dX9_odds_12 rfl rfl (fun q => absurd q v1) (fun q12 => ?_)
                refine jr_iload_n 2 16 dX9_odds_15 rfl rfl rfl ?_
                refine jr_bipush (nI 20) 18 dX9_odds_16 rfl rfl ?_
                refine jr_icmp_gt 49 21 dX9_odds_18 rfl rfl (fun q => absurd q v2) (fun q18 => ?_)
                refine jr_iload_n 3 22 dX9_odds_21 rfl rfl rfl ?_
                refine jr_sipush (nI 400) 25 dX9_odds_22 rfl rfl ?_
                refine cs_X9_104 28 dX9_odds_25 rfl rfl (Nat.le_of_ble_eq_true rfl) (wp_wiT hc2 (by decide) rfl ?_)
                refine jr_if_eq 49 31 dX9_odds_28 rfl rfl (fun q => absurd q (by decide)) (fun q28 => ?_)
                refine jr_iload 33 dX9_odds_31 rfl rfl ?_
                refine jr_if_lt 49 36 dX9_odds_33 rfl rfl (fun q => absurd q he) (fun q33 => ?_)
                refine jr_iload 38 dX9_odds_36 rfl rfl ?_
                refine jr_bipush (nI 10) 40 dX9_odds_38 rfl rfl ?_
                refine jr_irem 41 dX9_odds_40 rfl (by decide) ?_
                rw [erem]
                refine jr_iconst (nI 1) 42 dX9_odds_41 rfl rfl ?_
                refine jr_icmp_gt 49 45 dX9_odds_42 rfl rfl (fun q42 => ?_) (fun q => absurd (nI_lt (a := 1) (by omega) (by omega)) q)
                refine jr_iconst (nI 0) 50 dX9_odds_49 rfl rfl ?_
                refine jr_istore (L' := [_, _, _, _, _, _, _, _]) 52 dX9_odds_50 rfl (by decide) rfl ?_
                refine jr_iload 54 dX9_odds_52 rfl rfl ?_
                refine jr_if_eq 72 57 dX9_odds_54 rfl rfl (fun q54 => ?_) (fun q => absurd (by decide) q)
                refine jr_ldc2 kc_X9_278 75 dX9_odds_72 rfl ?_
                refine jr_lreturn dX9_odds_75 rfl ?_
                refine jr_enter (L := [some (.ref 46), some (.int (nI s)), some (.int (nI u)), some (.int (nI c2)), some (.int (nI b)), none, none, none, none]) (by decide) (Nat.le_of_ble_eq_true rfl) rfl ?_
                refine jr_iload_n 1 1 dX10_odds_0 rfl rfl rfl ?_
                refine jr_iconst (nI 0) 2 dX10_odds_1 rfl rfl ?_
                refine jr_ldcw kc_X10_334 5 dX10_odds_2 rfl ?_
                refine cs_X10_108 8 dX10_odds_5 rfl rfl (Nat.le_of_ble_eq_true rfl) (wp_inT hs (by decide) rfl ?_)
                refine jr_if_eq 58 11 dX10_odds_8 rfl rfl (fun q => absurd q (by decide)) (fun q8 => ?_)
                refine jr_iload_n 2 12 dX10_odds_11 rfl rfl rfl ?_
                refine jr_iconst (nI 1) 13 dX10_odds_12 rfl rfl ?_
                refine jr_bipush (nI 20) 15 dX10_odds_13 rfl rfl ?_
                refine cs_X10_108 18 dX10_odds_15 rfl rfl (Nat.le_of_ble_eq_true rfl) (wp_in (fun _ _ => ?_) (fun q => absurd ⟨Int32.not_lt.mp v1, Int32.not_lt.mp v2⟩ q))
                refine jr_if_eq 58 21 dX10_odds_18 rfl rfl (fun q => absurd q (by decide)) (fun q18 => ?_)
                refine jr_iload_n 3 22 dX10_odds_21 rfl rfl rfl ?_
                refine cs_X10_191 25 dX10_odds_22 rfl rfl (Nat.le_of_ble_eq_true rfl) (wp_risMuch (fun _ _ => ?_) (fun q => absurd ⟨nI_pos' (by omega), nI_le (b := 400) hc2 (by omega)⟩ q))
                refine jr_if_eq 58 28 dX10_odds_25 rfl rfl (fun q => absurd q (by decide)) (fun q25 => ?_)
                refine jr_iload 30 dX10_odds_28 rfl rfl ?_
                refine jr_if_lt 58 33 dX10_odds_30 rfl rfl (fun q => absurd q he) (fun q30 => ?_)
                refine jr_aload_n 0 34 dX10_odds_33 rfl rfl rfl ?_
                refine jr_iload 36 dX10_odds_34 rfl rfl ?_
                refine jr_bipush (nI 10) 38 dX10_odds_36 rfl rfl ?_
                refine jr_idiv 39 dX10_odds_38 rfl (by decide) ?_
                rw [ediv]
                refine cs_X10_204 42 dX10_odds_39 rfl rfl rfl (Nat.le_of_ble_eq_true rfl) (wp_isFace rnf h5 (fun j hj2 e => absurd (nI_inj (by omega) (by omega) e) (by omega)) (fun _ => ?_))
                refine jr_if_eq 58 45 dX10_odds_42 rfl rfl (fun q42 => ?_) (fun q => absurd (by decide) q)
                refine jr_iconst (nI 0) 59 dX10_odds_58 rfl rfl ?_
                refine jr_istore (L' := [_, _, _, _, _, _, _, _, _]) 61 dX10_odds_59 rfl (by decide) rfl ?_
                refine jr_iload 63 dX10_odds_61 rfl rfl ?_
                refine jr_if_ne 70 66 dX10_odds_63 rfl rfl (fun q => absurd (by decide) q) (fun q63 => ?_)
                refine jr_ldc2 kc_X10_313 69 dX10_odds_66 rfl ?_
                refine jr_lreturn dX10_odds_69 rfl ?_
                exact ⟨rfl, IV_mov (iv_same_x (jr_eqx_rf [] _) (by decide)) h⟩

def jr_eqx (X : List Nat) (σ σ' : jr_Sg) : Prop := ∀ a, a ∉ X → σ' a = σ a
theorem jr_eqx_rf (X : List Nat) (σ : jr_Sg) : jr_eqx X σ σ := fun _ _ => rfl
theorem jr_eqx_tr {X : List Nat} {a b c : jr_Sg} (h : jr_eqx X a b) (h2 : jr_eqx X b c) : jr_eqx X a c := fun i hi => (h2 i hi).trans (h i hi)
theorem jr_eqx_up {X : List Nat} (σ : jr_Sg) {i : Nat} (k : Nat) (v : Int32) (hi : i ∈ X) : jr_eqx X σ (jr_up σ i k v) := fun a ha => by
  unfold jr_up
  rw [if_neg (fun e => ha (by rw [e]; exact hi))]
theorem jr_eqx_upc {X : List Nat} (σ : jr_Sg) {i : Nat} (f : Nat → Int32) (hi : i ∈ X) : jr_eqx X σ (jr_upc σ i f) := fun a ha => by
  unfold jr_upc
  rw [if_neg (fun e => ha (by rw [e]; exact hi))]
theorem jr_m1 {j : Nat} (h : j < 2 ^ 31) (e : (-1 : Int32) = nI j) : False := absurd (show (-1 : Int32) < 0 by decide) (by rw [e]; exact nI_pos h)
theorem jr_eqx_w {X Y : List Nat} {σ σ' : jr_Sg} (h : jr_eqx X σ σ') (hs : ∀ a, a ∈ X → a ∈ Y) : jr_eqx Y σ σ' := fun a ha => h a (fun q => ha (hs a q))
/-- the scene at b: how many, of which kinds, in which seats, the causes -/
def sc_ok (b : Nat) (σ : jr_Sg) (nf nc : Nat) (kd se : Nat → Nat) : Prop := σ b 8 = nI nf ∧ nf ≤ 5 ∧ σ b 9 = nI nc ∧ nc ≤ 8 ∧ ∀ f, f < nf → kd f < 6 ∧ se f < 8 ∧ σ (b + 1) f = nI (kd f) ∧ σ (b + 4) f = nI (se f)
def pu_cs (cs cf cm : Nat → Int32) (f t : Int32) : Nat → Int32
  | 0 => 0
  | n + 1 => if cs n = t ∧ cf n = f then pu_cs cs cf cm f t n + cm n else pu_cs cs cf cm f t n
/-- who sits in the seat s, of n -/
def pu_sit (se : Nat → Int32) (s : Int32) : Nat → Nat → Option Nat
  | _, 0 => none
  | i, n + 1 => if se i = s then some i else pu_sit se s (i + 1) n
theorem wp_isWithin {G : jr_G} {d : Nat} {σ : jr_Sg} {k : Value → jr_Sg → Prop} {v m : Int32} (h1 : 0 ≤ v → v ≤ m → k (.int 1) σ) (h0 : ¬ (0 ≤ v ∧ v ≤ m) → k (.int 0) σ) : jr_M G d mi_X9_isWithin [.int v, .int m] σ (jr_k k) := by
  refine jr_enter (L := [some (.int v), some (.int m)]) (by decide) (Nat.le_of_ble_eq_true rfl) rfl ?_
  refine jr_iload_n 0 1 dX9_isWithin_0 rfl rfl rfl ?_
  refine jr_if_lt 13 4 dX9_isWithin_1 rfl rfl (fun q1 => ?_) (fun q1 => ?_)
  · refine jr_iconst (0) 14 dX9_isWithin_13 rfl rfl ?_
    refine jr_ireturn dX9_isWithin_14 rfl rfl ?_
    exact h0 (by grind)
  · refine jr_iload_n 0 5 dX9_isWithin_4 rfl rfl rfl ?_
    refine jr_iload_n 1 6 dX9_isWithin_5 rfl rfl rfl ?_
    refine jr_icmp_gt 13 9 dX9_isWithin_6 rfl rfl (fun q6 => ?_) (fun q6 => ?_)
    · refine jr_iconst (0) 14 dX9_isWithin_13 rfl rfl ?_
      refine jr_ireturn dX9_isWithin_14 rfl rfl ?_
      exact h0 (by grind)
    · refine jr_iconst (1) 10 dX9_isWithin_9 rfl rfl ?_
      refine jr_goto 14 dX9_isWithin_10 rfl ?_
      refine jr_ireturn dX9_isWithin_14 rfl rfl ?_
      exact h1 (by grind) (by grind)
theorem wp_isByte {G : jr_G} {d : Nat} {σ : jr_Sg} {k : Value → jr_Sg → Prop} {v : Int32} (h1 : 0 ≤ v → v ≤ 255 → k (.int 1) σ) (h0 : ¬ (0 ≤ v ∧ v ≤ 255) → k (.int 0) σ) : jr_M G (d + 1) mi_X9_isByte [.int v] σ (jr_k k) := by
  refine jr_enter (L := [some (.int v)]) (by decide) (Nat.le_of_ble_eq_true rfl) rfl ?_
  refine jr_iload_n 0 1 dX9_isByte_0 rfl rfl rfl ?_
  refine jr_sipush (255) 4 dX9_isByte_1 rfl rfl ?_
  refine cs_X9_104 7 dX9_isByte_4 rfl rfl (Nat.le_of_ble_eq_true rfl) (wp_isWithin (fun q r => ?_) (fun q => ?_))
  · refine jr_ireturn dX9_isByte_7 rfl rfl ?_
    exact h1 q r
  · refine jr_ireturn dX9_isByte_7 rfl rfl ?_
    exact h0 q
theorem wp_isSeat {G : jr_G} {d : Nat} {σ : jr_Sg} {k : Value → jr_Sg → Prop} {v : Int32} (h1 : 0 ≤ v → v ≤ 7 → k (.int 1) σ) (h0 : ¬ (0 ≤ v ∧ v ≤ 7) → k (.int 0) σ) : jr_M G (d + 1) mi_X9_isSeat [.int v] σ (jr_k k) := by
  refine jr_enter (L := [some (.int v)]) (by decide) (Nat.le_of_ble_eq_true rfl) rfl ?_
  refine jr_iload_n 0 1 dX9_isSeat_0 rfl rfl rfl ?_
  refine jr_bipush (7) 3 dX9_isSeat_1 rfl rfl ?_
  refine cs_X9_104 6 dX9_isSeat_3 rfl rfl (Nat.le_of_ble_eq_true rfl) (wp_isWithin (fun q r => ?_) (fun q => ?_))
  · refine jr_ireturn dX9_isSeat_6 rfl rfl ?_
    exact h1 q r
  · refine jr_ireturn dX9_isSeat_6 rfl rfl ?_
    exact h0 q
theorem wp_isSecond {G : jr_G} {d : Nat} {σ : jr_Sg} {k : Value → jr_Sg → Prop} {v : Int32} (h1 : 0 ≤ v → v ≤ 39 → k (.int 1) σ) (h0 : ¬ (0 ≤ v ∧ v ≤ 39) → k (.int 0) σ) : jr_M G (d + 1) mi_X9_isSecond [.int v] σ (jr_k k) := by
  refine jr_enter (L := [some (.int v)]) (by decide) (Nat.le_of_ble_eq_true rfl) rfl ?_
  refine jr_iload_n 0 1 dX9_isSecond_0 rfl rfl rfl ?_
  refine jr_bipush (39) 3 dX9_isSecond_1 rfl rfl ?_
  refine cs_X9_104 6 dX9_isSecond_3 rfl rfl (Nat.le_of_ble_eq_true rfl) (wp_isWithin (fun q r => ?_) (fun q => ?_))
  · refine jr_ireturn dX9_isSecond_6 rfl rfl ?_
    exact h1 q r
  · refine jr_ireturn dX9_isSecond_6 rfl rfl ?_
    exact h0 q
theorem wp_has_15 {G : jr_G} {d : Nat} {σ : jr_Sg} {k : Value → jr_Sg → Prop} {nf : Nat} {f : Int32} (hnf : σ 15 8 = nI nf) (h5 : nf ≤ 5) (h1 : ∀ j, j < nf → f = nI j → k (.int 1) σ) (h0 : (f < 0 ∨ nI nf ≤ f) → k (.int 0) σ) : jr_M G d mi_X3_has [.ref 15, .int f] σ (jr_k k) := by
  refine jr_enter (L := [some (.ref 15), some (.int f)]) (by decide) (Nat.le_of_ble_eq_true rfl) rfl ?_
  rcases pk_ix f (n := nf) (by omega) with q | q | ⟨j, hj, rfl⟩
  · refine jr_iload_n 1 1 dX3_has_0 rfl rfl rfl ?_
    refine jr_if_lt 21 4 dX3_has_1 rfl rfl (fun q1 => ?_) (fun z => absurd q z)
    refine jr_iconst (0) 22 dX3_has_21 rfl rfl ?_
    refine jr_ireturn dX3_has_22 rfl rfl ?_
    exact h0 (Or.inl q)
  · refine jr_iload_n 1 1 dX3_has_0 rfl rfl rfl ?_
    refine jr_if_lt 21 4 dX3_has_1 rfl rfl (fun q1 => ?_) (fun q1 => ?_)
    · refine jr_iconst (0) 22 dX3_has_21 rfl rfl ?_
      refine jr_ireturn dX3_has_22 rfl rfl ?_
      exact h0 (by first | exact Or.inr q | exact Or.inl (by assumption))
    · refine jr_iload_n 1 5 dX3_has_4 rfl rfl rfl ?_
      refine jr_aload_n 0 6 dX3_has_5 rfl rfl rfl ?_
      refine gf_X3_36 9 dX3_has_6 rfl rfl rfl rfl ?_
      rw [hnf]
      refine jr_icmp_ge 21 12 dX3_has_9 rfl rfl (fun q9 => ?_) (fun z => absurd q z)
      refine jr_iconst (0) 22 dX3_has_21 rfl rfl ?_
      refine jr_ireturn dX3_has_22 rfl rfl ?_
      exact h0 (by first | exact Or.inr q | exact Or.inl (by assumption))
  · refine jr_iload_n 1 1 dX3_has_0 rfl rfl rfl ?_
    refine jr_if_lt 21 4 dX3_has_1 rfl rfl (fun z => absurd z (nI_pos (by omega))) (fun q1 => ?_)
    refine jr_iload_n 1 5 dX3_has_4 rfl rfl rfl ?_
    refine jr_aload_n 0 6 dX3_has_5 rfl rfl rfl ?_
    refine gf_X3_36 9 dX3_has_6 rfl rfl rfl rfl ?_
    rw [hnf]
    refine jr_icmp_ge 21 12 dX3_has_9 rfl rfl (fun z => absurd z (nI_ge hj (by omega))) (fun q9 => ?_)
    refine jr_iload_n 1 13 dX3_has_12 rfl rfl rfl ?_
    refine jr_iconst (5) 14 dX3_has_13 rfl rfl ?_
    refine jr_icmp_ge 21 17 dX3_has_14 rfl rfl (fun z => absurd z (nI_ge (b := 5) (by omega) (by decide))) (fun q14 => ?_)
    refine jr_iconst (1) 18 dX3_has_17 rfl rfl ?_
    refine jr_goto 22 dX3_has_18 rfl ?_
    refine jr_ireturn dX3_has_22 rfl rfl ?_
    exact h1 j hj rfl
theorem wp_hasT_15 {G : jr_G} {d : Nat} {σ : jr_Sg} {k : Value → jr_Sg → Prop} {nf j : Nat} (hnf : σ 15 8 = nI nf) (h5 : nf ≤ 5) (hj : j < nf) (h1 : k (.int 1) σ) : jr_M G d mi_X3_has [.ref 15, .int (nI j)] σ (jr_k k) := wp_has_15 hnf h5 (fun _ _ _ => h1) (fun q => by
  rcases q with q | q
  · exact absurd q (nI_pos (by omega))
  · exact absurd q (nI_ge hj (by omega)))
theorem wp_has_24 {G : jr_G} {d : Nat} {σ : jr_Sg} {k : Value → jr_Sg → Prop} {nf : Nat} {f : Int32} (hnf : σ 24 8 = nI nf) (h5 : nf ≤ 5) (h1 : ∀ j, j < nf → f = nI j → k (.int 1) σ) (h0 : (f < 0 ∨ nI nf ≤ f) → k (.int 0) σ) : jr_M G d mi_X3_has [.ref 24, .int f] σ (jr_k k) := by
  refine jr_enter (L := [some (.ref 24), some (.int f)]) (by decide) (Nat.le_of_ble_eq_true rfl) rfl ?_
  rcases pk_ix f (n := nf) (by omega) with q | q | ⟨j, hj, rfl⟩
  · refine jr_iload_n 1 1 dX3_has_0 rfl rfl rfl ?_
    refine jr_if_lt 21 4 dX3_has_1 rfl rfl (fun q1 => ?_) (fun z => absurd q z)
    refine jr_iconst (0) 22 dX3_has_21 rfl rfl ?_
    refine jr_ireturn dX3_has_22 rfl rfl ?_
    exact h0 (Or.inl q)
  · refine jr_iload_n 1 1 dX3_has_0 rfl rfl rfl ?_
    refine jr_if_lt 21 4 dX3_has_1 rfl rfl (fun q1 => ?_) (fun q1 => ?_)
    · refine jr_iconst (0) 22 dX3_has_21 rfl rfl ?_
      refine jr_ireturn dX3_has_22 rfl rfl ?_
      exact h0 (by first | exact Or.inr q | exact Or.inl (by assumption))
    · refine jr_iload_n 1 5 dX3_has_4 rfl rfl rfl ?_
      refine jr_aload_n 0 6 dX3_has_5 rfl rfl rfl ?_
      refine gf_X3_36 9 dX3_has_6 rfl rfl rfl rfl ?_
      rw [hnf]
      refine jr_icmp_ge 21 12 dX3_has_9 rfl rfl (fun q9 => ?_) (fun z => absurd q z)
      refine jr_iconst (0) 22 dX3_has_21 rfl rfl ?_
      refine jr_ireturn dX3_has_22 rfl rfl ?_
      exact h0 (by first | exact Or.inr q | exact Or.inl (by assumption))
  · refine jr_iload_n 1 1 dX3_has_0 rfl rfl rfl ?_
    refine jr_if_lt 21 4 dX3_has_1 rfl rfl (fun z => absurd z (nI_pos (by omega))) (fun q1 => ?_)
    refine jr_iload_n 1 5 dX3_has_4 rfl rfl rfl ?_
    refine jr_aload_n 0 6 dX3_has_5 rfl rfl rfl ?_
    refine gf_X3_36 9 dX3_has_6 rfl rfl rfl rfl ?_
    rw [hnf]
    refine jr_icmp_ge 21 12 dX3_has_9 rfl rfl (fun z => absurd z (nI_ge hj (by omega))) (fun q9 => ?_)
    refine jr_iload_n 1 13 dX3_has_12 rfl rfl rfl ?_
    refine jr_iconst (5) 14 dX3_has_13 rfl rfl ?_
    refine jr_icmp_ge 21 17 dX3_has_14 rfl rfl (fun z => absurd z (nI_ge (b := 5) (by omega) (by decide))) (fun q14 => ?_)
    refine jr_iconst (1) 18 dX3_has_17 rfl rfl ?_
    refine jr_goto 22 dX3_has_18 rfl ?_
    refine jr_ireturn dX3_has_22 rfl rfl ?_
    exact h1 j hj rfl
theorem wp_hasT_24 {G : jr_G} {d : Nat} {σ : jr_Sg} {k : Value → jr_Sg → Prop} {nf j : Nat} (hnf : σ 24 8 = nI nf) (h5 : nf ≤ 5) (hj : j < nf) (h1 : k (.int 1) σ) : jr_M G d mi_X3_has [.ref 24, .int (nI j)] σ (jr_k k) := wp_has_24 hnf h5 (fun _ _ _ => h1) (fun q => by
  rcases q with q | q
  · exact absurd q (nI_pos (by omega))
  · exact absurd q (nI_ge hj (by omega)))
theorem wp_has_33 {G : jr_G} {d : Nat} {σ : jr_Sg} {k : Value → jr_Sg → Prop} {nf : Nat} {f : Int32} (hnf : σ 33 8 = nI nf) (h5 : nf ≤ 5) (h1 : ∀ j, j < nf → f = nI j → k (.int 1) σ) (h0 : (f < 0 ∨ nI nf ≤ f) → k (.int 0) σ) : jr_M G d mi_X3_has [.ref 33, .int f] σ (jr_k k) := by
  refine jr_enter (L := [some (.ref 33), some (.int f)]) (by decide) (Nat.le_of_ble_eq_true rfl) rfl ?_
  rcases pk_ix f (n := nf) (by omega) with q | q | ⟨j, hj, rfl⟩
  · refine jr_iload_n 1 1 dX3_has_0 rfl rfl rfl ?_
    refine jr_if_lt 21 4 dX3_has_1 rfl rfl (fun q1 => ?_) (fun z => absurd q z)
    refine jr_iconst (0) 22 dX3_has_21 rfl rfl ?_
    refine jr_ireturn dX3_has_22 rfl rfl ?_
    exact h0 (Or.inl q)
  · refine jr_iload_n 1 1 dX3_has_0 rfl rfl rfl ?_
    refine jr_if_lt 21 4 dX3_has_1 rfl rfl (fun q1 => ?_) (fun q1 => ?_)
    · refine jr_iconst (0) 22 dX3_has_21 rfl rfl ?_
      refine jr_ireturn dX3_has_22 rfl rfl ?_
      exact h0 (by first | exact Or.inr q | exact Or.inl (by assumption))
    · refine jr_iload_n 1 5 dX3_has_4 rfl rfl rfl ?_
      refine jr_aload_n 0 6 dX3_has_5 rfl rfl rfl ?_
      refine gf_X3_36 9 dX3_has_6 rfl rfl rfl rfl ?_
      rw [hnf]
      refine jr_icmp_ge 21 12 dX3_has_9 rfl rfl (fun q9 => ?_) (fun z => absurd q z)
      refine jr_iconst (0) 22 dX3_has_21 rfl rfl ?_
      refine jr_ireturn dX3_has_22 rfl rfl ?_
      exact h0 (by first | exact Or.inr q | exact Or.inl (by assumption))
  · refine jr_iload_n 1 1 dX3_has_0 rfl rfl rfl ?_
    refine jr_if_lt 21 4 dX3_has_1 rfl rfl (fun z => absurd z (nI_pos (by omega))) (fun q1 => ?_)
    refine jr_iload_n 1 5 dX3_has_4 rfl rfl rfl ?_
    refine jr_aload_n 0 6 dX3_has_5 rfl rfl rfl ?_
    refine gf_X3_36 9 dX3_has_6 rfl rfl rfl rfl ?_
    rw [hnf]
    refine jr_icmp_ge 21 12 dX3_has_9 rfl rfl (fun z => absurd z (nI_ge hj (by omega))) (fun q9 => ?_)
    refine jr_iload_n 1 13 dX3_has_12 rfl rfl rfl ?_
    refine jr_iconst (5) 14 dX3_has_13 rfl rfl ?_
    refine jr_icmp_ge 21 17 dX3_has_14 rfl rfl (fun z => absurd z (nI_ge (b := 5) (by omega) (by decide))) (fun q14 => ?_)
    refine jr_iconst (1) 18 dX3_has_17 rfl rfl ?_
    refine jr_goto 22 dX3_has_18 rfl ?_
    refine jr_ireturn dX3_has_22 rfl rfl ?_
    exact h1 j hj rfl
theorem wp_hasT_33 {G : jr_G} {d : Nat} {σ : jr_Sg} {k : Value → jr_Sg → Prop} {nf j : Nat} (hnf : σ 33 8 = nI nf) (h5 : nf ≤ 5) (hj : j < nf) (h1 : k (.int 1) σ) : jr_M G d mi_X3_has [.ref 33, .int (nI j)] σ (jr_k k) := wp_has_33 hnf h5 (fun _ _ _ => h1) (fun q => by
  rcases q with q | q
  · exact absurd q (nI_pos (by omega))
  · exact absurd q (nI_ge hj (by omega)))
theorem wp_lightOf_15 {G : jr_G} {d : Nat} {σ : jr_Sg} {k : Value → jr_Sg → Prop} {nf nc : Nat} {kd se : Nat → Nat} {f : Nat} (hsc : sc_ok 15 σ nf nc kd se) (hf : f < nf) (h : k (.int (σ 20 (se f))) σ) : jr_M G (d + 2) mi_X3_lightOf [.ref 15, .int (nI f)] σ (jr_k k) := by
  obtain ⟨hnf, h5, hnc, h8, hall⟩ := hsc
  obtain ⟨hk6, hs8, hkd, hse⟩ := hall f hf
  replace hkd : σ 16 f = nI (kd f) := hkd
  replace hse : σ 19 f = nI (se f) := hse
  refine jr_enter (L := [some (.ref 15), some (.int (nI f))]) (by decide) (Nat.le_of_ble_eq_true rfl) rfl ?_
  refine jr_aload_n 0 1 dX3_lightOf_0 rfl rfl rfl ?_
  refine jr_iload_n 1 2 dX3_lightOf_1 rfl rfl rfl ?_
  refine cs_X3_52 5 dX3_lightOf_2 rfl rfl rfl (Nat.le_of_ble_eq_true rfl) (wp_hasT_15 hnf h5 hf ?_)
  refine jr_if_eq 34 8 dX3_lightOf_5 rfl rfl (fun q => absurd q (by decide)) (fun q5 => ?_)
  refine jr_aload_n 0 9 dX3_lightOf_8 rfl rfl rfl ?_
  refine gf_X3_21 12 dX3_lightOf_9 rfl rfl rfl rfl ?_
  refine jr_iload_n 1 13 dX3_lightOf_12 rfl rfl rfl ?_
  refine jr_iale rfl rfl (by omega) hse 14 dX3_lightOf_13 rfl ?_
  refine cs_X3_56 17 dX3_lightOf_14 rfl rfl (Nat.le_of_ble_eq_true rfl) (wp_isSeat (fun q r => ?_) (fun q => absurd ⟨nI_pos' (by omega), nI_le (b := 7) (by omega) (by decide)⟩ q))
  refine jr_if_eq 34 20 dX3_lightOf_17 rfl rfl (fun q => absurd q (by decide)) (fun q17 => ?_)
  refine jr_aload_n 0 21 dX3_lightOf_20 rfl rfl rfl ?_
  refine gf_X3_24 24 dX3_lightOf_21 rfl rfl rfl rfl ?_
  refine jr_aload_n 0 25 dX3_lightOf_24 rfl rfl rfl ?_
  refine gf_X3_21 28 dX3_lightOf_25 rfl rfl rfl rfl ?_
  refine jr_iload_n 1 29 dX3_lightOf_28 rfl rfl rfl ?_
  refine jr_iale rfl rfl (by omega) hse 30 dX3_lightOf_29 rfl ?_
  refine jr_iald rfl rfl hs8 31 dX3_lightOf_30 rfl ?_
  refine jr_goto 35 dX3_lightOf_31 rfl ?_
  refine jr_ireturn dX3_lightOf_35 rfl rfl ?_
  exact h
theorem wp_sredFrom_15 {G : jr_G} {d : Nat} {σ : jr_Sg} {k : Value → jr_Sg → Prop} {nf nc : Nat} {kd se : Nat → Nat} {f : Nat} (hsc : sc_ok 15 σ nf nc kd se) (hf : f < nf) (h : k (.int (pu_redf (kd f) (σ 17 f) (σ 20 (se f)))) σ) : jr_M G (d + 3) mi_X3_redFrom [.ref 15, .int (nI f)] σ (jr_k k) := by
  have hsc0 := hsc
  obtain ⟨hnf, h5, hnc, h8, hall⟩ := hsc
  obtain ⟨hk6, hs8, hkd, hse⟩ := hall f hf
  replace hkd : σ 16 f = nI (kd f) := hkd
  replace hse : σ 19 f = nI (se f) := hse
  refine jr_enter (L := [some (.ref 15), some (.int (nI f))]) (by decide) (Nat.le_of_ble_eq_true rfl) rfl ?_
  refine jr_aload_n 0 1 dX3_redFrom_0 rfl rfl rfl ?_
  refine jr_iload_n 1 2 dX3_redFrom_1 rfl rfl rfl ?_
  refine cs_X3_52 5 dX3_redFrom_2 rfl rfl rfl (Nat.le_of_ble_eq_true rfl) (wp_hasT_15 hnf h5 hf ?_)
  refine jr_if_eq 31 8 dX3_redFrom_5 rfl rfl (fun q => absurd q (by decide)) (fun q5 => ?_)
  refine jr_aload_n 0 9 dX3_redFrom_8 rfl rfl rfl ?_
  refine gf_X3_9 12 dX3_redFrom_9 rfl rfl rfl rfl ?_
  refine jr_iload_n 1 13 dX3_redFrom_12 rfl rfl rfl ?_
  refine jr_iale rfl rfl (by omega) hkd 14 dX3_redFrom_13 rfl ?_
  refine jr_aload_n 0 15 dX3_redFrom_14 rfl rfl rfl ?_
  refine gf_X3_15 18 dX3_redFrom_15 rfl rfl rfl rfl ?_
  refine jr_iload_n 1 19 dX3_redFrom_18 rfl rfl rfl ?_
  refine jr_iald rfl rfl (by omega) 20 dX3_redFrom_19 rfl ?_
  refine jr_aload_n 0 21 dX3_redFrom_20 rfl rfl rfl ?_
  refine jr_iload_n 1 22 dX3_redFrom_21 rfl rfl rfl ?_
  refine cs_X3_63 25 dX3_redFrom_22 rfl rfl rfl (Nat.le_of_ble_eq_true rfl) (wp_lightOf_15 hsc0 hf ?_)
  refine cs_X3_66 28 dX3_redFrom_25 rfl rfl (Nat.le_of_ble_eq_true rfl) (wp_kredf hk6 ?_)
  refine jr_goto 32 dX3_redFrom_28 rfl ?_
  refine jr_ireturn dX3_redFrom_32 rfl rfl ?_
  exact h
theorem scaused_loop_15 {G : jr_G} {d : Nat} {σ : jr_Sg} {k : Value → jr_Sg → Prop} {f t : Int32} {nc : Nat} (hnc : σ 15 9 = nI nc) (h8 : nc ≤ 8) (h : k (.int (pu_cs (σ 21) (σ 22) (σ 23) f t nc)) σ) : ∀ (m j : Nat), j + m = nc → jr_R G d mi_X3_causedTo (jr_k k) 5 [some (.ref 15), some (.int f), some (.int t), some (.int (pu_cs (σ 21) (σ 22) (σ 23) f t j)), some (.int (nI j))] [] σ := by
  intro m
  induction m with
  | zero =>
    intro j hj
    have e : j = nc := hj
    subst e
    refine jr_iload 7 dX3_causedTo_5 rfl rfl ?_
    refine jr_aload_n 0 8 dX3_causedTo_7 rfl rfl rfl ?_
    refine gf_X3_40 11 dX3_causedTo_8 rfl rfl rfl rfl ?_
    rw [hnc]
    refine jr_icmp_ge 59 14 dX3_causedTo_11 rfl rfl (fun q11 => ?_) (fun z => absurd (Int32.le_refl _) z)
    refine jr_iload_n 3 60 dX3_causedTo_59 rfl rfl rfl ?_
    refine jr_ireturn dX3_causedTo_60 rfl rfl ?_
    exact h
  | succ m ih =>
    intro j hj
    refine jr_iload 7 dX3_causedTo_5 rfl rfl ?_
    refine jr_aload_n 0 8 dX3_causedTo_7 rfl rfl rfl ?_
    refine gf_X3_40 11 dX3_causedTo_8 rfl rfl rfl rfl ?_
    rw [hnc]
    refine jr_icmp_ge 59 14 dX3_causedTo_11 rfl rfl (fun z => absurd z (nI_ge (by omega) (by omega))) (fun q11 => ?_)
    refine jr_iload 16 dX3_causedTo_14 rfl rfl ?_
    refine jr_bipush (8) 18 dX3_causedTo_16 rfl rfl ?_
    refine jr_icmp_ge 59 21 dX3_causedTo_18 rfl rfl (fun z => absurd z (nI_ge (b := 8) (by omega) (by decide))) (fun q18 => ?_)
    refine jr_aload_n 0 22 dX3_causedTo_21 rfl rfl rfl ?_
    refine gf_X3_27 25 dX3_causedTo_22 rfl rfl rfl rfl ?_
    refine jr_iload 27 dX3_causedTo_25 rfl rfl ?_
    refine jr_iald rfl rfl (by omega) 28 dX3_causedTo_27 rfl ?_
    refine jr_iload_n 2 29 dX3_causedTo_28 rfl rfl rfl ?_
    refine jr_icmp_ne 53 32 dX3_causedTo_29 rfl rfl (fun q29 => ?_) (fun q29 => ?_)
    · refine jr_iinc (v := nI (j + 1)) (L' := [_, _, _, _, _]) 56 dX3_causedTo_53 rfl rfl (nI_1 j) (by decide) rfl ?_
      refine jr_goto 5 dX3_causedTo_56 rfl ?_
      first | exact ih (j + 1) (by omega) | (rw [show pu_cs (σ 21) (σ 22) (σ 23) f t j = pu_cs (σ 21) (σ 22) (σ 23) f t (j + 1) by rw [pu_cs, if_neg (by grind)]]; exact ih (j + 1) (by omega)) | (rw [show pu_cs (σ 21) (σ 22) (σ 23) f t j + σ 23 j = pu_cs (σ 21) (σ 22) (σ 23) f t (j + 1) by rw [pu_cs, if_pos (by grind)]]; exact ih (j + 1) (by omega))
    · refine jr_aload_n 0 33 dX3_causedTo_32 rfl rfl rfl ?_
      refine gf_X3_30 36 dX3_causedTo_33 rfl rfl rfl rfl ?_
      refine jr_iload 38 dX3_causedTo_36 rfl rfl ?_
      refine jr_iald rfl rfl (by omega) 39 dX3_causedTo_38 rfl ?_
      refine jr_iload_n 1 40 dX3_causedTo_39 rfl rfl rfl ?_
      refine jr_icmp_ne 53 43 dX3_causedTo_40 rfl rfl (fun q40 => ?_) (fun q40 => ?_)
      · refine jr_iinc (v := nI (j + 1)) (L' := [_, _, _, _, _]) 56 dX3_causedTo_53 rfl rfl (nI_1 j) (by decide) rfl ?_
        refine jr_goto 5 dX3_causedTo_56 rfl ?_
        first | exact ih (j + 1) (by omega) | (rw [show pu_cs (σ 21) (σ 22) (σ 23) f t j = pu_cs (σ 21) (σ 22) (σ 23) f t (j + 1) by rw [pu_cs, if_neg (by grind)]]; exact ih (j + 1) (by omega)) | (rw [show pu_cs (σ 21) (σ 22) (σ 23) f t j + σ 23 j = pu_cs (σ 21) (σ 22) (σ 23) f t (j + 1) by rw [pu_cs, if_pos (by grind)]]; exact ih (j + 1) (by omega))
      · refine jr_iload_n 3 44 dX3_causedTo_43 rfl rfl rfl ?_
        refine jr_aload_n 0 45 dX3_causedTo_44 rfl rfl rfl ?_
        refine gf_X3_33 48 dX3_causedTo_45 rfl rfl rfl rfl ?_
        refine jr_iload 50 dX3_causedTo_48 rfl rfl ?_
        refine jr_iald rfl rfl (by omega) 51 dX3_causedTo_50 rfl ?_
        refine jr_iadd 52 dX3_causedTo_51 rfl ?_
        refine jr_istore_n 3 (L' := [_, _, _, _, _]) 53 dX3_causedTo_52 rfl rfl (by decide) rfl ?_
        refine jr_iinc (v := nI (j + 1)) (L' := [_, _, _, _, _]) 56 dX3_causedTo_53 rfl rfl (nI_1 j) (by decide) rfl ?_
        refine jr_goto 5 dX3_causedTo_56 rfl ?_
        first | exact ih (j + 1) (by omega) | (rw [show pu_cs (σ 21) (σ 22) (σ 23) f t j = pu_cs (σ 21) (σ 22) (σ 23) f t (j + 1) by rw [pu_cs, if_neg (by grind)]]; exact ih (j + 1) (by omega)) | (rw [show pu_cs (σ 21) (σ 22) (σ 23) f t j + σ 23 j = pu_cs (σ 21) (σ 22) (σ 23) f t (j + 1) by rw [pu_cs, if_pos (by grind)]]; exact ih (j + 1) (by omega))
theorem wp_scaused_15 {G : jr_G} {d : Nat} {σ : jr_Sg} {k : Value → jr_Sg → Prop} {f t : Int32} {nc : Nat} (hnc : σ 15 9 = nI nc) (h8 : nc ≤ 8) (h : k (.int (pu_cs (σ 21) (σ 22) (σ 23) f t nc)) σ) : jr_M G d mi_X3_causedTo [.ref 15, .int f, .int t] σ (jr_k k) := by
  refine jr_enter (L := [some (.ref 15), some (.int f), some (.int t), none, none]) (by decide) (Nat.le_of_ble_eq_true rfl) rfl ?_
  refine jr_iconst (0) 1 dX3_causedTo_0 rfl rfl ?_
  refine jr_istore_n 3 (L' := [_, _, _, _, _]) 2 dX3_causedTo_1 rfl rfl (by decide) rfl ?_
  refine jr_iconst (0) 3 dX3_causedTo_2 rfl rfl ?_
  refine jr_istore (L' := [_, _, _, _, _]) 5 dX3_causedTo_3 rfl (by decide) rfl ?_
  exact scaused_loop_15 hnc h8 h nc 0 (by omega)
theorem sitter_loop_15 {G : jr_G} {d : Nat} {σ : jr_Sg} {k : Value → jr_Sg → Prop} {s : Int32} {nf : Nat} (hnf : σ 15 8 = nI nf) (h5 : nf ≤ 5) : ∀ (m j : Nat), j + m = nf → k (.int (match pu_sit (σ 19) s j m with | some i => nI i | none => -1)) σ → jr_R G d mi_X3_sitterOf (jr_k k) 2 [some (.ref 15), some (.int s), some (.int (nI j))] [] σ := by
  intro m
  induction m with
  | zero =>
    intro j hj h
    have e : j = nf := hj
    subst e
    refine jr_iload_n 2 3 dX3_sitterOf_2 rfl rfl rfl ?_
    refine jr_aload_n 0 4 dX3_sitterOf_3 rfl rfl rfl ?_
    refine gf_X3_36 7 dX3_sitterOf_4 rfl rfl rfl rfl ?_
    rw [hnf]
    refine jr_icmp_ge 33 10 dX3_sitterOf_7 rfl rfl (fun q7 => ?_) (fun z => absurd (Int32.le_refl _) z)
    refine jr_iconst ((-1)) 34 dX3_sitterOf_33 rfl rfl ?_
    refine jr_ireturn dX3_sitterOf_34 rfl rfl ?_
    exact h
  | succ m ih =>
    intro j hj h
    rw [pu_sit] at h
    refine jr_iload_n 2 3 dX3_sitterOf_2 rfl rfl rfl ?_
    refine jr_aload_n 0 4 dX3_sitterOf_3 rfl rfl rfl ?_
    refine gf_X3_36 7 dX3_sitterOf_4 rfl rfl rfl rfl ?_
    rw [hnf]
    refine jr_icmp_ge 33 10 dX3_sitterOf_7 rfl rfl (fun z => absurd z (nI_ge (by omega) (by omega))) (fun q7 => ?_)
    refine jr_iload_n 2 11 dX3_sitterOf_10 rfl rfl rfl ?_
    refine jr_iconst (5) 12 dX3_sitterOf_11 rfl rfl ?_
    refine jr_icmp_ge 33 15 dX3_sitterOf_12 rfl rfl (fun z => absurd z (nI_ge (b := 5) (by omega) (by decide))) (fun q12 => ?_)
    refine jr_aload_n 0 16 dX3_sitterOf_15 rfl rfl rfl ?_
    refine gf_X3_21 19 dX3_sitterOf_16 rfl rfl rfl rfl ?_
    refine jr_iload_n 2 20 dX3_sitterOf_19 rfl rfl rfl ?_
    refine jr_iald rfl rfl (by omega) 21 dX3_sitterOf_20 rfl ?_
    refine jr_iload_n 1 22 dX3_sitterOf_21 rfl rfl rfl ?_
    refine jr_icmp_ne 27 25 dX3_sitterOf_22 rfl rfl (fun q22 => ?_) (fun q22 => ?_)
    · refine jr_iinc (v := nI (j + 1)) (L' := [_, _, _]) 30 dX3_sitterOf_27 rfl rfl (nI_1 j) (by decide) rfl ?_
      refine jr_goto 2 dX3_sitterOf_30 rfl ?_
      rw [if_neg q22] at h
      exact ih (j + 1) (by omega) h
    · refine jr_iload_n 2 26 dX3_sitterOf_25 rfl rfl rfl ?_
      refine jr_ireturn dX3_sitterOf_26 rfl rfl ?_
      rw [if_pos q22] at h
      exact h
theorem wp_sitterOf_15 {G : jr_G} {d : Nat} {σ : jr_Sg} {k : Value → jr_Sg → Prop} {s : Int32} {nf : Nat} (hnf : σ 15 8 = nI nf) (h5 : nf ≤ 5) (h : k (.int (match pu_sit (σ 19) s 0 nf with | some i => nI i | none => -1)) σ) : jr_M G d mi_X3_sitterOf [.ref 15, .int s] σ (jr_k k) := by
  refine jr_enter (L := [some (.ref 15), some (.int s), none]) (by decide) (Nat.le_of_ble_eq_true rfl) rfl ?_
  refine jr_iconst (0) 1 dX3_sitterOf_0 rfl rfl ?_
  refine jr_istore_n 2 (L' := [_, _, _]) 2 dX3_sitterOf_1 rfl rfl (by decide) rfl ?_
  exact sitter_loop_15 hnf h5 nf 0 (by omega) h
theorem wp_lightOf_24 {G : jr_G} {d : Nat} {σ : jr_Sg} {k : Value → jr_Sg → Prop} {nf nc : Nat} {kd se : Nat → Nat} {f : Nat} (hsc : sc_ok 24 σ nf nc kd se) (hf : f < nf) (h : k (.int (σ 29 (se f))) σ) : jr_M G (d + 2) mi_X3_lightOf [.ref 24, .int (nI f)] σ (jr_k k) := by
  obtain ⟨hnf, h5, hnc, h8, hall⟩ := hsc
  obtain ⟨hk6, hs8, hkd, hse⟩ := hall f hf
  replace hkd : σ 25 f = nI (kd f) := hkd
  replace hse : σ 28 f = nI (se f) := hse
  refine jr_enter (L := [some (.ref 24), some (.int (nI f))]) (by decide) (Nat.le_of_ble_eq_true rfl) rfl ?_
  refine jr_aload_n 0 1 dX3_lightOf_0 rfl rfl rfl ?_
  refine jr_iload_n 1 2 dX3_lightOf_1 rfl rfl rfl ?_
  refine cs_X3_52 5 dX3_lightOf_2 rfl rfl rfl (Nat.le_of_ble_eq_true rfl) (wp_hasT_24 hnf h5 hf ?_)
  refine jr_if_eq 34 8 dX3_lightOf_5 rfl rfl (fun q => absurd q (by decide)) (fun q5 => ?_)
  refine jr_aload_n 0 9 dX3_lightOf_8 rfl rfl rfl ?_
  refine gf_X3_21 12 dX3_lightOf_9 rfl rfl rfl rfl ?_
  refine jr_iload_n 1 13 dX3_lightOf_12 rfl rfl rfl ?_
  refine jr_iale rfl rfl (by omega) hse 14 dX3_lightOf_13 rfl ?_
  refine cs_X3_56 17 dX3_lightOf_14 rfl rfl (Nat.le_of_ble_eq_true rfl) (wp_isSeat (fun q r => ?_) (fun q => absurd ⟨nI_pos' (by omega), nI_le (b := 7) (by omega) (by decide)⟩ q))
  refine jr_if_eq 34 20 dX3_lightOf_17 rfl rfl (fun q => absurd q (by decide)) (fun q17 => ?_)
  refine jr_aload_n 0 21 dX3_lightOf_20 rfl rfl rfl ?_
  refine gf_X3_24 24 dX3_lightOf_21 rfl rfl rfl rfl ?_
  refine jr_aload_n 0 25 dX3_lightOf_24 rfl rfl rfl ?_
  refine gf_X3_21 28 dX3_lightOf_25 rfl rfl rfl rfl ?_
  refine jr_iload_n 1 29 dX3_lightOf_28 rfl rfl rfl ?_
  refine jr_iale rfl rfl (by omega) hse 30 dX3_lightOf_29 rfl ?_
  refine jr_iald rfl rfl hs8 31 dX3_lightOf_30 rfl ?_
  refine jr_goto 35 dX3_lightOf_31 rfl ?_
  refine jr_ireturn dX3_lightOf_35 rfl rfl ?_
  exact h
theorem wp_sredFrom_24 {G : jr_G} {d : Nat} {σ : jr_Sg} {k : Value → jr_Sg → Prop} {nf nc : Nat} {kd se : Nat → Nat} {f : Nat} (hsc : sc_ok 24 σ nf nc kd se) (hf : f < nf) (h : k (.int (pu_redf (kd f) (σ 26 f) (σ 29 (se f)))) σ) : jr_M G (d + 3) mi_X3_redFrom [.ref 24, .int (nI f)] σ (jr_k k) := by
  have hsc0 := hsc
  obtain ⟨hnf, h5, hnc, h8, hall⟩ := hsc
  obtain ⟨hk6, hs8, hkd, hse⟩ := hall f hf
  replace hkd : σ 25 f = nI (kd f) := hkd
  replace hse : σ 28 f = nI (se f) := hse
  refine jr_enter (L := [some (.ref 24), some (.int (nI f))]) (by decide) (Nat.le_of_ble_eq_true rfl) rfl ?_
  refine jr_aload_n 0 1 dX3_redFrom_0 rfl rfl rfl ?_
  refine jr_iload_n 1 2 dX3_redFrom_1 rfl rfl rfl ?_
  refine cs_X3_52 5 dX3_redFrom_2 rfl rfl rfl (Nat.le_of_ble_eq_true rfl) (wp_hasT_24 hnf h5 hf ?_)
  refine jr_if_eq 31 8 dX3_redFrom_5 rfl rfl (fun q => absurd q (by decide)) (fun q5 => ?_)
  refine jr_aload_n 0 9 dX3_redFrom_8 rfl rfl rfl ?_
  refine gf_X3_9 12 dX3_redFrom_9 rfl rfl rfl rfl ?_
  refine jr_iload_n 1 13 dX3_redFrom_12 rfl rfl rfl ?_
  refine jr_iale rfl rfl (by omega) hkd 14 dX3_redFrom_13 rfl ?_
  refine jr_aload_n 0 15 dX3_redFrom_14 rfl rfl rfl ?_
  refine gf_X3_15 18 dX3_redFrom_15 rfl rfl rfl rfl ?_
  refine jr_iload_n 1 19 dX3_redFrom_18 rfl rfl rfl ?_
  refine jr_iald rfl rfl (by omega) 20 dX3_redFrom_19 rfl ?_
  refine jr_aload_n 0 21 dX3_redFrom_20 rfl rfl rfl ?_
  refine jr_iload_n 1 22 dX3_redFrom_21 rfl rfl rfl ?_
  refine cs_X3_63 25 dX3_redFrom_22 rfl rfl rfl (Nat.le_of_ble_eq_true rfl) (wp_lightOf_24 hsc0 hf ?_)
  refine cs_X3_66 28 dX3_redFrom_25 rfl rfl (Nat.le_of_ble_eq_true rfl) (wp_kredf hk6 ?_)
  refine jr_goto 32 dX3_redFrom_28 rfl ?_
  refine jr_ireturn dX3_redFrom_32 rfl rfl ?_
  exact h
theorem scaused_loop_24 {G : jr_G} {d : Nat} {σ : jr_Sg} {k : Value → jr_Sg → Prop} {f t : Int32} {nc : Nat} (hnc : σ 24 9 = nI nc) (h8 : nc ≤ 8) (h : k (.int (pu_cs (σ 30) (σ 31) (σ 32) f t nc)) σ) : ∀ (m j : Nat), j + m = nc → jr_R G d mi_X3_causedTo (jr_k k) 5 [some (.ref 24), some (.int f), some (.int t), some (.int (pu_cs (σ 30) (σ 31) (σ 32) f t j)), some (.int (nI j))] [] σ := by
  intro m
  induction m with
  | zero =>
    intro j hj
    have e : j = nc := hj
    subst e
    refine jr_iload 7 dX3_causedTo_5 rfl rfl ?_
    refine jr_aload_n 0 8 dX3_causedTo_7 rfl rfl rfl ?_
    refine gf_X3_40 11 dX3_causedTo_8 rfl rfl rfl rfl ?_
    rw [hnc]
    refine jr_icmp_ge 59 14 dX3_causedTo_11 rfl rfl (fun q11 => ?_) (fun z => absurd (Int32.le_refl _) z)
    refine jr_iload_n 3 60 dX3_causedTo_59 rfl rfl rfl ?_
    refine jr_ireturn dX3_causedTo_60 rfl rfl ?_
    exact h
  | succ m ih =>
    intro j hj
    refine jr_iload 7 dX3_causedTo_5 rfl rfl ?_
    refine jr_aload_n 0 8 dX3_causedTo_7 rfl rfl rfl ?_
    refine gf_X3_40 11 dX3_causedTo_8 rfl rfl rfl rfl ?_
    rw [hnc]
    refine jr_icmp_ge 59 14 dX3_causedTo_11 rfl rfl (fun z => absurd z (nI_ge (by omega) (by omega))) (fun q11 => ?_)
    refine jr_iload 16 dX3_causedTo_14 rfl rfl ?_
    refine jr_bipush (8) 18 dX3_causedTo_16 rfl rfl ?_
    refine jr_icmp_ge 59 21 dX3_causedTo_18 rfl rfl (fun z => absurd z (nI_ge (b := 8) (by omega) (by decide))) (fun q18 => ?_)
    refine jr_aload_n 0 22 dX3_causedTo_21 rfl rfl rfl ?_
    refine gf_X3_27 25 dX3_causedTo_22 rfl rfl rfl rfl ?_
    refine jr_iload 27 dX3_causedTo_25 rfl rfl ?_
    refine jr_iald rfl rfl (by omega) 28 dX3_causedTo_27 rfl ?_
    refine jr_iload_n 2 29 dX3_causedTo_28 rfl rfl rfl ?_
    refine jr_icmp_ne 53 32 dX3_causedTo_29 rfl rfl (fun q29 => ?_) (fun q29 => ?_)
    · refine jr_iinc (v := nI (j + 1)) (L' := [_, _, _, _, _]) 56 dX3_causedTo_53 rfl rfl (nI_1 j) (by decide) rfl ?_
      refine jr_goto 5 dX3_causedTo_56 rfl ?_
      first | exact ih (j + 1) (by omega) | (rw [show pu_cs (σ 30) (σ 31) (σ 32) f t j = pu_cs (σ 30) (σ 31) (σ 32) f t (j + 1) by rw [pu_cs, if_neg (by grind)]]; exact ih (j + 1) (by omega)) | (rw [show pu_cs (σ 30) (σ 31) (σ 32) f t j + σ 32 j = pu_cs (σ 30) (σ 31) (σ 32) f t (j + 1) by rw [pu_cs, if_pos (by grind)]]; exact ih (j + 1) (by omega))
    · refine jr_aload_n 0 33 dX3_causedTo_32 rfl rfl rfl ?_
      refine gf_X3_30 36 dX3_causedTo_33 rfl rfl rfl rfl ?_
      refine jr_iload 38 dX3_causedTo_36 rfl rfl ?_
      refine jr_iald rfl rfl (by omega) 39 dX3_causedTo_38 rfl ?_
      refine jr_iload_n 1 40 dX3_causedTo_39 rfl rfl rfl ?_
      refine jr_icmp_ne 53 43 dX3_causedTo_40 rfl rfl (fun q40 => ?_) (fun q40 => ?_)
      · refine jr_iinc (v := nI (j + 1)) (L' := [_, _, _, _, _]) 56 dX3_causedTo_53 rfl rfl (nI_1 j) (by decide) rfl ?_
        refine jr_goto 5 dX3_causedTo_56 rfl ?_
        first | exact ih (j + 1) (by omega) | (rw [show pu_cs (σ 30) (σ 31) (σ 32) f t j = pu_cs (σ 30) (σ 31) (σ 32) f t (j + 1) by rw [pu_cs, if_neg (by grind)]]; exact ih (j + 1) (by omega)) | (rw [show pu_cs (σ 30) (σ 31) (σ 32) f t j + σ 32 j = pu_cs (σ 30) (σ 31) (σ 32) f t (j + 1) by rw [pu_cs, if_pos (by grind)]]; exact ih (j + 1) (by omega))
      · refine jr_iload_n 3 44 dX3_causedTo_43 rfl rfl rfl ?_
        refine jr_aload_n 0 45 dX3_causedTo_44 rfl rfl rfl ?_
        refine gf_X3_33 48 dX3_causedTo_45 rfl rfl rfl rfl ?_
        refine jr_iload 50 dX3_causedTo_48 rfl rfl ?_
        refine jr_iald rfl rfl (by omega) 51 dX3_causedTo_50 rfl ?_
        refine jr_iadd 52 dX3_causedTo_51 rfl ?_
        refine jr_istore_n 3 (L' := [_, _, _, _, _]) 53 dX3_causedTo_52 rfl rfl (by decide) rfl ?_
        refine jr_iinc (v := nI (j + 1)) (L' := [_, _, _, _, _]) 56 dX3_causedTo_53 rfl rfl (nI_1 j) (by decide) rfl ?_
        refine jr_goto 5 dX3_causedTo_56 rfl ?_
        first | exact ih (j + 1) (by omega) | (rw [show pu_cs (σ 30) (σ 31) (σ 32) f t j = pu_cs (σ 30) (σ 31) (σ 32) f t (j + 1) by rw [pu_cs, if_neg (by grind)]]; exact ih (j + 1) (by omega)) | (rw [show pu_cs (σ 30) (σ 31) (σ 32) f t j + σ 32 j = pu_cs (σ 30) (σ 31) (σ 32) f t (j + 1) by rw [pu_cs, if_pos (by grind)]]; exact ih (j + 1) (by omega))
theorem wp_scaused_24 {G : jr_G} {d : Nat} {σ : jr_Sg} {k : Value → jr_Sg → Prop} {f t : Int32} {nc : Nat} (hnc : σ 24 9 = nI nc) (h8 : nc ≤ 8) (h : k (.int (pu_cs (σ 30) (σ 31) (σ 32) f t nc)) σ) : jr_M G d mi_X3_causedTo [.ref 24, .int f, .int t] σ (jr_k k) := by
  refine jr_enter (L := [some (.ref 24), some (.int f), some (.int t), none, none]) (by decide) (Nat.le_of_ble_eq_true rfl) rfl ?_
  refine jr_iconst (0) 1 dX3_causedTo_0 rfl rfl ?_
  refine jr_istore_n 3 (L' := [_, _, _, _, _]) 2 dX3_causedTo_1 rfl rfl (by decide) rfl ?_
  refine jr_iconst (0) 3 dX3_causedTo_2 rfl rfl ?_
  refine jr_istore (L' := [_, _, _, _, _]) 5 dX3_causedTo_3 rfl (by decide) rfl ?_
  exact scaused_loop_24 hnc h8 h nc 0 (by omega)
theorem sitter_loop_24 {G : jr_G} {d : Nat} {σ : jr_Sg} {k : Value → jr_Sg → Prop} {s : Int32} {nf : Nat} (hnf : σ 24 8 = nI nf) (h5 : nf ≤ 5) : ∀ (m j : Nat), j + m = nf → k (.int (match pu_sit (σ 28) s j m with | some i => nI i | none => -1)) σ → jr_R G d mi_X3_sitterOf (jr_k k) 2 [some (.ref 24), some (.int s), some (.int (nI j))] [] σ := by
  intro m
  induction m with
  | zero =>
    intro j hj h
    have e : j = nf := hj
    subst e
    refine jr_iload_n 2 3 dX3_sitterOf_2 rfl rfl rfl ?_
    refine jr_aload_n 0 4 dX3_sitterOf_3 rfl rfl rfl ?_
    refine gf_X3_36 7 dX3_sitterOf_4 rfl rfl rfl rfl ?_
    rw [hnf]
    refine jr_icmp_ge 33 10 dX3_sitterOf_7 rfl rfl (fun q7 => ?_) (fun z => absurd (Int32.le_refl _) z)
    refine jr_iconst ((-1)) 34 dX3_sitterOf_33 rfl rfl ?_
    refine jr_ireturn dX3_sitterOf_34 rfl rfl ?_
    exact h
  | succ m ih =>
    intro j hj h
    rw [pu_sit] at h
    refine jr_iload_n 2 3 dX3_sitterOf_2 rfl rfl rfl ?_
    refine jr_aload_n 0 4 dX3_sitterOf_3 rfl rfl rfl ?_
    refine gf_X3_36 7 dX3_sitterOf_4 rfl rfl rfl rfl ?_
    rw [hnf]
    refine jr_icmp_ge 33 10 dX3_sitterOf_7 rfl rfl (fun z => absurd z (nI_ge (by omega) (by omega))) (fun q7 => ?_)
    refine jr_iload_n 2 11 dX3_sitterOf_10 rfl rfl rfl ?_
    refine jr_iconst (5) 12 dX3_sitterOf_11 rfl rfl ?_
    refine jr_icmp_ge 33 15 dX3_sitterOf_12 rfl rfl (fun z => absurd z (nI_ge (b := 5) (by omega) (by decide))) (fun q12 => ?_)
    refine jr_aload_n 0 16 dX3_sitterOf_15 rfl rfl rfl ?_
    refine gf_X3_21 19 dX3_sitterOf_16 rfl rfl rfl rfl ?_
    refine jr_iload_n 2 20 dX3_sitterOf_19 rfl rfl rfl ?_
    refine jr_iald rfl rfl (by omega) 21 dX3_sitterOf_20 rfl ?_
    refine jr_iload_n 1 22 dX3_sitterOf_21 rfl rfl rfl ?_
    refine jr_icmp_ne 27 25 dX3_sitterOf_22 rfl rfl (fun q22 => ?_) (fun q22 => ?_)
    · refine jr_iinc (v := nI (j + 1)) (L' := [_, _, _]) 30 dX3_sitterOf_27 rfl rfl (nI_1 j) (by decide) rfl ?_
      refine jr_goto 2 dX3_sitterOf_30 rfl ?_
      rw [if_neg q22] at h
      exact ih (j + 1) (by omega) h
    · refine jr_iload_n 2 26 dX3_sitterOf_25 rfl rfl rfl ?_
      refine jr_ireturn dX3_sitterOf_26 rfl rfl ?_
      rw [if_pos q22] at h
      exact h
theorem wp_sitterOf_24 {G : jr_G} {d : Nat} {σ : jr_Sg} {k : Value → jr_Sg → Prop} {s : Int32} {nf : Nat} (hnf : σ 24 8 = nI nf) (h5 : nf ≤ 5) (h : k (.int (match pu_sit (σ 28) s 0 nf with | some i => nI i | none => -1)) σ) : jr_M G d mi_X3_sitterOf [.ref 24, .int s] σ (jr_k k) := by
  refine jr_enter (L := [some (.ref 24), some (.int s), none]) (by decide) (Nat.le_of_ble_eq_true rfl) rfl ?_
  refine jr_iconst (0) 1 dX3_sitterOf_0 rfl rfl ?_
  refine jr_istore_n 2 (L' := [_, _, _]) 2 dX3_sitterOf_1 rfl rfl (by decide) rfl ?_
  exact sitter_loop_24 hnf h5 nf 0 (by omega) h
theorem pu_sit_some {se : Nat → Int32} {s : Int32} : ∀ (n i j : Nat), pu_sit se s i n = some j → i ≤ j ∧ j < i + n ∧ se j = s
  | 0, i, j, h => by cases h
  | n + 1, i, j, h => by
    rw [pu_sit] at h
    by_cases e : se i = s
    · rw [if_pos e] at h
      cases h
      exact ⟨Nat.le_refl _, by omega, e⟩
    · rw [if_neg e] at h
      obtain ⟨h1, h2, h3⟩ := pu_sit_some n (i + 1) j h
      exact ⟨by omega, by omega, h3⟩
theorem pu_sit_none {se : Nat → Int32} {s : Int32} : ∀ (n i : Nat), pu_sit se s i n = none → ∀ j, i ≤ j → j < i + n → ¬ se j = s
  | 0, i, h, j, h1, h2 => by omega
  | n + 1, i, h, j, h1, h2 => by
    rw [pu_sit] at h
    by_cases e : se i = s
    · rw [if_pos e] at h
      cases h
    · rw [if_neg e] at h
      rcases (by omega : j = i ∨ i + 1 ≤ j) with rfl | q
      · exact e
      · exact pu_sit_none n (i + 1) h j q (by omega)
theorem pu_sit_congr {se se' : Nat → Int32} {s : Int32} : ∀ (n i : Nat), (∀ j, i ≤ j → j < i + n → se j = se' j) → pu_sit se s i n = pu_sit se' s i n
  | 0, _, _ => rfl
  | n + 1, i, h => by
    rw [pu_sit, pu_sit, h i (Nat.le_refl _) (by omega), pu_sit_congr n (i + 1) (fun j h1 h2 => h j (by omega) (by omega))]
/-- the seats behind a move of f into s -/
def pu_move (se : Nat → Int32) (nf f : Nat) (s : Int32) : Nat → Int32 := match pu_sit se s 0 nf with
  | some i => upd (upd se i (se f)) f s
  | none => upd se f s
theorem wp_move_15 {G : jr_G} {d : Nat} {σ : jr_Sg} {k : jr_Sg → Prop} {nf f s : Nat} (hnf : σ 15 8 = nI nf) (h5 : nf ≤ 5) (hf : f < nf) (hs : s < 8) (h : k (jr_upc σ 19 (pu_move (σ 19) nf f (nI s)))) : jr_M G (d + 2) mi_X3_move [.ref 15, .int (nI f), .int (nI s)] σ (jr_kv k) := by
  unfold pu_move at h
  refine jr_enter (L := [some (.ref 15), some (.int (nI f)), some (.int (nI s)), none]) (by decide) (Nat.le_of_ble_eq_true rfl) rfl ?_
  cases hsit : pu_sit (σ 19) (nI s) 0 nf with
  | none =>
    rw [hsit] at h
    refine jr_aload_n 0 1 dX3_move_0 rfl rfl rfl ?_
    refine jr_iload_n 1 2 dX3_move_1 rfl rfl rfl ?_
    refine cs_X3_52 5 dX3_move_2 rfl rfl rfl (Nat.le_of_ble_eq_true rfl) (wp_hasT_15 hnf h5 hf ?_)
    refine jr_if_eq 15 8 dX3_move_5 rfl rfl (fun q => absurd q (by decide)) (fun q5 => ?_)
    refine jr_iload_n 2 9 dX3_move_8 rfl rfl rfl ?_
    refine cs_X3_56 12 dX3_move_9 rfl rfl (Nat.le_of_ble_eq_true rfl) (wp_isSeat (fun q r => ?_) (fun q => absurd ⟨nI_pos' (by omega), nI_le (b := 7) (by omega) (by decide)⟩ q))
    refine jr_if_ne 16 15 dX3_move_12 rfl rfl (fun q12 => ?_) (fun q => absurd q (by decide))
    refine jr_aload_n 0 17 dX3_move_16 rfl rfl rfl ?_
    refine jr_iload_n 2 18 dX3_move_17 rfl rfl rfl ?_
    refine cs_X3_59 21 dX3_move_18 rfl rfl rfl (Nat.le_of_ble_eq_true rfl) (wp_sitterOf_15 hnf h5 ?_)
    rw [hsit]
    refine jr_istore_n 3 (L' := [_, _, _, _]) 22 dX3_move_21 rfl rfl (by decide) rfl ?_
    refine jr_aload_n 0 23 dX3_move_22 rfl rfl rfl ?_
    refine jr_iload_n 3 24 dX3_move_23 rfl rfl rfl ?_
    refine cs_X3_52 27 dX3_move_24 rfl rfl rfl (Nat.le_of_ble_eq_true rfl) (wp_has_15 hnf h5 (fun j hj e => (jr_m1 (by omega) e).elim) (fun _ => ?_))
    refine jr_if_eq 42 30 dX3_move_27 rfl rfl (fun q27 => ?_) (fun q => absurd (by decide) q)
    refine jr_aload_n 0 43 dX3_move_42 rfl rfl rfl ?_
    refine gf_X3_21 46 dX3_move_43 rfl rfl rfl rfl ?_
    refine jr_iload_n 1 47 dX3_move_46 rfl rfl rfl ?_
    refine jr_iload_n 2 48 dX3_move_47 rfl rfl rfl ?_
    refine jr_iast rfl rfl (by omega) 49 dX3_move_48 rfl ?_
    refine jr_return dX3_move_49 rfl ?_
    exact h
  | some i =>
    rw [hsit] at h
    obtain ⟨-, hi, -⟩ := pu_sit_some _ _ _ hsit
    have hi2 : i < nf := by omega
    refine jr_aload_n 0 1 dX3_move_0 rfl rfl rfl ?_
    refine jr_iload_n 1 2 dX3_move_1 rfl rfl rfl ?_
    refine cs_X3_52 5 dX3_move_2 rfl rfl rfl (Nat.le_of_ble_eq_true rfl) (wp_hasT_15 hnf h5 hf ?_)
    refine jr_if_eq 15 8 dX3_move_5 rfl rfl (fun q => absurd q (by decide)) (fun q5 => ?_)
    refine jr_iload_n 2 9 dX3_move_8 rfl rfl rfl ?_
    refine cs_X3_56 12 dX3_move_9 rfl rfl (Nat.le_of_ble_eq_true rfl) (wp_isSeat (fun q r => ?_) (fun q => absurd ⟨nI_pos' (by omega), nI_le (b := 7) (by omega) (by decide)⟩ q))
    refine jr_if_ne 16 15 dX3_move_12 rfl rfl (fun q12 => ?_) (fun q => absurd q (by decide))
    refine jr_aload_n 0 17 dX3_move_16 rfl rfl rfl ?_
    refine jr_iload_n 2 18 dX3_move_17 rfl rfl rfl ?_
    refine cs_X3_59 21 dX3_move_18 rfl rfl rfl (Nat.le_of_ble_eq_true rfl) (wp_sitterOf_15 hnf h5 ?_)
    rw [hsit]
    refine jr_istore_n 3 (L' := [_, _, _, _]) 22 dX3_move_21 rfl rfl (by decide) rfl ?_
    refine jr_aload_n 0 23 dX3_move_22 rfl rfl rfl ?_
    refine jr_iload_n 3 24 dX3_move_23 rfl rfl rfl ?_
    refine cs_X3_52 27 dX3_move_24 rfl rfl rfl (Nat.le_of_ble_eq_true rfl) (wp_hasT_15 hnf h5 hi2 ?_)
    refine jr_if_eq 42 30 dX3_move_27 rfl rfl (fun q => absurd q (by decide)) (fun q27 => ?_)
    refine jr_aload_n 0 31 dX3_move_30 rfl rfl rfl ?_
    refine gf_X3_21 34 dX3_move_31 rfl rfl rfl rfl ?_
    refine jr_iload_n 3 35 dX3_move_34 rfl rfl rfl ?_
    refine jr_aload_n 0 36 dX3_move_35 rfl rfl rfl ?_
    refine gf_X3_21 39 dX3_move_36 rfl rfl rfl rfl ?_
    refine jr_iload_n 1 40 dX3_move_39 rfl rfl rfl ?_
    refine jr_iald rfl rfl (by omega) 41 dX3_move_40 rfl ?_
    refine jr_iast rfl rfl (by omega) 42 dX3_move_41 rfl ?_
    refine jr_aload_n 0 43 dX3_move_42 rfl rfl rfl ?_
    refine gf_X3_21 46 dX3_move_43 rfl rfl rfl rfl ?_
    refine jr_iload_n 1 47 dX3_move_46 rfl rfl rfl ?_
    refine jr_iload_n 2 48 dX3_move_47 rfl rfl rfl ?_
    refine jr_iast rfl rfl (by omega) 49 dX3_move_48 rfl ?_
    refine jr_return dX3_move_49 rfl ?_
    simp only [jr_up_upc, jr_upc_upc, jr_upc_at]
    exact h
theorem wp_move_24 {G : jr_G} {d : Nat} {σ : jr_Sg} {k : jr_Sg → Prop} {nf f s : Nat} (hnf : σ 24 8 = nI nf) (h5 : nf ≤ 5) (hf : f < nf) (hs : s < 8) (h : k (jr_upc σ 28 (pu_move (σ 28) nf f (nI s)))) : jr_M G (d + 2) mi_X3_move [.ref 24, .int (nI f), .int (nI s)] σ (jr_kv k) := by
  unfold pu_move at h
  refine jr_enter (L := [some (.ref 24), some (.int (nI f)), some (.int (nI s)), none]) (by decide) (Nat.le_of_ble_eq_true rfl) rfl ?_
  cases hsit : pu_sit (σ 28) (nI s) 0 nf with
  | none =>
    rw [hsit] at h
    refine jr_aload_n 0 1 dX3_move_0 rfl rfl rfl ?_
    refine jr_iload_n 1 2 dX3_move_1 rfl rfl rfl ?_
    refine cs_X3_52 5 dX3_move_2 rfl rfl rfl (Nat.le_of_ble_eq_true rfl) (wp_hasT_24 hnf h5 hf ?_)
    refine jr_if_eq 15 8 dX3_move_5 rfl rfl (fun q => absurd q (by decide)) (fun q5 => ?_)
    refine jr_iload_n 2 9 dX3_move_8 rfl rfl rfl ?_
    refine cs_X3_56 12 dX3_move_9 rfl rfl (Nat.le_of_ble_eq_true rfl) (wp_isSeat (fun q r => ?_) (fun q => absurd ⟨nI_pos' (by omega), nI_le (b := 7) (by omega) (by decide)⟩ q))
    refine jr_if_ne 16 15 dX3_move_12 rfl rfl (fun q12 => ?_) (fun q => absurd q (by decide))
    refine jr_aload_n 0 17 dX3_move_16 rfl rfl rfl ?_
    refine jr_iload_n 2 18 dX3_move_17 rfl rfl rfl ?_
    refine cs_X3_59 21 dX3_move_18 rfl rfl rfl (Nat.le_of_ble_eq_true rfl) (wp_sitterOf_24 hnf h5 ?_)
    rw [hsit]
    refine jr_istore_n 3 (L' := [_, _, _, _]) 22 dX3_move_21 rfl rfl (by decide) rfl ?_
    refine jr_aload_n 0 23 dX3_move_22 rfl rfl rfl ?_
    refine jr_iload_n 3 24 dX3_move_23 rfl rfl rfl ?_
    refine cs_X3_52 27 dX3_move_24 rfl rfl rfl (Nat.le_of_ble_eq_true rfl) (wp_has_24 hnf h5 (fun j hj e => (jr_m1 (by omega) e).elim) (fun _ => ?_))
    refine jr_if_eq 42 30 dX3_move_27 rfl rfl (fun q27 => ?_) (fun q => absurd (by decide) q)
    refine jr_aload_n 0 43 dX3_move_42 rfl rfl rfl ?_
    refine gf_X3_21 46 dX3_move_43 rfl rfl rfl rfl ?_
    refine jr_iload_n 1 47 dX3_move_46 rfl rfl rfl ?_
    refine jr_iload_n 2 48 dX3_move_47 rfl rfl rfl ?_
    refine jr_iast rfl rfl (by omega) 49 dX3_move_48 rfl ?_
    refine jr_return dX3_move_49 rfl ?_
    exact h
  | some i =>
    rw [hsit] at h
    obtain ⟨-, hi, -⟩ := pu_sit_some _ _ _ hsit
    have hi2 : i < nf := by omega
    refine jr_aload_n 0 1 dX3_move_0 rfl rfl rfl ?_
    refine jr_iload_n 1 2 dX3_move_1 rfl rfl rfl ?_
    refine cs_X3_52 5 dX3_move_2 rfl rfl rfl (Nat.le_of_ble_eq_true rfl) (wp_hasT_24 hnf h5 hf ?_)
    refine jr_if_eq 15 8 dX3_move_5 rfl rfl (fun q => absurd q (by decide)) (fun q5 => ?_)
    refine jr_iload_n 2 9 dX3_move_8 rfl rfl rfl ?_
    refine cs_X3_56 12 dX3_move_9 rfl rfl (Nat.le_of_ble_eq_true rfl) (wp_isSeat (fun q r => ?_) (fun q => absurd ⟨nI_pos' (by omega), nI_le (b := 7) (by omega) (by decide)⟩ q))
    refine jr_if_ne 16 15 dX3_move_12 rfl rfl (fun q12 => ?_) (fun q => absurd q (by decide))
    refine jr_aload_n 0 17 dX3_move_16 rfl rfl rfl ?_
    refine jr_iload_n 2 18 dX3_move_17 rfl rfl rfl ?_
    refine cs_X3_59 21 dX3_move_18 rfl rfl rfl (Nat.le_of_ble_eq_true rfl) (wp_sitterOf_24 hnf h5 ?_)
    rw [hsit]
    refine jr_istore_n 3 (L' := [_, _, _, _]) 22 dX3_move_21 rfl rfl (by decide) rfl ?_
    refine jr_aload_n 0 23 dX3_move_22 rfl rfl rfl ?_
    refine jr_iload_n 3 24 dX3_move_23 rfl rfl rfl ?_
    refine cs_X3_52 27 dX3_move_24 rfl rfl rfl (Nat.le_of_ble_eq_true rfl) (wp_hasT_24 hnf h5 hi2 ?_)
    refine jr_if_eq 42 30 dX3_move_27 rfl rfl (fun q => absurd q (by decide)) (fun q27 => ?_)
    refine jr_aload_n 0 31 dX3_move_30 rfl rfl rfl ?_
    refine gf_X3_21 34 dX3_move_31 rfl rfl rfl rfl ?_
    refine jr_iload_n 3 35 dX3_move_34 rfl rfl rfl ?_
    refine jr_aload_n 0 36 dX3_move_35 rfl rfl rfl ?_
    refine gf_X3_21 39 dX3_move_36 rfl rfl rfl rfl ?_
    refine jr_iload_n 1 40 dX3_move_39 rfl rfl rfl ?_
    refine jr_iald rfl rfl (by omega) 41 dX3_move_40 rfl ?_
    refine jr_iast rfl rfl (by omega) 42 dX3_move_41 rfl ?_
    refine jr_aload_n 0 43 dX3_move_42 rfl rfl rfl ?_
    refine gf_X3_21 46 dX3_move_43 rfl rfl rfl rfl ?_
    refine jr_iload_n 1 47 dX3_move_46 rfl rfl rfl ?_
    refine jr_iload_n 2 48 dX3_move_47 rfl rfl rfl ?_
    refine jr_iast rfl rfl (by omega) 49 dX3_move_48 rfl ?_
    refine jr_return dX3_move_49 rfl ?_
    simp only [jr_up_upc, jr_upc_upc, jr_upc_at]
    exact h

theorem le3_of {v : Int32} (h : v < 4) : v ≤ 3 := by
  rw [Int32.le_iff_toInt_le]
  rw [Int32.lt_iff_toInt_lt] at h
  have e1 : (4 : Int32).toInt = 4 := by decide
  have e2 : (3 : Int32).toInt = 3 := by decide
  omega
theorem nI_int {n : Nat} (h : n < 2 ^ 31) : (nI n).toInt = n := by
  unfold nI
  rw [Int32.toInt_ofNat']
  have hs : ((Int32.size : Nat) : Int) = 4294967296 := rfl
  exact Int.bmod_eq_of_le (by omega) (by omega)
theorem c4 {v : Int32} (h : 0 ≤ v ∧ v ≤ 3) : ∃ j : Nat, j < 4 ∧ v = nI j := by
  rcases jr_rg v (m := 3) (by decide) with q | ⟨j, hj, e⟩
  · exact absurd h q
  · exact ⟨j, by omega, e⟩
theorem c4n {j : Nat} (h : j < 4) : 0 ≤ nI j ∧ nI j ≤ 3 := ⟨nI_pos' (by omega), nI_le (b := 3) (by omega) (by omega)⟩
theorem wp_shas {G : jr_G} {d : Nat} {σ : jr_Sg} {k : Value → jr_Sg → Prop} {v : Int32} (h1 : 0 ≤ v ∧ v ≤ 3 → k (.int 1) σ) (h0 : ¬ (0 ≤ v ∧ v ≤ 3) → k (.int 0) σ) : jr_M G (d) mi_X5_has [.ref 42, .int v] σ (jr_k k) := by
  refine jr_enter (L := [some (.ref 42), some (.int v)]) (by decide) (Nat.le_of_ble_eq_true rfl) rfl ?_
  refine jr_iload_n 1 1 dX5_has_0 rfl rfl rfl ?_
  refine jr_if_lt 13 4 dX5_has_1 rfl rfl (fun q1 => ?_) (fun q1 => ?_)
  · refine jr_iconst (0) 14 dX5_has_13 rfl rfl ?_
    refine jr_ireturn dX5_has_14 rfl rfl ?_
    exact h0 (by first | exact fun z => absurd z.1 (Int32.not_le.mpr (by assumption)) | exact fun z => absurd (Int32.le_trans (by assumption) z.2) (by decide))
  · refine jr_iload_n 1 5 dX5_has_4 rfl rfl rfl ?_
    refine jr_iconst (4) 6 dX5_has_5 rfl rfl ?_
    refine jr_icmp_ge 13 9 dX5_has_6 rfl rfl (fun q6 => ?_) (fun q6 => ?_)
    · refine jr_iconst (0) 14 dX5_has_13 rfl rfl ?_
      refine jr_ireturn dX5_has_14 rfl rfl ?_
      exact h0 (by first | exact fun z => absurd z.1 (Int32.not_le.mpr (by assumption)) | exact fun z => absurd (Int32.le_trans (by assumption) z.2) (by decide))
    · refine jr_iconst (1) 10 dX5_has_9 rfl rfl ?_
      refine jr_goto 14 dX5_has_10 rfl ?_
      refine jr_ireturn dX5_has_14 rfl rfl ?_
      exact h1 ⟨Int32.not_lt.mp q1, le3_of (Int32.not_le.mp q6)⟩
theorem wp_shasT {G : jr_G} {d : Nat} {σ : jr_Sg} {k : Value → jr_Sg → Prop} {j : Nat} (hj : j < 4) (h : k (.int 1) σ) : jr_M G d mi_X5_has [.ref 42, .int (nI j)] σ (jr_k k) := wp_shas (fun _ => h) (fun q => absurd (c4n hj) q)
theorem wp_shasF {G : jr_G} {d : Nat} {σ : jr_Sg} {k : Value → jr_Sg → Prop} {v : Int32} (hv : ¬ (0 ≤ v ∧ v ≤ 3)) (h : k (.int 0) σ) : jr_M G d mi_X5_has [.ref 42, .int v] σ (jr_k k) := wp_shas (fun q => absurd q hv) (fun _ => h)
theorem wp_isMissing {G : jr_G} {d : Nat} {σ : jr_Sg} {k : Value → jr_Sg → Prop} {j : Nat} (hj : j < 4) (h1 : σ 43 j = -1 → k (.int 1) σ) (h0 : ¬ σ 43 j = -1 → k (.int 0) σ) : jr_M G (d + 1) mi_X5_isMissing [.ref 42, .int (nI j)] σ (jr_k k) := by
  refine jr_enter (L := [some (.ref 42), some (.int (nI j))]) (by decide) (Nat.le_of_ble_eq_true rfl) rfl ?_
  refine jr_aload_n 0 1 dX5_isMissing_0 rfl rfl rfl ?_
  refine jr_iload_n 1 2 dX5_isMissing_1 rfl rfl rfl ?_
  refine cs_X5_21 5 dX5_isMissing_2 rfl rfl rfl (Nat.le_of_ble_eq_true rfl) (wp_shasT hj ?_)
  refine jr_if_eq 18 8 dX5_isMissing_5 rfl rfl (fun q => absurd q (by decide)) (fun q5 => ?_)
  refine jr_aload_n 0 9 dX5_isMissing_8 rfl rfl rfl ?_
  refine gf_X5_11 12 dX5_isMissing_9 rfl rfl rfl rfl ?_
  refine jr_iload_n 1 13 dX5_isMissing_12 rfl rfl rfl ?_
  refine jr_iald rfl rfl (by omega) 14 dX5_isMissing_13 rfl ?_
  refine jr_iconst ((-1)) 15 dX5_isMissing_14 rfl rfl ?_
  refine jr_icmp_ne 22 18 dX5_isMissing_15 rfl rfl (fun q15 => ?_) (fun q15 => ?_)
  · refine jr_iconst (0) 23 dX5_isMissing_22 rfl rfl ?_
    refine jr_ireturn dX5_isMissing_23 rfl rfl ?_
    exact h0 q15
  · refine jr_iconst (1) 19 dX5_isMissing_18 rfl rfl ?_
    refine jr_goto 23 dX5_isMissing_19 rfl ?_
    refine jr_ireturn dX5_isMissing_23 rfl rfl ?_
    exact h1 q15
theorem hold_long {a b c : Int32} : lg_cmp (a.toInt64 + b.toInt64) c.toInt64 ≤ 0 ↔ a.toInt + b.toInt ≤ c.toInt := by
  have e : (a.toInt64 + b.toInt64).toInt = a.toInt + b.toInt := by
    rw [Int64.toInt_add, Int32.toInt_toInt64, Int32.toInt_toInt64]
    have h1 := Int32.toInt_lt a
    have h2 := Int32.le_toInt a
    have h3 := Int32.toInt_lt b
    have h4 := Int32.le_toInt b
    exact Int.bmod_eq_of_le (by omega) (by omega)
  unfold lg_cmp
  have e2 : (c.toInt64).toInt = c.toInt := Int32.toInt_toInt64 c
  rw [← e, ← e2]
  by_cases h : a.toInt64 + b.toInt64 > c.toInt64
  · rw [if_pos h]
    exact ⟨fun q => absurd q (by decide), fun q => absurd (Int64.lt_iff_toInt_lt.mp h) (by omega)⟩
  · rw [if_neg h]
    have h3 : (a.toInt64 + b.toInt64).toInt ≤ (c.toInt64).toInt := Int.not_lt.mp (fun z => h (Int64.lt_iff_toInt_lt.mpr z))
    by_cases h2 : a.toInt64 + b.toInt64 = c.toInt64
    · rw [if_pos h2]; exact ⟨fun _ => h3, fun _ => by decide⟩
    · rw [if_neg h2]; exact ⟨fun _ => h3, fun _ => by decide⟩
theorem wp_holds {G : jr_G} {d : Nat} {σ : jr_Sg} {k : Value → jr_Sg → Prop} {j : Nat} {i n : Int32} (hj : j < 4) (h1 : 0 ≤ i → 0 ≤ n → i.toInt + n.toInt ≤ (σ 44 j).toInt → k (.int 1) σ) (h0 : ¬ (0 ≤ i ∧ 0 ≤ n ∧ i.toInt + n.toInt ≤ (σ 44 j).toInt) → k (.int 0) σ) : jr_M G (d + 1) mi_X5_holds [.ref 42, .int (nI j), .int i, .int n] σ (jr_k k) := by
  refine jr_enter (L := [some (.ref 42), some (.int (nI j)), some (.int i), some (.int n)]) (by decide) (Nat.le_of_ble_eq_true rfl) rfl ?_
  refine jr_aload_n 0 1 dX5_holds_0 rfl rfl rfl ?_
  refine jr_iload_n 1 2 dX5_holds_1 rfl rfl rfl ?_
  refine cs_X5_21 5 dX5_holds_2 rfl rfl rfl (Nat.le_of_ble_eq_true rfl) (wp_shasT hj ?_)
  refine jr_if_eq 36 8 dX5_holds_5 rfl rfl (fun q => absurd q (by decide)) (fun q5 => ?_)
  refine jr_iload_n 2 9 dX5_holds_8 rfl rfl rfl ?_
  refine jr_if_lt 36 12 dX5_holds_9 rfl rfl (fun q9 => ?_) (fun q9 => ?_)
  · refine jr_iconst (0) 37 dX5_holds_36 rfl rfl ?_
    refine jr_ireturn dX5_holds_37 rfl rfl ?_
    exact h0 (by first | exact fun z => absurd (hold_long.mpr z.2.2) (Int32.not_le.mpr q29) | exact fun z => absurd z.2.1 (Int32.not_le.mpr q13) | exact fun z => absurd z.1 (Int32.not_le.mpr q9))
  · refine jr_iload_n 3 13 dX5_holds_12 rfl rfl rfl ?_
    refine jr_if_lt 36 16 dX5_holds_13 rfl rfl (fun q13 => ?_) (fun q13 => ?_)
    · refine jr_iconst (0) 37 dX5_holds_36 rfl rfl ?_
      refine jr_ireturn dX5_holds_37 rfl rfl ?_
      exact h0 (by first | exact fun z => absurd (hold_long.mpr z.2.2) (Int32.not_le.mpr q29) | exact fun z => absurd z.2.1 (Int32.not_le.mpr q13) | exact fun z => absurd z.1 (Int32.not_le.mpr q9))
    · refine jr_iload_n 2 17 dX5_holds_16 rfl rfl rfl ?_
      refine jr_i2l 18 dX5_holds_17 rfl ?_
      refine jr_iload_n 3 19 dX5_holds_18 rfl rfl rfl ?_
      refine jr_i2l 20 dX5_holds_19 rfl ?_
      refine jr_ladd 21 dX5_holds_20 rfl ?_
      refine jr_aload_n 0 22 dX5_holds_21 rfl rfl rfl ?_
      refine gf_X5_15 25 dX5_holds_22 rfl rfl rfl rfl ?_
      refine jr_iload_n 1 26 dX5_holds_25 rfl rfl rfl ?_
      refine jr_iald rfl rfl (by omega) 27 dX5_holds_26 rfl ?_
      refine jr_i2l 28 dX5_holds_27 rfl ?_
      refine jr_lcmp 29 dX5_holds_28 rfl ?_
      refine jr_if_gt 36 32 dX5_holds_29 rfl rfl (fun q29 => ?_) (fun q29 => ?_)
      · refine jr_iconst (0) 37 dX5_holds_36 rfl rfl ?_
        refine jr_ireturn dX5_holds_37 rfl rfl ?_
        exact h0 (by first | exact fun z => absurd (hold_long.mpr z.2.2) (Int32.not_le.mpr q29) | exact fun z => absurd z.2.1 (Int32.not_le.mpr q13) | exact fun z => absurd z.1 (Int32.not_le.mpr q9))
      · refine jr_iconst (1) 33 dX5_holds_32 rfl rfl ?_
        refine jr_goto 37 dX5_holds_33 rfl ?_
        refine jr_ireturn dX5_holds_37 rfl rfl ?_
        exact h1 (Int32.not_lt.mp q9) (Int32.not_lt.mp q13) (hold_long.mp (Int32.not_lt.mp q29))
theorem hold_nat {z i n : Nat} {x : Int32} (e : x = nI z) (hz : z < 2 ^ 31) (hi : i < 2 ^ 30) (hn : n < 2 ^ 30) : (nI i).toInt + (nI n).toInt ≤ x.toInt ↔ i + n ≤ z := by
  rw [e, nI_int hz, nI_int (by omega), nI_int (by omega)]
  omega
theorem wp_holdsT {G : jr_G} {d : Nat} {σ : jr_Sg} {k : Value → jr_Sg → Prop} {j i n z : Nat} (hj : j < 4) (ez : σ 44 j = nI z) (hz : z ≤ 40) (hi : i + n ≤ z) (h : k (.int 1) σ) : jr_M G (d + 1) mi_X5_holds [.ref 42, .int (nI j), .int (nI i), .int (nI n)] σ (jr_k k) := wp_holds hj (fun _ _ _ => h) (fun q => absurd ⟨nI_pos' (by omega), nI_pos' (by omega), (hold_nat ez (by omega) (by omega) (by omega)).mpr hi⟩ q)
theorem ix40 (j i : Nat) : nI j * nI 40 + nI i = nI (40 * j + i) := by rw [pk_mul, nI_add]; congr 1; omega
theorem ix40' (j i : Nat) : nI 40 * nI j + nI i = nI (40 * j + i) := by rw [pk_mul, nI_add]
theorem wp_get {G : jr_G} {d : Nat} {σ : jr_Sg} {k : Value → jr_Sg → Prop} {j i z : Nat} (hj : j < 4) (ez : σ 44 j = nI z) (hz : z ≤ 40) (hi : i < z) (h : k (.int (σ 45 (40 * j + i))) σ) : jr_M G (d + 2) mi_X5_get [.ref 42, .int (nI j), .int (nI i)] σ (jr_k k) := by
  refine jr_enter (L := [some (.ref 42), some (.int (nI j)), some (.int (nI i))]) (by decide) (Nat.le_of_ble_eq_true rfl) rfl ?_
  refine jr_aload_n 0 1 dX5_get_0 rfl rfl rfl ?_
  refine jr_iload_n 1 2 dX5_get_1 rfl rfl rfl ?_
  refine jr_iload_n 2 3 dX5_get_2 rfl rfl rfl ?_
  refine jr_iconst (nI 1) 4 dX5_get_3 rfl rfl ?_
  refine cs_X5_25 7 dX5_get_4 rfl rfl rfl (Nat.le_of_ble_eq_true rfl) (wp_holdsT (n := 1) hj ez hz (by omega) ?_)
  refine jr_if_eq 24 10 dX5_get_7 rfl rfl (fun q => absurd q (by decide)) (fun q7 => ?_)
  refine jr_aload_n 0 11 dX5_get_10 rfl rfl rfl ?_
  refine gf_X5_18 14 dX5_get_11 rfl rfl rfl rfl ?_
  refine jr_iload_n 1 15 dX5_get_14 rfl rfl rfl ?_
  refine jr_bipush (nI 40) 17 dX5_get_15 rfl rfl ?_
  refine jr_imul 18 dX5_get_17 rfl ?_
  refine jr_iload_n 2 19 dX5_get_18 rfl rfl rfl ?_
  refine jr_iadd 20 dX5_get_19 rfl ?_
  refine jr_iald rfl (ix40 j i) (by omega) 21 dX5_get_20 rfl ?_
  refine jr_goto 25 dX5_get_21 rfl ?_
  refine jr_ireturn dX5_get_25 rfl rfl ?_
  exact h
/-- the refusal r of the film v -/
def fr_is (σ : jr_Sg) (v r : Int32) : Prop := (¬ (0 ≤ v ∧ v ≤ 3) ∧ r = -2) ∨ ∃ j, j < 4 ∧ v = nI j ∧ ((σ 57 j = -1 ∧ r = -11) ∨ (¬ σ 57 j = -1 ∧ ∃ z, z ≤ 40 ∧ 8 < z ∧ σ 58 j = nI z ∧ r = -2))
def fr_no (σ : jr_Sg) (j z : Nat) : Prop := j < 4 ∧ z ≤ 8 ∧ ¬ σ 57 j = -1 ∧ σ 58 j = nI z ∧ σ 43 j = σ 57 j ∧ σ 44 j = nI z ∧ ∀ i, i < z → σ 45 (40 * j + i) = σ 59 (40 * j + i)
theorem fr_cases {σ : jr_Sg} (h : iv_sh σ) (v : Int32) : (∃ r, fr_is σ v r) ∨ ∃ j z, v = nI j ∧ fr_no σ j z := by
  by_cases hv : 0 ≤ v ∧ v ≤ 3
  · obtain ⟨j, hj, rfl⟩ := c4 hv
    obtain ⟨e1, e2, -, z, hz, e3, e4⟩ := h j hj
    by_cases hm : σ 57 j = -1
    · exact Or.inl ⟨-11, Or.inr ⟨j, hj, rfl, Or.inl ⟨hm, rfl⟩⟩⟩
    · by_cases h8 : 8 < z
      · exact Or.inl ⟨-2, Or.inr ⟨j, hj, rfl, Or.inr ⟨hm, z, hz, h8, e3, rfl⟩⟩⟩
      · exact Or.inr ⟨j, z, rfl, hj, by omega, hm, e3, e1, e2.trans e3, e4⟩
  · exact Or.inl ⟨-2, Or.inl ⟨hv, rfl⟩⟩
theorem fr_neg {σ : jr_Sg} {v r : Int32} (h : fr_is σ v r) : r < 0 := by
  rcases h with ⟨-, rfl⟩ | ⟨j, -, -, ⟨-, rfl⟩ | ⟨-, z, -, -, -, rfl⟩⟩ <;> decide
theorem fr_ne {σ : jr_Sg} {v r : Int32} (h : fr_is σ v r) : ¬ r = 0 := fun e => by
  have := fr_neg h
  rw [e] at this
  exact absurd this (by decide)
theorem fr_x {X : List Nat} {σ σ' : jr_Sg} {v r : Int32} (h : fr_is σ v r) (g : jr_eqx X σ σ') (hX : ∀ a, a ∈ [57, 58] → a ∉ X) : fr_is σ' v r := by
  unfold fr_is at h ⊢
  rw [g 57 (hX 57 (by decide)), g 58 (hX 58 (by decide))]
  exact h
theorem fn_x {X : List Nat} {σ σ' : jr_Sg} {j z : Nat} (h : fr_no σ j z) (g : jr_eqx X σ σ') (hX : ∀ a, a ∈ [43, 44, 45, 57, 58, 59] → a ∉ X) : fr_no σ' j z := by
  unfold fr_no at h ⊢
  rw [g 43 (hX 43 (by decide)), g 44 (hX 44 (by decide)), g 45 (hX 45 (by decide)), g 57 (hX 57 (by decide)), g 58 (hX 58 (by decide)), g 59 (hX 59 (by decide))]
  exact h
theorem wp_filmRefusalF {G : jr_G} {d : Nat} {σ : jr_Sg} {k : Value → jr_Sg → Prop} {v r : Int32} (hsh : iv_sh σ) (hr : fr_is σ v r) (h : k (.int r) σ) : jr_M G (d + 2) mi_X9_filmRefusal [.ref 0, .int v] σ (jr_k k) := by
  rcases hr with ⟨hv, rfl⟩ | ⟨j, hj, rfl, ⟨hm, rfl⟩ | ⟨hm, z, hz, h8, ez, rfl⟩⟩
  · refine jr_enter (L := [some (.ref 0), some (.int v)]) (by decide) (Nat.le_of_ble_eq_true rfl) rfl ?_
    refine jr_aload_n 0 1 dX9_filmRefusal_0 rfl rfl rfl ?_
    refine gf_X9_57 4 dX9_filmRefusal_1 rfl rfl rfl rfl ?_
    refine jr_iload_n 1 5 dX9_filmRefusal_4 rfl rfl rfl ?_
    refine cs_X9_298 8 dX9_filmRefusal_5 rfl rfl rfl (Nat.le_of_ble_eq_true rfl) (wp_shasF hv ?_)
    refine jr_if_ne 14 11 dX9_filmRefusal_8 rfl rfl (fun q => absurd (by decide) q) (fun q8 => ?_)
    refine jr_bipush ((-2)) 13 dX9_filmRefusal_11 rfl rfl ?_
    refine jr_ireturn dX9_filmRefusal_13 rfl rfl ?_
    exact h
  · refine jr_enter (L := [some (.ref 0), some (.int (nI j))]) (by decide) (Nat.le_of_ble_eq_true rfl) rfl ?_
    refine jr_aload_n 0 1 dX9_filmRefusal_0 rfl rfl rfl ?_
    refine gf_X9_57 4 dX9_filmRefusal_1 rfl rfl rfl rfl ?_
    refine jr_iload_n 1 5 dX9_filmRefusal_4 rfl rfl rfl ?_
    refine cs_X9_298 8 dX9_filmRefusal_5 rfl rfl rfl (Nat.le_of_ble_eq_true rfl) (wp_shasT hj ?_)
    refine jr_if_ne 14 11 dX9_filmRefusal_8 rfl rfl (fun q8 => ?_) (fun q => absurd q (by decide))
    refine jr_aload_n 0 15 dX9_filmRefusal_14 rfl rfl rfl ?_
    refine gf_X9_57 18 dX9_filmRefusal_15 rfl rfl rfl rfl ?_
    refine jr_iload_n 1 19 dX9_filmRefusal_18 rfl rfl rfl ?_
    refine cs_X9_312 22 dX9_filmRefusal_19 rfl rfl rfl (Nat.le_of_ble_eq_true rfl) (wp_isMissing hj (fun _ => ?_) (fun q => absurd ((hsh j hj).1.trans hm) q))
    refine jr_if_eq 28 25 dX9_filmRefusal_22 rfl rfl (fun q => absurd q (by decide)) (fun q22 => ?_)
    refine jr_bipush ((-11)) 27 dX9_filmRefusal_25 rfl rfl ?_
    refine jr_ireturn dX9_filmRefusal_27 rfl rfl ?_
    exact h
  · refine jr_enter (L := [some (.ref 0), some (.int (nI j))]) (by decide) (Nat.le_of_ble_eq_true rfl) rfl ?_
    refine jr_aload_n 0 1 dX9_filmRefusal_0 rfl rfl rfl ?_
    refine gf_X9_57 4 dX9_filmRefusal_1 rfl rfl rfl rfl ?_
    refine jr_iload_n 1 5 dX9_filmRefusal_4 rfl rfl rfl ?_
    refine cs_X9_298 8 dX9_filmRefusal_5 rfl rfl rfl (Nat.le_of_ble_eq_true rfl) (wp_shasT hj ?_)
    refine jr_if_ne 14 11 dX9_filmRefusal_8 rfl rfl (fun q8 => ?_) (fun q => absurd q (by decide))
    refine jr_aload_n 0 15 dX9_filmRefusal_14 rfl rfl rfl ?_
    refine gf_X9_57 18 dX9_filmRefusal_15 rfl rfl rfl rfl ?_
    refine jr_iload_n 1 19 dX9_filmRefusal_18 rfl rfl rfl ?_
    refine cs_X9_312 22 dX9_filmRefusal_19 rfl rfl rfl (Nat.le_of_ble_eq_true rfl) (wp_isMissing hj (fun q => absurd ((hsh j hj).1.symm.trans q) hm) (fun _ => ?_))
    refine jr_if_eq 28 25 dX9_filmRefusal_22 rfl rfl (fun q22 => ?_) (fun q => absurd (by decide) q)
    refine jr_aload_n 0 29 dX9_filmRefusal_28 rfl rfl rfl ?_
    refine gf_X9_57 32 dX9_filmRefusal_29 rfl rfl rfl rfl ?_
    refine gf_X9_342 35 dX9_filmRefusal_32 rfl rfl rfl rfl ?_
    refine jr_iload_n 1 36 dX9_filmRefusal_35 rfl rfl rfl ?_
    refine jr_iald rfl rfl (by omega) 37 dX9_filmRefusal_36 rfl ?_
    refine jr_bipush (nI 8) 39 dX9_filmRefusal_37 rfl rfl ?_
    refine jr_icmp_le 47 42 dX9_filmRefusal_39 rfl rfl (fun q => absurd q (by rw [(hsh j hj).2.1, ez]; exact nI_ge h8 (by omega))) (fun q39 => ?_)
    refine jr_bipush ((-2)) 44 dX9_filmRefusal_42 rfl rfl ?_
    refine jr_goto 48 dX9_filmRefusal_44 rfl ?_
    refine jr_ireturn dX9_filmRefusal_48 rfl rfl ?_
    exact h
theorem wp_filmRefusalT {G : jr_G} {d : Nat} {σ : jr_Sg} {k : Value → jr_Sg → Prop} {j z : Nat} (hn : fr_no σ j z) (h : k (.int 0) σ) : jr_M G (d + 2) mi_X9_filmRefusal [.ref 0, .int (nI j)] σ (jr_k k) := by
  obtain ⟨hj, hz, hm, ez, e1, e2, -⟩ := hn
  refine jr_enter (L := [some (.ref 0), some (.int (nI j))]) (by decide) (Nat.le_of_ble_eq_true rfl) rfl ?_
  refine jr_aload_n 0 1 dX9_filmRefusal_0 rfl rfl rfl ?_
  refine gf_X9_57 4 dX9_filmRefusal_1 rfl rfl rfl rfl ?_
  refine jr_iload_n 1 5 dX9_filmRefusal_4 rfl rfl rfl ?_
  refine cs_X9_298 8 dX9_filmRefusal_5 rfl rfl rfl (Nat.le_of_ble_eq_true rfl) (wp_shasT hj ?_)
  refine jr_if_ne 14 11 dX9_filmRefusal_8 rfl rfl (fun q8 => ?_) (fun q => absurd q (by decide))
  refine jr_aload_n 0 15 dX9_filmRefusal_14 rfl rfl rfl ?_
  refine gf_X9_57 18 dX9_filmRefusal_15 rfl rfl rfl rfl ?_
  refine jr_iload_n 1 19 dX9_filmRefusal_18 rfl rfl rfl ?_
  refine cs_X9_312 22 dX9_filmRefusal_19 rfl rfl rfl (Nat.le_of_ble_eq_true rfl) (wp_isMissing hj (fun q => absurd (e1.symm.trans q) hm) (fun _ => ?_))
  refine jr_if_eq 28 25 dX9_filmRefusal_22 rfl rfl (fun q22 => ?_) (fun q => absurd (by decide) q)
  refine jr_aload_n 0 29 dX9_filmRefusal_28 rfl rfl rfl ?_
  refine gf_X9_57 32 dX9_filmRefusal_29 rfl rfl rfl rfl ?_
  refine gf_X9_342 35 dX9_filmRefusal_32 rfl rfl rfl rfl ?_
  refine jr_iload_n 1 36 dX9_filmRefusal_35 rfl rfl rfl ?_
  refine jr_iald rfl rfl (by omega) 37 dX9_filmRefusal_36 rfl ?_
  refine jr_bipush (nI 8) 39 dX9_filmRefusal_37 rfl rfl ?_
  refine jr_icmp_le 47 42 dX9_filmRefusal_39 rfl rfl (fun q39 => ?_) (fun q => absurd (by rw [e2]; exact nI_le (b := 8) hz (by omega)) q)
  refine jr_iconst (nI 0) 48 dX9_filmRefusal_47 rfl rfl ?_
  refine jr_ireturn dX9_filmRefusal_48 rfl rfl ?_
  exact h
theorem wp_sheetWrongF {G : jr_G} {d : Nat} {σ : jr_Sg} {k : Value → jr_Sg → Prop} {v r : Int32} (hr : fr_is σ v r) (h : k (.int r) σ) : jr_M G (d + 2) mi_X10_sheetWrong [.ref 46, .int v] σ (jr_k k) := by
  rcases hr with ⟨hv, rfl⟩ | ⟨j, hj, rfl, ⟨hm, rfl⟩ | ⟨hm, z, hz, h8, ez, rfl⟩⟩
  · refine jr_enter (L := [some (.ref 46), some (.int v)]) (by decide) (Nat.le_of_ble_eq_true rfl) rfl ?_
    refine jr_iload_n 1 1 dX10_sheetWrong_0 rfl rfl rfl ?_
    refine jr_iconst (nI 0) 2 dX10_sheetWrong_1 rfl rfl ?_
    refine jr_iconst (nI 3) 3 dX10_sheetWrong_2 rfl rfl ?_
    refine cs_X10_108 6 dX10_sheetWrong_3 rfl rfl (Nat.le_of_ble_eq_true rfl) (wp_inF hv ?_)
    refine jr_if_ne 12 9 dX10_sheetWrong_6 rfl rfl (fun q => absurd (by decide) q) (fun q6 => ?_)
    refine jr_bipush ((-2)) 11 dX10_sheetWrong_9 rfl rfl ?_
    refine jr_ireturn dX10_sheetWrong_11 rfl rfl ?_
    exact h
  · refine jr_enter (L := [some (.ref 46), some (.int (nI j))]) (by decide) (Nat.le_of_ble_eq_true rfl) rfl ?_
    refine jr_iload_n 1 1 dX10_sheetWrong_0 rfl rfl rfl ?_
    refine jr_iconst (nI 0) 2 dX10_sheetWrong_1 rfl rfl ?_
    refine jr_iconst (nI 3) 3 dX10_sheetWrong_2 rfl rfl ?_
    refine cs_X10_108 6 dX10_sheetWrong_3 rfl rfl (Nat.le_of_ble_eq_true rfl) (wp_inT (m := 3) (by omega) (by decide) rfl ?_)
    refine jr_if_ne 12 9 dX10_sheetWrong_6 rfl rfl (fun q6 => ?_) (fun q => absurd q (by decide))
    refine jr_aload_n 0 13 dX10_sheetWrong_12 rfl rfl rfl ?_
    refine gf_X10_40 16 dX10_sheetWrong_13 rfl rfl rfl rfl ?_
    refine jr_iload_n 1 17 dX10_sheetWrong_16 rfl rfl rfl ?_
    refine jr_iald rfl rfl (by omega) 18 dX10_sheetWrong_17 rfl ?_
    refine jr_iconst ((-1)) 19 dX10_sheetWrong_18 rfl rfl ?_
    refine jr_icmp_ne 25 22 dX10_sheetWrong_19 rfl rfl (fun q => absurd hm q) (fun q19 => ?_)
    refine jr_bipush ((-11)) 24 dX10_sheetWrong_22 rfl rfl ?_
    refine jr_ireturn dX10_sheetWrong_24 rfl rfl ?_
    exact h
  · refine jr_enter (L := [some (.ref 46), some (.int (nI j))]) (by decide) (Nat.le_of_ble_eq_true rfl) rfl ?_
    refine jr_iload_n 1 1 dX10_sheetWrong_0 rfl rfl rfl ?_
    refine jr_iconst (nI 0) 2 dX10_sheetWrong_1 rfl rfl ?_
    refine jr_iconst (nI 3) 3 dX10_sheetWrong_2 rfl rfl ?_
    refine cs_X10_108 6 dX10_sheetWrong_3 rfl rfl (Nat.le_of_ble_eq_true rfl) (wp_inT (m := 3) (by omega) (by decide) rfl ?_)
    refine jr_if_ne 12 9 dX10_sheetWrong_6 rfl rfl (fun q6 => ?_) (fun q => absurd q (by decide))
    refine jr_aload_n 0 13 dX10_sheetWrong_12 rfl rfl rfl ?_
    refine gf_X10_40 16 dX10_sheetWrong_13 rfl rfl rfl rfl ?_
    refine jr_iload_n 1 17 dX10_sheetWrong_16 rfl rfl rfl ?_
    refine jr_iald rfl rfl (by omega) 18 dX10_sheetWrong_17 rfl ?_
    refine jr_iconst ((-1)) 19 dX10_sheetWrong_18 rfl rfl ?_
    refine jr_icmp_ne 25 22 dX10_sheetWrong_19 rfl rfl (fun q19 => ?_) (fun q => absurd q hm)
    refine jr_aload_n 0 26 dX10_sheetWrong_25 rfl rfl rfl ?_
    refine gf_X10_43 29 dX10_sheetWrong_26 rfl rfl rfl rfl ?_
    refine jr_iload_n 1 30 dX10_sheetWrong_29 rfl rfl rfl ?_
    refine jr_iald rfl rfl (by omega) 31 dX10_sheetWrong_30 rfl ?_
    refine jr_bipush (nI 8) 33 dX10_sheetWrong_31 rfl rfl ?_
    refine jr_icmp_le 41 36 dX10_sheetWrong_33 rfl rfl (fun q => absurd q (by rw [ez]; exact nI_ge h8 (by omega))) (fun q33 => ?_)
    refine jr_bipush ((-2)) 38 dX10_sheetWrong_36 rfl rfl ?_
    refine jr_goto 42 dX10_sheetWrong_38 rfl ?_
    refine jr_ireturn dX10_sheetWrong_42 rfl rfl ?_
    exact h
theorem wp_sheetWrongT {G : jr_G} {d : Nat} {σ : jr_Sg} {k : Value → jr_Sg → Prop} {j z : Nat} (hn : fr_no σ j z) (h : k (.int 0) σ) : jr_M G (d + 2) mi_X10_sheetWrong [.ref 46, .int (nI j)] σ (jr_k k) := by
  obtain ⟨hj, hz, hm, ez, e1, e2, -⟩ := hn
  refine jr_enter (L := [some (.ref 46), some (.int (nI j))]) (by decide) (Nat.le_of_ble_eq_true rfl) rfl ?_
  refine jr_iload_n 1 1 dX10_sheetWrong_0 rfl rfl rfl ?_
  refine jr_iconst (nI 0) 2 dX10_sheetWrong_1 rfl rfl ?_
  refine jr_iconst (nI 3) 3 dX10_sheetWrong_2 rfl rfl ?_
  refine cs_X10_108 6 dX10_sheetWrong_3 rfl rfl (Nat.le_of_ble_eq_true rfl) (wp_inT (m := 3) (by omega) (by decide) rfl ?_)
  refine jr_if_ne 12 9 dX10_sheetWrong_6 rfl rfl (fun q6 => ?_) (fun q => absurd q (by decide))
  refine jr_aload_n 0 13 dX10_sheetWrong_12 rfl rfl rfl ?_
  refine gf_X10_40 16 dX10_sheetWrong_13 rfl rfl rfl rfl ?_
  refine jr_iload_n 1 17 dX10_sheetWrong_16 rfl rfl rfl ?_
  refine jr_iald rfl rfl (by omega) 18 dX10_sheetWrong_17 rfl ?_
  refine jr_iconst ((-1)) 19 dX10_sheetWrong_18 rfl rfl ?_
  refine jr_icmp_ne 25 22 dX10_sheetWrong_19 rfl rfl (fun q19 => ?_) (fun q => absurd q hm)
  refine jr_aload_n 0 26 dX10_sheetWrong_25 rfl rfl rfl ?_
  refine gf_X10_43 29 dX10_sheetWrong_26 rfl rfl rfl rfl ?_
  refine jr_iload_n 1 30 dX10_sheetWrong_29 rfl rfl rfl ?_
  refine jr_iald rfl rfl (by omega) 31 dX10_sheetWrong_30 rfl ?_
  refine jr_bipush (nI 8) 33 dX10_sheetWrong_31 rfl rfl ?_
  refine jr_icmp_le 41 36 dX10_sheetWrong_33 rfl rfl (fun q33 => ?_) (fun q => absurd (by rw [ez]; exact nI_le (b := 8) hz (by omega)) q)
  refine jr_iconst (nI 0) 42 dX10_sheetWrong_41 rfl rfl ?_
  refine jr_ireturn dX10_sheetWrong_42 rfl rfl ?_
  exact h
theorem wp_toldWrongF {G : jr_G} {d : Nat} {σ : jr_Sg} {k : Value → jr_Sg → Prop} {v f r : Int32} (hr : fr_is σ v r) (h : k (.int r) σ) : jr_M G (d + 3) mi_X10_toldWrong [.ref 46, .int v, .int f] σ (jr_k k) := by
  refine jr_enter (L := [some (.ref 46), some (.int v), some (.int f), none]) (by decide) (Nat.le_of_ble_eq_true rfl) rfl ?_
  refine jr_aload_n 0 1 dX10_toldWrong_0 rfl rfl rfl ?_
  refine jr_iload_n 1 2 dX10_toldWrong_1 rfl rfl rfl ?_
  refine cs_X10_319 5 dX10_toldWrong_2 rfl rfl rfl (Nat.le_of_ble_eq_true rfl) (wp_sheetWrongF hr ?_)
  refine jr_istore_n 3 (L' := [_, _, _, _]) 6 dX10_toldWrong_5 rfl rfl (by decide) rfl ?_
  refine jr_iload_n 3 7 dX10_toldWrong_6 rfl rfl rfl ?_
  refine jr_if_eq 14 10 dX10_toldWrong_7 rfl rfl (fun q => absurd q (fr_ne hr)) (fun q7 => ?_)
  refine jr_iload_n 3 11 dX10_toldWrong_10 rfl rfl rfl ?_
  refine jr_goto 28 dX10_toldWrong_11 rfl ?_
  refine jr_ireturn dX10_toldWrong_28 rfl rfl ?_
  exact h
theorem wp_toldWrongN {G : jr_G} {d : Nat} {σ : jr_Sg} {k : Value → jr_Sg → Prop} {nf j z : Nat} {f : Int32} (rnf : σ 46 1 = nI nf) (h5 : nf ≤ 5) (hf : f < 0 ∨ nI nf ≤ f) (hn : fr_no σ j z) (h : k (.int (-5)) σ) : jr_M G (d + 3) mi_X10_toldWrong [.ref 46, .int (nI j), .int f] σ (jr_k k) := by
  refine jr_enter (L := [some (.ref 46), some (.int (nI j)), some (.int f), none]) (by decide) (Nat.le_of_ble_eq_true rfl) rfl ?_
  refine jr_aload_n 0 1 dX10_toldWrong_0 rfl rfl rfl ?_
  refine jr_iload_n 1 2 dX10_toldWrong_1 rfl rfl rfl ?_
  refine cs_X10_319 5 dX10_toldWrong_2 rfl rfl rfl (Nat.le_of_ble_eq_true rfl) (wp_sheetWrongT hn ?_)
  refine jr_istore_n 3 (L' := [_, _, _, _]) 6 dX10_toldWrong_5 rfl rfl (by decide) rfl ?_
  refine jr_iload_n 3 7 dX10_toldWrong_6 rfl rfl rfl ?_
  refine jr_if_eq 14 10 dX10_toldWrong_7 rfl rfl (fun q7 => ?_) (fun q => absurd (by decide) q)
  refine jr_aload_n 0 15 dX10_toldWrong_14 rfl rfl rfl ?_
  refine jr_iload_n 2 16 dX10_toldWrong_15 rfl rfl rfl ?_
  refine cs_X10_204 19 dX10_toldWrong_16 rfl rfl rfl (Nat.le_of_ble_eq_true rfl) (wp_isFace rnf h5 (fun j hj e => absurd hf (by rw [e]; exact jr_fcn hj (by omega))) (fun _ => ?_))
  refine jr_if_eq 26 22 dX10_toldWrong_19 rfl rfl (fun q19 => ?_) (fun q => absurd (by decide) q)
  refine jr_bipush ((-5)) 28 dX10_toldWrong_26 rfl rfl ?_
  refine jr_ireturn dX10_toldWrong_28 rfl rfl ?_
  exact h
theorem wp_toldWrongT {G : jr_G} {d : Nat} {σ : jr_Sg} {k : Value → jr_Sg → Prop} {nf j z f : Nat} (rnf : σ 46 1 = nI nf) (h5 : nf ≤ 5) (hf : f < nf) (hn : fr_no σ j z) (h : k (.int 0) σ) : jr_M G (d + 3) mi_X10_toldWrong [.ref 46, .int (nI j), .int (nI f)] σ (jr_k k) := by
  refine jr_enter (L := [some (.ref 46), some (.int (nI j)), some (.int (nI f)), none]) (by decide) (Nat.le_of_ble_eq_true rfl) rfl ?_
  refine jr_aload_n 0 1 dX10_toldWrong_0 rfl rfl rfl ?_
  refine jr_iload_n 1 2 dX10_toldWrong_1 rfl rfl rfl ?_
  refine cs_X10_319 5 dX10_toldWrong_2 rfl rfl rfl (Nat.le_of_ble_eq_true rfl) (wp_sheetWrongT hn ?_)
  refine jr_istore_n 3 (L' := [_, _, _, _]) 6 dX10_toldWrong_5 rfl rfl (by decide) rfl ?_
  refine jr_iload_n 3 7 dX10_toldWrong_6 rfl rfl rfl ?_
  refine jr_if_eq 14 10 dX10_toldWrong_7 rfl rfl (fun q7 => ?_) (fun q => absurd (by decide) q)
  refine jr_aload_n 0 15 dX10_toldWrong_14 rfl rfl rfl ?_
  refine jr_iload_n 2 16 dX10_toldWrong_15 rfl rfl rfl ?_
  refine cs_X10_204 19 dX10_toldWrong_16 rfl rfl rfl (Nat.le_of_ble_eq_true rfl) (wp_isFace rnf h5 (fun _ _ _ => ?_) (fun q => absurd q (jr_fcn hf (by omega))))
  refine jr_if_eq 26 22 dX10_toldWrong_19 rfl rfl (fun q => absurd q (by decide)) (fun q19 => ?_)
  refine jr_iconst (0) 23 dX10_toldWrong_22 rfl rfl ?_
  refine jr_goto 28 dX10_toldWrong_23 rfl ?_
  refine jr_ireturn dX10_toldWrong_28 rfl rfl ?_
  exact h
theorem wp_filmLength {G : jr_G} {d : Nat} {σ : jr_Sg} {k : Value → jr_Sg → Prop} {j z : Nat} (hn : fr_no σ j z) (h : k (.int (nI (5 * z))) σ) : jr_M G (d + 2) mi_X9_filmLength [.ref 0, .int (nI j)] σ (jr_k k) := by
  obtain ⟨hj, hz, hm, ez, e1, e2, -⟩ := hn
  refine jr_enter (L := [some (.ref 0), some (.int (nI j))]) (by decide) (Nat.le_of_ble_eq_true rfl) rfl ?_
  refine jr_aload_n 0 1 dX9_filmLength_0 rfl rfl rfl ?_
  refine gf_X9_57 4 dX9_filmLength_1 rfl rfl rfl rfl ?_
  refine jr_iload_n 1 5 dX9_filmLength_4 rfl rfl rfl ?_
  refine cs_X9_298 8 dX9_filmLength_5 rfl rfl rfl (Nat.le_of_ble_eq_true rfl) (wp_shasT hj ?_)
  refine jr_if_eq 25 11 dX9_filmLength_8 rfl rfl (fun q => absurd q (by decide)) (fun q8 => ?_)
  refine jr_iconst (nI 5) 12 dX9_filmLength_11 rfl rfl ?_
  refine jr_aload_n 0 13 dX9_filmLength_12 rfl rfl rfl ?_
  refine gf_X9_57 16 dX9_filmLength_13 rfl rfl rfl rfl ?_
  refine gf_X9_342 19 dX9_filmLength_16 rfl rfl rfl rfl ?_
  refine jr_iload_n 1 20 dX9_filmLength_19 rfl rfl rfl ?_
  refine jr_iald rfl rfl (by omega) 21 dX9_filmLength_20 rfl ?_
  rw [e2]
  refine jr_imul 22 dX9_filmLength_21 rfl ?_
  rw [pk_mul]
  refine jr_goto 26 dX9_filmLength_22 rfl ?_
  refine jr_ireturn dX9_filmLength_26 rfl rfl ?_
  exact h
/-- where a film of z places is other than W -/
noncomputable def fo (C : Nat → Int32) (W : Nat → Int32 × Int32) (j z : Nat) : Option Nat := fs (fun i => ¬ C (40 * j + i) = (W (5 * (i + 1))).1) 0 z
theorem fo_congr {C C' : Nat → Int32} {W : Nat → Int32 × Int32} {j z : Nat} (h : ∀ i, i < z → C (40 * j + i) = C' (40 * j + i)) : fo C W j z = fo C' W j z := fs_congr z 0 (fun i _ hi => by rw [h i (by omega)])
theorem nI5 (i : Nat) : nI 5 * (nI i + nI 1) = nI (5 * (i + 1)) := by rw [nI_add, pk_mul]
theorem firstOther_l {G : jr_G} {d : Nat} {σ : jr_Sg} {k : Value → jr_Sg → Prop} {j z f len : Nat} {rf : Int32} {W : Nat → Int32 × Int32} (hn : fr_no σ j z) (hf : f < 5) (hlen : 5 * z ≤ len) (hp : pd σ len f rf W) : ∀ (m i : Nat), i + m = z → k (.int (oI (fs (fun i => ¬ σ 45 (40 * j + i) = (W (5 * (i + 1))).1) i m))) σ → jr_R G (d + 3) mi_X9_firstOther (jr_k k) 28 [some (.ref 0), some (.int (nI j)), some (.int (nI f)), some (.int (nI z)), some (.int (nI i))] [] σ := by
  obtain ⟨hj, hz, hm, ez, e1, e2, -⟩ := hn
  intro m
  induction m with
  | zero =>
    intro i hi h
    have ei : i = z := hi
    subst ei
    refine jr_iload 30 dX9_firstOther_28 rfl rfl ?_
    refine jr_iload_n 3 31 dX9_firstOther_30 rfl rfl rfl ?_
    refine jr_icmp_ge 70 34 dX9_firstOther_31 rfl rfl (fun q31 => ?_) (fun q => absurd (Int32.le_refl _) q)
    refine jr_iconst ((-1)) 71 dX9_firstOther_70 rfl rfl ?_
    refine jr_ireturn dX9_firstOther_71 rfl rfl ?_
    exact h
  | succ m ih =>
    intro i hi h
    have ew := (hp.2 (5 * (i + 1)) (by omega)).1
    refine jr_iload 30 dX9_firstOther_28 rfl rfl ?_
    refine jr_iload_n 3 31 dX9_firstOther_30 rfl rfl rfl ?_
    refine jr_icmp_ge 70 34 dX9_firstOther_31 rfl rfl (fun q => absurd q (nI_ge (by omega) (by omega))) (fun q31 => ?_)
    refine jr_aload_n 0 35 dX9_firstOther_34 rfl rfl rfl ?_
    refine gf_X9_57 38 dX9_firstOther_35 rfl rfl rfl rfl ?_
    refine jr_iload_n 1 39 dX9_firstOther_38 rfl rfl rfl ?_
    refine jr_iload 41 dX9_firstOther_39 rfl rfl ?_
    refine cs_X9_324 44 dX9_firstOther_41 rfl rfl rfl (Nat.le_of_ble_eq_true rfl) (wp_get hj e2 (by omega) (by omega) ?_)
    refine jr_aload_n 0 45 dX9_firstOther_44 rfl rfl rfl ?_
    refine gf_X9_37 48 dX9_firstOther_45 rfl rfl rfl rfl ?_
    refine jr_iconst (nI 5) 49 dX9_firstOther_48 rfl rfl ?_
    refine jr_iload 51 dX9_firstOther_49 rfl rfl ?_
    refine jr_iconst (nI 1) 52 dX9_firstOther_51 rfl rfl ?_
    refine jr_iadd 53 dX9_firstOther_52 rfl ?_
    refine jr_imul 54 dX9_firstOther_53 rfl ?_
    rw [nI5]
    refine jr_iload_n 2 55 dX9_firstOther_54 rfl rfl rfl ?_
    refine cs_X9_192 58 dX9_firstOther_55 rfl rfl rfl (Nat.le_of_ble_eq_true rfl) (wp_warmthBehind (t := 5 * (i + 1)) (f := f) (by omega) hf ?_)
    rw [ew]
    refine jr_icmp_eq 64 61 dX9_firstOther_58 rfl rfl (fun q58 => ?_) (fun q58 => ?_)
    · refine jr_iinc (v := nI (i + 1)) (L' := [_, _, _, _, _]) 67 dX9_firstOther_64 rfl rfl (nI_1 i) (by decide) rfl ?_
      refine jr_goto 28 dX9_firstOther_67 rfl ?_
      rw [fs_f (fun z => z q58)] at h
      exact ih (i + 1) (by omega) h
    · refine jr_iload 63 dX9_firstOther_61 rfl rfl ?_
      refine jr_ireturn dX9_firstOther_63 rfl rfl ?_
      rw [fs_t q58] at h
      exact h
theorem wp_firstOther {G : jr_G} {d : Nat} {σ : jr_Sg} {k : Value → jr_Sg → Prop} {j z f len : Nat} {rf : Int32} {W : Nat → Int32 × Int32} (hn : fr_no σ j z) (hf : f < 5) (hlen : 5 * z ≤ len) (hp : pd σ len f rf W) (h : k (.int (oI (fo (σ 45) W j z))) σ) : jr_M G (d + 3) mi_X9_firstOther [.ref 0, .int (nI j), .int (nI f)] σ (jr_k k) := by
  refine jr_enter (L := [some (.ref 0), some (.int (nI j)), some (.int (nI f)), none, none]) (by decide) (Nat.le_of_ble_eq_true rfl) rfl ?_
  refine jr_aload_n 0 1 dX9_firstOther_0 rfl rfl rfl ?_
  refine gf_X9_57 4 dX9_firstOther_1 rfl rfl rfl rfl ?_
  refine jr_iload_n 1 5 dX9_firstOther_4 rfl rfl rfl ?_
  refine cs_X9_298 8 dX9_firstOther_5 rfl rfl rfl (Nat.le_of_ble_eq_true rfl) (wp_shasT hn.1 ?_)
  refine jr_if_eq 23 11 dX9_firstOther_8 rfl rfl (fun q => absurd q (by decide)) (fun q8 => ?_)
  refine jr_aload_n 0 12 dX9_firstOther_11 rfl rfl rfl ?_
  refine gf_X9_57 15 dX9_firstOther_12 rfl rfl rfl rfl ?_
  refine gf_X9_342 18 dX9_firstOther_15 rfl rfl rfl rfl ?_
  refine jr_iload_n 1 19 dX9_firstOther_18 rfl rfl rfl ?_
  refine jr_iald rfl rfl (by have := hn.1; omega) 20 dX9_firstOther_19 rfl ?_
  rw [hn.2.2.2.2.2.1]
  refine jr_goto 24 dX9_firstOther_20 rfl ?_
  refine jr_istore_n 3 (L' := [_, _, _, _, _]) 25 dX9_firstOther_24 rfl rfl (by decide) rfl ?_
  refine jr_iconst (nI 0) 26 dX9_firstOther_25 rfl rfl ?_
  refine jr_istore (L' := [_, _, _, _, _]) 28 dX9_firstOther_26 rfl (by decide) rfl ?_
  exact firstOther_l hn hf hlen hp z 0 (Nat.zero_add _) h
theorem unlike_l {G : jr_G} {d : Nat} {σ : jr_Sg} {k : Value → jr_Sg → Prop} {j z f : Nat} {W : Nat → Int32 × Int32} (hj : j < 4) (hz : z ≤ 8) (hf : f < 5) (ez : σ 58 j = nI z) (hW : ∀ t, t < 40 → σ 69 (5 * t + f) = (W (t + 1)).1) : ∀ (m i : Nat), i + m = z → k (.int (oI (fs (fun i => ¬ σ 59 (40 * j + i) = (W (5 * (i + 1))).1) i m))) σ → jr_R G (d + 6) mi_X10_unlike (jr_k k) 8 [some (.ref 46), some (.int (nI j)), some (.int (nI f)), some (.int (nI i))] [] σ := by
  intro m
  induction m with
  | zero =>
    intro i hi h
    have ei : i = z := hi
    subst ei
    refine jr_iload_n 3 9 dX10_unlike_8 rfl rfl rfl ?_
    refine jr_aload_n 0 10 dX10_unlike_9 rfl rfl rfl ?_
    refine gf_X10_43 13 dX10_unlike_10 rfl rfl rfl rfl ?_
    refine jr_iload_n 1 14 dX10_unlike_13 rfl rfl rfl ?_
    refine jr_iald rfl rfl (by omega) 15 dX10_unlike_14 rfl ?_
    rw [ez]
    refine jr_icmp_ge 54 18 dX10_unlike_15 rfl rfl (fun q15 => ?_) (fun q => absurd (Int32.le_refl _) q)
    refine jr_iconst ((-1)) 55 dX10_unlike_54 rfl rfl ?_
    refine jr_ireturn dX10_unlike_55 rfl rfl ?_
    exact h
  | succ m ih =>
    intro i hi h
    have ew := hW (5 * i + 4) (by omega)
    have ei : nI 5 * (nI 5 * nI i + nI 4) + nI f = nI (5 * (5 * i + 4) + f) := by rw [pk_mul, nI_add, pk_mul, nI_add]
    refine jr_iload_n 3 9 dX10_unlike_8 rfl rfl rfl ?_
    refine jr_aload_n 0 10 dX10_unlike_9 rfl rfl rfl ?_
    refine gf_X10_43 13 dX10_unlike_10 rfl rfl rfl rfl ?_
    refine jr_iload_n 1 14 dX10_unlike_13 rfl rfl rfl ?_
    refine jr_iald rfl rfl (by omega) 15 dX10_unlike_14 rfl ?_
    rw [ez]
    refine jr_icmp_ge 54 18 dX10_unlike_15 rfl rfl (fun q => absurd q (nI_ge (by omega) (by omega))) (fun q15 => ?_)
    refine jr_aload_n 0 19 dX10_unlike_18 rfl rfl rfl ?_
    refine gf_X10_46 22 dX10_unlike_19 rfl rfl rfl rfl ?_
    refine jr_bipush (nI 40) 24 dX10_unlike_22 rfl rfl ?_
    refine jr_iload_n 1 25 dX10_unlike_24 rfl rfl rfl ?_
    refine jr_imul 26 dX10_unlike_25 rfl ?_
    refine jr_iload_n 3 27 dX10_unlike_26 rfl rfl rfl ?_
    refine jr_iadd 28 dX10_unlike_27 rfl ?_
    refine jr_iald rfl (ix40' j i) (by omega) 29 dX10_unlike_28 rfl ?_
    refine jr_aload_n 0 30 dX10_unlike_29 rfl rfl rfl ?_
    refine gf_X10_76 33 dX10_unlike_30 rfl rfl rfl rfl ?_
    refine jr_iconst (nI 5) 34 dX10_unlike_33 rfl rfl ?_
    refine jr_iconst (nI 5) 35 dX10_unlike_34 rfl rfl ?_
    refine jr_iload_n 3 36 dX10_unlike_35 rfl rfl rfl ?_
    refine jr_imul 37 dX10_unlike_36 rfl ?_
    refine jr_iconst (nI 4) 38 dX10_unlike_37 rfl rfl ?_
    refine jr_iadd 39 dX10_unlike_38 rfl ?_
    refine jr_imul 40 dX10_unlike_39 rfl ?_
    refine jr_iload_n 2 41 dX10_unlike_40 rfl rfl rfl ?_
    refine jr_iadd 42 dX10_unlike_41 rfl ?_
    refine jr_iald rfl ei (by omega) 43 dX10_unlike_42 rfl ?_
    rw [ew]
    refine jr_icmp_eq 48 46 dX10_unlike_43 rfl rfl (fun q43 => ?_) (fun q43 => ?_)
    · refine jr_iinc (v := nI (i + 1)) (L' := [_, _, _, _]) 51 dX10_unlike_48 rfl rfl (nI_1 i) (by decide) rfl ?_
      refine jr_goto 8 dX10_unlike_51 rfl ?_
      rw [fs_f (fun z => z q43)] at h
      exact ih (i + 1) (by omega) h
    · refine jr_iload_n 3 47 dX10_unlike_46 rfl rfl rfl ?_
      refine jr_ireturn dX10_unlike_47 rfl rfl ?_
      rw [fs_t q43] at h
      exact h
theorem wp_unlike {G : jr_G} {d : Nat} {σ : jr_Sg} {k : Value → jr_Sg → Prop} {T : Nat → Nat → List Nat} {n lw nf nc : Nat} {kd se : Nat → Nat} (hr : rr_ok T n nf nc kd se lw σ) {j z f : Nat} (hj : j < 4) (hz : z ≤ 8) (ez : σ 58 j = nI z) (hf : f < nf) (hk : ∀ σ' : jr_Sg, jr_eqx iv_RX σ σ' → k (.int (oI (fo (σ 59) (sm_R T lw nf nc kd se σ f) j z))) σ') : jr_M G (d + 6) mi_X10_unlike [.ref 46, .int (nI j), .int (nI f)] σ (jr_k k) := by
  refine jr_enter (L := [some (.ref 46), some (.int (nI j)), some (.int (nI f)), none]) (by decide) (Nat.le_of_ble_eq_true rfl) rfl ?_
  refine jr_aload_n 0 1 dX10_unlike_0 rfl rfl rfl ?_
  refine jr_bipush (nI 40) 3 dX10_unlike_1 rfl rfl ?_
  refine cs_X10_253 6 dX10_unlike_3 rfl rfl rfl (Nat.le_of_ble_eq_true rfl) (wp_rruns (len := 40) hr (by omega) (fun σ1 g1 g2 => ?_))
  refine jr_iconst (nI 0) 7 dX10_unlike_6 rfl rfl ?_
  refine jr_istore_n 3 (L' := [_, _, _, _]) 8 dX10_unlike_7 rfl rfl (by decide) rfl ?_
  exact unlike_l hj hz (by have := hr.1.2.1; omega) (by rw [g1 58 (by decide)]; exact ez) (g2 f hf).2.2 z 0 (Nat.zero_add _) (by rw [g1 59 (by decide)]; exact hk σ1 g1)
theorem pp_judge {G : jr_G} {d : Nat} {σ : jr_Sg} {a f : Int32} (h : IV σ) : jr_pair G (d + 20) mi_X9_judge mi_X10_judge [.int a, .int f] σ := by
  obtain ⟨T, n, nf, nc, kd, se, lw, tp, h⟩ := h
  have hh := h
  obtain ⟨hTC, hTR, ⟨hsc, hsr, hl1, hl2, hlw, hfc, hli, hca⟩, htp, himg, hsh, hrest, hwd⟩ := hh
  have hnf := hsc.1
  have h5 := hsc.2.1
  have hnc := hsc.2.2.1
  have h8 := hsc.2.2.2.1
  have rnf := hsr.1
  have rnc := hsr.2.2.1
  have hlm := hrest.2.2.2.1
  unfold jr_pair
  rcases fr_cases hsh a with ⟨r, hr⟩ | ⟨j0, z, rfl, hn⟩
  · refine jr_enter (L := [some (.ref 0), some (.int a), some (.int f), none]) (by decide) (Nat.le_of_ble_eq_true rfl) rfl ?_
    refine jr_aload_n 0 1 dX9_judge_0 rfl rfl rfl ?_
    refine jr_iload_n 1 2 dX9_judge_1 rfl rfl rfl ?_
    refine cs_X9_289 5 dX9_judge_2 rfl rfl rfl (Nat.le_of_ble_eq_true rfl) (wp_filmRefusalF hsh hr ?_)
    refine jr_istore_n 3 (L' := [_, _, _, _]) 6 dX9_judge_5 rfl rfl (by decide) rfl ?_
    refine jr_iload_n 3 7 dX9_judge_6 rfl rfl rfl ?_
    refine jr_if_ge 12 10 dX9_judge_7 rfl rfl (fun q => absurd q (Int32.not_le.mpr (fr_neg hr))) (fun q7 => ?_)
    refine jr_iload_n 3 11 dX9_judge_10 rfl rfl rfl ?_
    refine jr_ireturn dX9_judge_11 rfl rfl ?_
    refine jr_enter (L := [some (.ref 46), some (.int a), some (.int f), none]) (by decide) (Nat.le_of_ble_eq_true rfl) rfl ?_
    refine jr_aload_n 0 1 dX10_judge_0 rfl rfl rfl ?_
    refine jr_iload_n 1 2 dX10_judge_1 rfl rfl rfl ?_
    refine jr_iload_n 2 3 dX10_judge_2 rfl rfl rfl ?_
    refine cs_X10_322 6 dX10_judge_3 rfl rfl rfl (Nat.le_of_ble_eq_true rfl) (wp_toldWrongF hr ?_)
    refine jr_istore_n 3 (L' := [_, _, _, _]) 7 dX10_judge_6 rfl rfl (by decide) rfl ?_
    refine jr_iload_n 3 8 dX10_judge_7 rfl rfl rfl ?_
    refine jr_if_ne 20 11 dX10_judge_8 rfl rfl (fun q8 => ?_) (fun q => absurd q (fr_ne hr))
    refine jr_iload_n 3 21 dX10_judge_20 rfl rfl rfl ?_
    refine jr_ireturn dX10_judge_21 rfl rfl ?_
    exact ⟨rfl, IV_mov (iv_same_x (jr_eqx_rf [] _) (by decide)) h⟩
  · rcases jr_fc f h5 with hf | ⟨j, hj, rfl⟩
    · refine jr_enter (L := [some (.ref 0), some (.int (nI j0)), some (.int f), none]) (by decide) (Nat.le_of_ble_eq_true rfl) rfl ?_
      refine jr_aload_n 0 1 dX9_judge_0 rfl rfl rfl ?_
      refine jr_iload_n 1 2 dX9_judge_1 rfl rfl rfl ?_
      refine cs_X9_289 5 dX9_judge_2 rfl rfl rfl (Nat.le_of_ble_eq_true rfl) (wp_filmRefusalT hn ?_)
      refine jr_istore_n 3 (L' := [_, _, _, _]) 6 dX9_judge_5 rfl rfl (by decide) rfl ?_
      refine jr_iload_n 3 7 dX9_judge_6 rfl rfl rfl ?_
      refine jr_if_ge 12 10 dX9_judge_7 rfl rfl (fun q7 => ?_) (fun q => absurd (by decide) q)
      refine jr_aload_n 0 13 dX9_judge_12 rfl rfl rfl ?_
      refine gf_X9_44 16 dX9_judge_13 rfl rfl rfl rfl ?_
      refine jr_iload_n 2 17 dX9_judge_16 rfl rfl rfl ?_
      refine cs_X9_146 20 dX9_judge_17 rfl rfl rfl (Nat.le_of_ble_eq_true rfl) (wp_has_15 hnf h5 (fun j hj e => absurd hf (by rw [e]; exact jr_fcn hj (by omega))) (fun _ => ?_))
      refine jr_if_ne 26 23 dX9_judge_20 rfl rfl (fun q => absurd (by decide) q) (fun q20 => ?_)
      refine jr_bipush ((-5)) 25 dX9_judge_23 rfl rfl ?_
      refine jr_ireturn dX9_judge_25 rfl rfl ?_
      refine jr_enter (L := [some (.ref 46), some (.int (nI j0)), some (.int f), none]) (by decide) (Nat.le_of_ble_eq_true rfl) rfl ?_
      refine jr_aload_n 0 1 dX10_judge_0 rfl rfl rfl ?_
      refine jr_iload_n 1 2 dX10_judge_1 rfl rfl rfl ?_
      refine jr_iload_n 2 3 dX10_judge_2 rfl rfl rfl ?_
      refine cs_X10_322 6 dX10_judge_3 rfl rfl rfl (Nat.le_of_ble_eq_true rfl) (wp_toldWrongN rnf h5 hf hn ?_)
      refine jr_istore_n 3 (L' := [_, _, _, _]) 7 dX10_judge_6 rfl rfl (by decide) rfl ?_
      refine jr_iload_n 3 8 dX10_judge_7 rfl rfl rfl ?_
      refine jr_if_ne 20 11 dX10_judge_8 rfl rfl (fun q8 => ?_) (fun q => absurd q (by decide))
      refine jr_iload_n 3 21 dX10_judge_20 rfl rfl rfl ?_
      refine jr_ireturn dX10_judge_21 rfl rfl ?_
      exact ⟨rfl, IV_mov (iv_same_x (jr_eqx_rf [] _) (by decide)) h⟩
    · refine jr_enter (L := [some (.ref 0), some (.int (nI j0)), some (.int (nI j)), none]) (by decide) (Nat.le_of_ble_eq_true rfl) rfl ?_
      refine jr_aload_n 0 1 dX9_judge_0 rfl rfl rfl ?_
      refine jr_iload_n 1 2 dX9_judge_1 rfl rfl rfl ?_
      refine cs_X9_289 5 dX9_judge_2 rfl rfl rfl (Nat.le_of_ble_eq_true rfl) (wp_filmRefusalT hn ?_)
      refine jr_istore_n 3 (L' := [_, _, _, _]) 6 dX9_judge_5 rfl rfl (by decide) rfl ?_
      refine jr_iload_n 3 7 dX9_judge_6 rfl rfl rfl ?_
      refine jr_if_ge 12 10 dX9_judge_7 rfl rfl (fun q7 => ?_) (fun q => absurd (by decide) q)
      refine jr_aload_n 0 13 dX9_judge_12 rfl rfl rfl ?_
      refine gf_X9_44 16 dX9_judge_13 rfl rfl rfl rfl ?_
      refine jr_iload_n 2 17 dX9_judge_16 rfl rfl rfl ?_
      refine cs_X9_146 20 dX9_judge_17 rfl rfl rfl (Nat.le_of_ble_eq_true rfl) (wp_hasT_15 hnf h5 hj ?_)
      refine jr_if_ne 26 23 dX9_judge_20 rfl rfl (fun q20 => ?_) (fun q => absurd q (by decide))
      refine jr_aload_n 0 27 dX9_judge_26 rfl rfl rfl ?_
      refine jr_iload_n 2 28 dX9_judge_27 rfl rfl rfl ?_
      refine jr_aload_n 0 29 dX9_judge_28 rfl rfl rfl ?_
      refine jr_iload_n 1 30 dX9_judge_29 rfl rfl rfl ?_
      refine cs_X9_292 33 dX9_judge_30 rfl rfl rfl (Nat.le_of_ble_eq_true rfl) (wp_filmLength hn ?_)
      refine cs_X9_189 36 dX9_judge_33 rfl rfl rfl (Nat.le_of_ble_eq_true rfl) (wp_playNow (len := 5 * z) (by have := hn.2.1; omega) h hj (jr_eqx_rf _ _) (fun σ1 g1 g2 => ?_))
      refine jr_aload_n 0 37 dX9_judge_36 rfl rfl rfl ?_
      refine jr_iload_n 1 38 dX9_judge_37 rfl rfl rfl ?_
      refine jr_iload_n 2 39 dX9_judge_38 rfl rfl rfl ?_
      refine cs_X9_295 42 dX9_judge_39 rfl rfl rfl (Nat.le_of_ble_eq_true rfl) (wp_firstOther (len := 5 * z) (fn_x hn g1 (by decide)) (by omega) (Nat.le_refl _) g2 ?_)
      refine jr_ireturn dX9_judge_42 rfl rfl ?_
      refine jr_enter (L := [some (.ref 46), some (.int (nI j0)), some (.int (nI j)), none]) (by decide) (Nat.le_of_ble_eq_true rfl) rfl ?_
      have h1 := iv_mov (iv_cx g1) h
      have r1 := rr_of h1
      have hn1 := fn_x hn g1 (by decide)
      refine jr_aload_n 0 1 dX10_judge_0 rfl rfl rfl ?_
      refine jr_iload_n 1 2 dX10_judge_1 rfl rfl rfl ?_
      refine jr_iload_n 2 3 dX10_judge_2 rfl rfl rfl ?_
      refine cs_X10_322 6 dX10_judge_3 rfl rfl rfl (Nat.le_of_ble_eq_true rfl) (wp_toldWrongT r1.1.1 h5 hj hn1 ?_)
      refine jr_istore_n 3 (L' := [_, _, _, _]) 7 dX10_judge_6 rfl rfl (by decide) rfl ?_
      refine jr_iload_n 3 8 dX10_judge_7 rfl rfl rfl ?_
      refine jr_if_ne 20 11 dX10_judge_8 rfl rfl (fun q => absurd (by decide) q) (fun q8 => ?_)
      refine jr_aload_n 0 12 dX10_judge_11 rfl rfl rfl ?_
      refine jr_iload_n 1 13 dX10_judge_12 rfl rfl rfl ?_
      refine jr_iload_n 2 14 dX10_judge_13 rfl rfl rfl ?_
      refine cs_X10_325 17 dX10_judge_14 rfl rfl rfl (Nat.le_of_ble_eq_true rfl) (wp_unlike r1 hn1.1 hn1.2.1 hn1.2.2.2.1 hj (fun σ2 g3 => ?_))
      refine jr_goto 21 dX10_judge_17 rfl ?_
      refine jr_ireturn dX10_judge_21 rfl rfl ?_
      exact ⟨congrArg Value.int (by rw [sm_R_of g1, fo_congr (fun i hi => hn1.2.2.2.2.2.2 i hi)]), IV_mov (iv_same_tr (iv_cx g1) (iv_rx g3)) h⟩

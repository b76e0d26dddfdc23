/-- a loop that heaps up -/
def lp (g : Nat → Int32 → Int32) (a : Int32) : Nat → Int32
  | 0 => a
  | n + 1 => g n (lp g a n)
theorem lp_congr {g g' : Nat → Int32 → Int32} {a : Int32} : ∀ {n : Nat}, (∀ i, i < n → ∀ x, g i x = g' i x) → lp g a n = lp g' a n
  | 0, _ => rfl
  | n + 1, h => by rw [lp, lp, lp_congr (fun i hi x => h i (Nat.lt_succ_of_lt hi) x), h n (Nat.lt_succ_self n)]
theorem ix5 (t f : Nat) : nI t * nI 5 + nI f = nI (5 * t + f) := by rw [pk_mul, nI_add]; congr 1; omega
theorem wp_isPlace {G : jr_G} {d : Nat} {σ : jr_Sg} {k : Value → jr_Sg → Prop} {t f : Nat} (ht : t ≤ 40) (hf : f < 5) (h : k (.int 1) σ) : jr_M G d mi_X4_isPlace [.int (nI t), .int (nI f)] σ (jr_k k) := by
  refine jr_enter (L := [some (.int (nI t)), some (.int (nI f))]) (by decide) (Nat.le_of_ble_eq_true rfl) rfl ?_
  refine jr_iload_n 0 1 dX4_isPlace_0 rfl rfl rfl ?_
  refine jr_if_lt 23 4 dX4_isPlace_1 rfl rfl (fun z => absurd z (nI_pos (by omega))) (fun q1 => ?_)
  refine jr_iload_n 0 5 dX4_isPlace_4 rfl rfl rfl ?_
  refine jr_bipush (40) 7 dX4_isPlace_5 rfl rfl ?_
  refine jr_icmp_gt 23 10 dX4_isPlace_7 rfl rfl (fun z => absurd z (Int32.not_lt.mpr (nI_le (b := 40) ht (by decide)))) (fun q7 => ?_)
  refine jr_iload_n 1 11 dX4_isPlace_10 rfl rfl rfl ?_
  refine jr_if_lt 23 14 dX4_isPlace_11 rfl rfl (fun z => absurd z (nI_pos (by omega))) (fun q11 => ?_)
  refine jr_iload_n 1 15 dX4_isPlace_14 rfl rfl rfl ?_
  refine jr_iconst (5) 16 dX4_isPlace_15 rfl rfl ?_
  refine jr_icmp_ge 23 19 dX4_isPlace_16 rfl rfl (fun z => absurd z (nI_ge (b := 5) hf (by decide))) (fun q16 => ?_)
  refine jr_iconst (1) 20 dX4_isPlace_19 rfl rfl ?_
  refine jr_goto 24 dX4_isPlace_20 rfl ?_
  refine jr_ireturn dX4_isPlace_24 rfl rfl ?_
  exact h
theorem wp_warmthBehind {G : jr_G} {d : Nat} {σ : jr_Sg} {k : Value → jr_Sg → Prop} {t f : Nat} (ht : t ≤ 40) (hf : f < 5) (h : k (.int (σ 12 (5 * t + f))) σ) : jr_M G (d + 1) mi_X4_warmthBehind [.ref 9, .int (nI t), .int (nI f)] σ (jr_k k) := by
  refine jr_enter (L := [some (.ref 9), some (.int (nI t)), some (.int (nI f))]) (by decide) (Nat.le_of_ble_eq_true rfl) rfl ?_
  refine jr_iload_n 1 1 dX4_warmthBehind_0 rfl rfl rfl ?_
  refine jr_iload_n 2 2 dX4_warmthBehind_1 rfl rfl rfl ?_
  refine cs_X4_136 5 dX4_warmthBehind_2 rfl rfl (Nat.le_of_ble_eq_true rfl) (wp_isPlace ht hf ?_)
  refine jr_if_eq 21 8 dX4_warmthBehind_5 rfl rfl (fun q => absurd q (by decide)) (fun q5 => ?_)
  refine jr_aload_n 0 9 dX4_warmthBehind_8 rfl rfl rfl ?_
  refine gf_X4_18 12 dX4_warmthBehind_9 rfl rfl rfl rfl ?_
  refine jr_iload_n 1 13 dX4_warmthBehind_12 rfl rfl rfl ?_
  refine jr_iconst (nI 5) 14 dX4_warmthBehind_13 rfl rfl ?_
  refine jr_imul 15 dX4_warmthBehind_14 rfl ?_
  refine jr_iload_n 2 16 dX4_warmthBehind_15 rfl rfl rfl ?_
  refine jr_iadd 17 dX4_warmthBehind_16 rfl ?_
  refine jr_iald rfl (ix5 t f) (by omega) 18 dX4_warmthBehind_17 rfl ?_
  refine jr_goto 22 dX4_warmthBehind_18 rfl ?_
  refine jr_ireturn dX4_warmthBehind_22 rfl rfl ?_
  exact h
theorem wp_lookedBehind {G : jr_G} {d : Nat} {σ : jr_Sg} {k : Value → jr_Sg → Prop} {t f : Nat} (ht : t ≤ 40) (hf : f < 5) (h : k (.int (σ 13 (5 * t + f))) σ) : jr_M G (d + 1) mi_X4_lookedBehind [.ref 9, .int (nI t), .int (nI f)] σ (jr_k k) := by
  refine jr_enter (L := [some (.ref 9), some (.int (nI t)), some (.int (nI f))]) (by decide) (Nat.le_of_ble_eq_true rfl) rfl ?_
  refine jr_iload_n 1 1 dX4_lookedBehind_0 rfl rfl rfl ?_
  refine jr_iload_n 2 2 dX4_lookedBehind_1 rfl rfl rfl ?_
  refine cs_X4_136 5 dX4_lookedBehind_2 rfl rfl (Nat.le_of_ble_eq_true rfl) (wp_isPlace ht hf ?_)
  refine jr_if_eq 21 8 dX4_lookedBehind_5 rfl rfl (fun q => absurd q (by decide)) (fun q5 => ?_)
  refine jr_aload_n 0 9 dX4_lookedBehind_8 rfl rfl rfl ?_
  refine gf_X4_22 12 dX4_lookedBehind_9 rfl rfl rfl rfl ?_
  refine jr_iload_n 1 13 dX4_lookedBehind_12 rfl rfl rfl ?_
  refine jr_iconst (nI 5) 14 dX4_lookedBehind_13 rfl rfl ?_
  refine jr_imul 15 dX4_lookedBehind_14 rfl ?_
  refine jr_iload_n 2 16 dX4_lookedBehind_15 rfl rfl rfl ?_
  refine jr_iadd 17 dX4_lookedBehind_16 rfl ?_
  refine jr_iald rfl (ix5 t f) (by omega) 18 dX4_lookedBehind_17 rfl ?_
  refine jr_goto 22 dX4_lookedBehind_18 rfl ?_
  refine jr_ireturn dX4_lookedBehind_22 rfl rfl ?_
  exact h
theorem wp_isRedBehind {G : jr_G} {d : Nat} {σ : jr_Sg} {k : Value → jr_Sg → Prop} {t f : Nat} (ht : t ≤ 40) (hf : f < 5) (h1 : σ 14 f ≤ σ 12 (5 * t + f) → k (.int 1) σ) (h0 : ¬ σ 14 f ≤ σ 12 (5 * t + f) → k (.int 0) σ) : jr_M G (d + 1) mi_X4_isRedBehind [.ref 9, .int (nI t), .int (nI f)] σ (jr_k k) := by
  refine jr_enter (L := [some (.ref 9), some (.int (nI t)), some (.int (nI f))]) (by decide) (Nat.le_of_ble_eq_true rfl) rfl ?_
  refine jr_iload_n 1 1 dX4_isRedBehind_0 rfl rfl rfl ?_
  refine jr_iload_n 2 2 dX4_isRedBehind_1 rfl rfl rfl ?_
  refine cs_X4_136 5 dX4_isRedBehind_2 rfl rfl (Nat.le_of_ble_eq_true rfl) (wp_isPlace ht hf ?_)
  refine jr_if_eq 31 8 dX4_isRedBehind_5 rfl rfl (fun q => absurd q (by decide)) (fun q5 => ?_)
  refine jr_aload_n 0 9 dX4_isRedBehind_8 rfl rfl rfl ?_
  refine gf_X4_18 12 dX4_isRedBehind_9 rfl rfl rfl rfl ?_
  refine jr_iload_n 1 13 dX4_isRedBehind_12 rfl rfl rfl ?_
  refine jr_iconst (nI 5) 14 dX4_isRedBehind_13 rfl rfl ?_
  refine jr_imul 15 dX4_isRedBehind_14 rfl ?_
  refine jr_iload_n 2 16 dX4_isRedBehind_15 rfl rfl rfl ?_
  refine jr_iadd 17 dX4_isRedBehind_16 rfl ?_
  refine jr_iald rfl (ix5 t f) (by omega) 18 dX4_isRedBehind_17 rfl ?_
  refine jr_aload_n 0 19 dX4_isRedBehind_18 rfl rfl rfl ?_
  refine gf_X4_25 22 dX4_isRedBehind_19 rfl rfl rfl rfl ?_
  refine jr_iload_n 2 23 dX4_isRedBehind_22 rfl rfl rfl ?_
  refine jr_iald rfl rfl (by omega) 24 dX4_isRedBehind_23 rfl ?_
  refine jr_icmp_lt 31 27 dX4_isRedBehind_24 rfl rfl (fun q24 => ?_) (fun q24 => ?_)
  · refine jr_iconst (nI 0) 32 dX4_isRedBehind_31 rfl rfl ?_
    refine jr_ireturn dX4_isRedBehind_32 rfl rfl ?_
    exact h0 (Int32.not_le.mpr q24)
  · refine jr_iconst (nI 1) 28 dX4_isRedBehind_27 rfl rfl ?_
    refine jr_goto 32 dX4_isRedBehind_28 rfl ?_
    refine jr_ireturn dX4_isRedBehind_32 rfl rfl ?_
    exact h1 (Int32.not_lt.mp q24)
theorem wp_mostWarmth_loop {G : jr_G} {d : Nat} {σ : jr_Sg} {k : Value → jr_Sg → Prop} {f : Nat} (hf : f < 5) (h : k (.int (lp (fun i a => pu_max a (σ 12 (5 * i + f))) 0 41)) σ) : ∀ (m j : Nat) (acc : Int32), j + m = 41 → acc = lp (fun i a => pu_max a (σ 12 (5 * i + f))) (0) j → jr_R G (d + 2) mi_X4_mostWarmth (jr_k k) 4 [some (.ref 9), some (.int (nI f)), some (.int acc), some (.int (nI j))] [] σ := by
  intro m
  induction m with
  | zero =>
    intro j acc hj hacc
    have ej : j = 41 := hj
    subst ej
    subst hacc
    refine jr_iload_n 3 5 dX4_mostWarmth_4 rfl rfl rfl ?_
    refine jr_bipush (40) 7 dX4_mostWarmth_5 rfl rfl ?_
    refine jr_icmp_gt 27 10 dX4_mostWarmth_7 rfl rfl (fun q7 => ?_) (fun z => absurd (nI_lt (a := 40) (b := 41) (by omega) (by omega)) z)
    refine jr_iload_n 2 28 dX4_mostWarmth_27 rfl rfl rfl ?_
    refine jr_ireturn dX4_mostWarmth_28 rfl rfl ?_
    exact h
  | succ m ih =>
    intro j acc hj hacc
    refine jr_iload_n 3 5 dX4_mostWarmth_4 rfl rfl rfl ?_
    refine jr_bipush (40) 7 dX4_mostWarmth_5 rfl rfl ?_
    refine jr_icmp_gt 27 10 dX4_mostWarmth_7 rfl rfl (fun z => absurd z (Int32.not_lt.mpr (nI_le (b := 40) (by omega) (by decide)))) (fun q7 => ?_)
    refine jr_iload_n 2 11 dX4_mostWarmth_10 rfl rfl rfl ?_
    refine jr_aload_n 0 12 dX4_mostWarmth_11 rfl rfl rfl ?_
    refine jr_iload_n 3 13 dX4_mostWarmth_12 rfl rfl rfl ?_
    refine jr_iload_n 1 14 dX4_mostWarmth_13 rfl rfl rfl ?_
    refine cs_X4_139 17 dX4_mostWarmth_14 rfl rfl rfl (Nat.le_of_ble_eq_true rfl) (wp_warmthBehind (t := j) (by omega) hf ?_)
    refine jr_mmax 20 dX4_mostWarmth_17 rfl ml_X4_124 (Nat.le_of_ble_eq_true rfl) ?_
    refine jr_istore_n 2 (L' := [_, _, _, _]) 21 dX4_mostWarmth_20 rfl rfl (by decide) rfl ?_
    refine jr_iinc (v := nI (j + 1)) (L' := [_, _, _, _]) 24 dX4_mostWarmth_21 rfl rfl (nI_1 j) (by decide) rfl ?_
    refine jr_goto 4 dX4_mostWarmth_24 rfl ?_
    exact ih (j + 1) _ (by omega) (by rw [hacc]; rfl)
theorem wp_mostWarmth {G : jr_G} {d : Nat} {σ : jr_Sg} {k : Value → jr_Sg → Prop} {f : Nat} (hf : f < 5) (h : k (.int (lp (fun i a => pu_max a (σ 12 (5 * i + f))) 0 41)) σ) : jr_M G (d + 2) mi_X4_mostWarmth [.ref 9, .int (nI f)] σ (jr_k k) := by
  refine jr_enter (L := [some (.ref 9), some (.int (nI f)), none, none]) (by decide) (Nat.le_of_ble_eq_true rfl) rfl ?_
  refine jr_iconst (nI 0) 1 dX4_mostWarmth_0 rfl rfl ?_
  refine jr_istore_n 2 (L' := [_, _, _, _]) 2 dX4_mostWarmth_1 rfl rfl (by decide) rfl ?_
  refine jr_iconst (nI 0) 3 dX4_mostWarmth_2 rfl rfl ?_
  refine jr_istore_n 3 (L' := [_, _, _, _]) 4 dX4_mostWarmth_3 rfl rfl (by decide) rfl ?_
  exact wp_mostWarmth_loop hf h _ 0 _ (Nat.zero_add _) rfl
theorem wp_redSeconds_loop {G : jr_G} {d : Nat} {σ : jr_Sg} {k : Value → jr_Sg → Prop} {f : Nat} (hf : f < 5) (h : k (.int (lp (fun i a => a + if σ 14 f ≤ σ 12 (5 * (i + 1) + f) then 1 else 0) 0 40)) σ) : ∀ (m j : Nat) (acc : Int32), j + m = 40 → acc = lp (fun i a => a + if σ 14 f ≤ σ 12 (5 * (i + 1) + f) then 1 else 0) (0) j → jr_R G (d + 2) mi_X4_redSeconds (jr_k k) 4 [some (.ref 9), some (.int (nI f)), some (.int acc), some (.int (nI (j + 1)))] [] σ := by
  intro m
  induction m with
  | zero =>
    intro j acc hj hacc
    have ej : j = 40 := hj
    subst ej
    subst hacc
    refine jr_iload_n 3 5 dX4_redSeconds_4 rfl rfl rfl ?_
    refine jr_bipush (40) 7 dX4_redSeconds_5 rfl rfl ?_
    refine jr_icmp_gt 33 10 dX4_redSeconds_7 rfl rfl (fun q7 => ?_) (fun z => absurd (nI_lt (a := 40) (b := 40 + 1) (by omega) (by omega)) z)
    refine jr_iload_n 2 34 dX4_redSeconds_33 rfl rfl rfl ?_
    refine jr_ireturn dX4_redSeconds_34 rfl rfl ?_
    exact h
  | succ m ih =>
    intro j acc hj hacc
    refine jr_iload_n 3 5 dX4_redSeconds_4 rfl rfl rfl ?_
    refine jr_bipush (40) 7 dX4_redSeconds_5 rfl rfl ?_
    refine jr_icmp_gt 33 10 dX4_redSeconds_7 rfl rfl (fun z => absurd z (Int32.not_lt.mpr (nI_le (b := 40) (by omega) (by decide)))) (fun q7 => ?_)
    refine jr_iload_n 2 11 dX4_redSeconds_10 rfl rfl rfl ?_
    refine jr_aload_n 0 12 dX4_redSeconds_11 rfl rfl rfl ?_
    refine jr_iload_n 3 13 dX4_redSeconds_12 rfl rfl rfl ?_
    refine jr_iload_n 1 14 dX4_redSeconds_13 rfl rfl rfl ?_
    refine cs_X4_142 17 dX4_redSeconds_14 rfl rfl rfl (Nat.le_of_ble_eq_true rfl) (wp_isRedBehind (t := j + 1) (by omega) hf (fun qr => ?_) (fun qr => ?_))
    · refine jr_if_eq 24 20 dX4_redSeconds_17 rfl rfl (fun q => absurd q (by decide)) (fun q17 => ?_)
      refine jr_iconst (1) 21 dX4_redSeconds_20 rfl rfl ?_
      refine jr_goto 25 dX4_redSeconds_21 rfl ?_
      refine jr_iadd 26 dX4_redSeconds_25 rfl ?_
      refine jr_istore_n 2 (L' := [_, _, _, _]) 27 dX4_redSeconds_26 rfl rfl (by decide) rfl ?_
      refine jr_iinc (v := nI (j + 1 + 1)) (L' := [_, _, _, _]) 30 dX4_redSeconds_27 rfl rfl (nI_1 (j + 1)) (by decide) rfl ?_
      refine jr_goto 4 dX4_redSeconds_30 rfl ?_
      exact ih (j + 1) _ (by omega) (by rw [hacc]; simp only [lp]; first | rw [if_pos (by assumption)] | rw [if_neg (by assumption)] | rfl)
    · refine jr_if_eq 24 20 dX4_redSeconds_17 rfl rfl (fun q17 => ?_) (fun q => absurd (by decide) q)
      refine jr_iconst (0) 25 dX4_redSeconds_24 rfl rfl ?_
      refine jr_iadd 26 dX4_redSeconds_25 rfl ?_
      refine jr_istore_n 2 (L' := [_, _, _, _]) 27 dX4_redSeconds_26 rfl rfl (by decide) rfl ?_
      refine jr_iinc (v := nI (j + 1 + 1)) (L' := [_, _, _, _]) 30 dX4_redSeconds_27 rfl rfl (nI_1 (j + 1)) (by decide) rfl ?_
      refine jr_goto 4 dX4_redSeconds_30 rfl ?_
      exact ih (j + 1) _ (by omega) (by rw [hacc]; simp only [lp]; first | rw [if_pos (by assumption)] | rw [if_neg (by assumption)] | rfl)
theorem wp_redSeconds {G : jr_G} {d : Nat} {σ : jr_Sg} {k : Value → jr_Sg → Prop} {f : Nat} (hf : f < 5) (h : k (.int (lp (fun i a => a + if σ 14 f ≤ σ 12 (5 * (i + 1) + f) then 1 else 0) 0 40)) σ) : jr_M G (d + 2) mi_X4_redSeconds [.ref 9, .int (nI f)] σ (jr_k k) := by
  refine jr_enter (L := [some (.ref 9), some (.int (nI f)), none, none]) (by decide) (Nat.le_of_ble_eq_true rfl) rfl ?_
  refine jr_iconst (nI 0) 1 dX4_redSeconds_0 rfl rfl ?_
  refine jr_istore_n 2 (L' := [_, _, _, _]) 2 dX4_redSeconds_1 rfl rfl (by decide) rfl ?_
  refine jr_iconst (nI 1) 3 dX4_redSeconds_2 rfl rfl ?_
  refine jr_istore_n 3 (L' := [_, _, _, _]) 4 dX4_redSeconds_3 rfl rfl (by decide) rfl ?_
  exact wp_redSeconds_loop hf h _ 0 _ (Nat.zero_add _) rfl
theorem wp_felt_loop {G : jr_G} {d : Nat} {σ : jr_Sg} {k : Value → jr_Sg → Prop} {f : Nat} (hf : f < 5) (h : k (.int (lp (fun i a => a + σ 12 (5 * (i + 1) + f)) 0 40)) σ) : ∀ (m j : Nat) (acc : Int32), j + m = 40 → acc = lp (fun i a => a + σ 12 (5 * (i + 1) + f)) (0) j → jr_R G (d + 2) mi_X4_felt (jr_k k) 4 [some (.ref 9), some (.int (nI f)), some (.int acc), some (.int (nI (j + 1)))] [] σ := by
  intro m
  induction m with
  | zero =>
    intro j acc hj hacc
    have ej : j = 40 := hj
    subst ej
    subst hacc
    refine jr_iload_n 3 5 dX4_felt_4 rfl rfl rfl ?_
    refine jr_bipush (40) 7 dX4_felt_5 rfl rfl ?_
    refine jr_icmp_gt 25 10 dX4_felt_7 rfl rfl (fun q7 => ?_) (fun z => absurd (nI_lt (a := 40) (b := 40 + 1) (by omega) (by omega)) z)
    refine jr_iload_n 2 26 dX4_felt_25 rfl rfl rfl ?_
    refine jr_ireturn dX4_felt_26 rfl rfl ?_
    exact h
  | succ m ih =>
    intro j acc hj hacc
    refine jr_iload_n 3 5 dX4_felt_4 rfl rfl rfl ?_
    refine jr_bipush (40) 7 dX4_felt_5 rfl rfl ?_
    refine jr_icmp_gt 25 10 dX4_felt_7 rfl rfl (fun z => absurd z (Int32.not_lt.mpr (nI_le (b := 40) (by omega) (by decide)))) (fun q7 => ?_)
    refine jr_iload_n 2 11 dX4_felt_10 rfl rfl rfl ?_
    refine jr_aload_n 0 12 dX4_felt_11 rfl rfl rfl ?_
    refine jr_iload_n 3 13 dX4_felt_12 rfl rfl rfl ?_
    refine jr_iload_n 1 14 dX4_felt_13 rfl rfl rfl ?_
    refine cs_X4_139 17 dX4_felt_14 rfl rfl rfl (Nat.le_of_ble_eq_true rfl) (wp_warmthBehind (t := j + 1) (by omega) hf ?_)
    refine jr_iadd 18 dX4_felt_17 rfl ?_
    refine jr_istore_n 2 (L' := [_, _, _, _]) 19 dX4_felt_18 rfl rfl (by decide) rfl ?_
    refine jr_iinc (v := nI (j + 1 + 1)) (L' := [_, _, _, _]) 22 dX4_felt_19 rfl rfl (nI_1 (j + 1)) (by decide) rfl ?_
    refine jr_goto 4 dX4_felt_22 rfl ?_
    exact ih (j + 1) _ (by omega) (by rw [hacc]; rfl)
theorem wp_felt {G : jr_G} {d : Nat} {σ : jr_Sg} {k : Value → jr_Sg → Prop} {f : Nat} (hf : f < 5) (h : k (.int (lp (fun i a => a + σ 12 (5 * (i + 1) + f)) 0 40)) σ) : jr_M G (d + 2) mi_X4_felt [.ref 9, .int (nI f)] σ (jr_k k) := by
  refine jr_enter (L := [some (.ref 9), some (.int (nI f)), none, none]) (by decide) (Nat.le_of_ble_eq_true rfl) rfl ?_
  refine jr_iconst (nI 0) 1 dX4_felt_0 rfl rfl ?_
  refine jr_istore_n 2 (L' := [_, _, _, _]) 2 dX4_felt_1 rfl rfl (by decide) rfl ?_
  refine jr_iconst (nI 1) 3 dX4_felt_2 rfl rfl ?_
  refine jr_istore_n 3 (L' := [_, _, _, _]) 4 dX4_felt_3 rfl rfl (by decide) rfl ?_
  exact wp_felt_loop hf h _ 0 _ (Nat.zero_add _) rfl
theorem wp_redSecondsOfAll_loop {G : jr_G} {d : Nat} {σ : jr_Sg} {k : Value → jr_Sg → Prop} {nf : Nat}  (h96 : σ 9 6 = nI nf) (h5 : nf ≤ 5)  (h : k (.int (lp (fun f a => a + lp (fun i a => a + if σ 14 f ≤ σ 12 (5 * (i + 1) + f) then 1 else 0) 0 40) 0 nf)) σ) : ∀ (m j : Nat) (acc : Int32), j + m = nf → acc = lp (fun f a => a + lp (fun i a => a + if σ 14 f ≤ σ 12 (5 * (i + 1) + f) then 1 else 0) 0 40) (0) j → jr_R G (d + 3) mi_X4_redSecondsOfAll (jr_k k) 4 [some (.ref 9), some (.int acc), some (.int (nI j))] [] σ := by
  intro m
  induction m with
  | zero =>
    intro j acc hj hacc
    have ej : j = nf := hj
    subst ej
    subst hacc
    refine jr_iload_n 2 5 dX4_redSecondsOfAll_4 rfl rfl rfl ?_
    refine jr_aload_n 0 6 dX4_redSecondsOfAll_5 rfl rfl rfl ?_
    refine gf_X4_28 9 dX4_redSecondsOfAll_6 rfl rfl rfl rfl ?_
    rw [h96]
    refine jr_icmp_ge 26 12 dX4_redSecondsOfAll_9 rfl rfl (fun q9 => ?_) (fun z => absurd (Int32.le_refl _) z)
    refine jr_iload_n 1 27 dX4_redSecondsOfAll_26 rfl rfl rfl ?_
    refine jr_ireturn dX4_redSecondsOfAll_27 rfl rfl ?_
    exact h
  | succ m ih =>
    intro j acc hj hacc
    refine jr_iload_n 2 5 dX4_redSecondsOfAll_4 rfl rfl rfl ?_
    refine jr_aload_n 0 6 dX4_redSecondsOfAll_5 rfl rfl rfl ?_
    refine gf_X4_28 9 dX4_redSecondsOfAll_6 rfl rfl rfl rfl ?_
    rw [h96]
    refine jr_icmp_ge 26 12 dX4_redSecondsOfAll_9 rfl rfl (fun z => absurd z (nI_ge (by omega) (by omega))) (fun q9 => ?_)
    refine jr_iload_n 1 13 dX4_redSecondsOfAll_12 rfl rfl rfl ?_
    refine jr_aload_n 0 14 dX4_redSecondsOfAll_13 rfl rfl rfl ?_
    refine jr_iload_n 2 15 dX4_redSecondsOfAll_14 rfl rfl rfl ?_
    refine cs_X4_145 18 dX4_redSecondsOfAll_15 rfl rfl rfl (Nat.le_of_ble_eq_true rfl) (wp_redSeconds (f := j) (by omega) ?_)
    refine jr_iadd 19 dX4_redSecondsOfAll_18 rfl ?_
    refine jr_istore_n 1 (L' := [_, _, _]) 20 dX4_redSecondsOfAll_19 rfl rfl (by decide) rfl ?_
    refine jr_iinc (v := nI (j + 1)) (L' := [_, _, _]) 23 dX4_redSecondsOfAll_20 rfl rfl (nI_1 j) (by decide) rfl ?_
    refine jr_goto 4 dX4_redSecondsOfAll_23 rfl ?_
    exact ih (j + 1) _ (by omega) (by rw [hacc]; rfl)
theorem wp_redSecondsOfAll {G : jr_G} {d : Nat} {σ : jr_Sg} {k : Value → jr_Sg → Prop} {nf : Nat}  (h96 : σ 9 6 = nI nf) (h5 : nf ≤ 5)  (h : k (.int (lp (fun f a => a + lp (fun i a => a + if σ 14 f ≤ σ 12 (5 * (i + 1) + f) then 1 else 0) 0 40) 0 nf)) σ) : jr_M G (d + 3) mi_X4_redSecondsOfAll [.ref 9] σ (jr_k k) := by
  refine jr_enter (L := [some (.ref 9), none, none]) (by decide) (Nat.le_of_ble_eq_true rfl) rfl ?_
  refine jr_iconst (nI 0) 1 dX4_redSecondsOfAll_0 rfl rfl ?_
  refine jr_istore_n 1 (L' := [_, _, _]) 2 dX4_redSecondsOfAll_1 rfl rfl (by decide) rfl ?_
  refine jr_iconst (nI 0) 3 dX4_redSecondsOfAll_2 rfl rfl ?_
  refine jr_istore_n 2 (L' := [_, _, _]) 4 dX4_redSecondsOfAll_3 rfl rfl (by decide) rfl ?_
  exact wp_redSecondsOfAll_loop h96 h5 h _ 0 _ (Nat.zero_add _) rfl
theorem wp_feltByOthers_loop {G : jr_G} {d : Nat} {σ : jr_Sg} {k : Value → jr_Sg → Prop} {nf : Nat} {x : Nat} (h96 : σ 9 6 = nI nf) (h5 : nf ≤ 5) (hx : x < 5) (h : k (.int (lp (fun f a => a + if f = x then 0 else lp (fun i a => a + σ 12 (5 * (i + 1) + f)) 0 40) 0 nf)) σ) : ∀ (m j : Nat) (acc : Int32), j + m = nf → acc = lp (fun f a => a + if f = x then 0 else lp (fun i a => a + σ 12 (5 * (i + 1) + f)) 0 40) (0) j → jr_R G (d + 3) mi_X4_feltByOthers (jr_k k) 4 [some (.ref 9), some (.int (nI x)), some (.int acc), some (.int (nI j))] [] σ := by
  intro m
  induction m with
  | zero =>
    intro j acc hj hacc
    have ej : j = nf := hj
    subst ej
    subst hacc
    refine jr_iload_n 3 5 dX4_feltByOthers_4 rfl rfl rfl ?_
    refine jr_aload_n 0 6 dX4_feltByOthers_5 rfl rfl rfl ?_
    refine gf_X4_28 9 dX4_feltByOthers_6 rfl rfl rfl rfl ?_
    rw [h96]
    refine jr_icmp_ge 35 12 dX4_feltByOthers_9 rfl rfl (fun q9 => ?_) (fun z => absurd (Int32.le_refl _) z)
    refine jr_iload_n 2 36 dX4_feltByOthers_35 rfl rfl rfl ?_
    refine jr_ireturn dX4_feltByOthers_36 rfl rfl ?_
    exact h
  | succ m ih =>
    intro j acc hj hacc
    refine jr_iload_n 3 5 dX4_feltByOthers_4 rfl rfl rfl ?_
    refine jr_aload_n 0 6 dX4_feltByOthers_5 rfl rfl rfl ?_
    refine gf_X4_28 9 dX4_feltByOthers_6 rfl rfl rfl rfl ?_
    rw [h96]
    refine jr_icmp_ge 35 12 dX4_feltByOthers_9 rfl rfl (fun z => absurd z (nI_ge (by omega) (by omega))) (fun q9 => ?_)
    refine jr_iload_n 2 13 dX4_feltByOthers_12 rfl rfl rfl ?_
    refine jr_iload_n 3 14 dX4_feltByOthers_13 rfl rfl rfl ?_
    refine jr_iload_n 1 15 dX4_feltByOthers_14 rfl rfl rfl ?_
    refine jr_icmp_ne 22 18 dX4_feltByOthers_15 rfl rfl (fun q15 => ?_) (fun q15 => ?_)
    · refine jr_aload_n 0 23 dX4_feltByOthers_22 rfl rfl rfl ?_
      refine jr_iload_n 3 24 dX4_feltByOthers_23 rfl rfl rfl ?_
      refine cs_X4_148 27 dX4_feltByOthers_24 rfl rfl rfl (Nat.le_of_ble_eq_true rfl) (wp_felt (f := j) (by omega) ?_)
      refine jr_iadd 28 dX4_feltByOthers_27 rfl ?_
      refine jr_istore_n 2 (L' := [_, _, _, _]) 29 dX4_feltByOthers_28 rfl rfl (by decide) rfl ?_
      refine jr_iinc (v := nI (j + 1)) (L' := [_, _, _, _]) 32 dX4_feltByOthers_29 rfl rfl (nI_1 j) (by decide) rfl ?_
      refine jr_goto 4 dX4_feltByOthers_32 rfl ?_
      exact ih (j + 1) _ (by omega) (by rw [hacc]; simp only [lp]; first | rw [if_pos (nI_inj (by omega) (by omega) (by assumption))] | rw [if_neg (by intro e; subst e; exact absurd rfl q15)])
    · refine jr_iconst (0) 19 dX4_feltByOthers_18 rfl rfl ?_
      refine jr_goto 27 dX4_feltByOthers_19 rfl ?_
      refine jr_iadd 28 dX4_feltByOthers_27 rfl ?_
      refine jr_istore_n 2 (L' := [_, _, _, _]) 29 dX4_feltByOthers_28 rfl rfl (by decide) rfl ?_
      refine jr_iinc (v := nI (j + 1)) (L' := [_, _, _, _]) 32 dX4_feltByOthers_29 rfl rfl (nI_1 j) (by decide) rfl ?_
      refine jr_goto 4 dX4_feltByOthers_32 rfl ?_
      exact ih (j + 1) _ (by omega) (by rw [hacc]; simp only [lp]; first | rw [if_pos (nI_inj (by omega) (by omega) (by assumption))] | rw [if_neg (by intro e; subst e; exact absurd rfl q15)])
theorem wp_feltByOthers {G : jr_G} {d : Nat} {σ : jr_Sg} {k : Value → jr_Sg → Prop} {nf : Nat} {x : Nat} (h96 : σ 9 6 = nI nf) (h5 : nf ≤ 5) (hx : x < 5) (h : k (.int (lp (fun f a => a + if f = x then 0 else lp (fun i a => a + σ 12 (5 * (i + 1) + f)) 0 40) 0 nf)) σ) : jr_M G (d + 3) mi_X4_feltByOthers [.ref 9, .int (nI x)] σ (jr_k k) := by
  refine jr_enter (L := [some (.ref 9), some (.int (nI x)), none, none]) (by decide) (Nat.le_of_ble_eq_true rfl) rfl ?_
  refine jr_iconst (nI 0) 1 dX4_feltByOthers_0 rfl rfl ?_
  refine jr_istore_n 2 (L' := [_, _, _, _]) 2 dX4_feltByOthers_1 rfl rfl (by decide) rfl ?_
  refine jr_iconst (nI 0) 3 dX4_feltByOthers_2 rfl rfl ?_
  refine jr_istore_n 3 (L' := [_, _, _, _]) 4 dX4_feltByOthers_3 rfl rfl (by decide) rfl ?_
  exact wp_feltByOthers_loop h96 h5 hx h _ 0 _ (Nat.zero_add _) rfl
theorem wp_redBits_loop {G : jr_G} {d : Nat} {σ : jr_Sg} {k : Value → jr_Sg → Prop} {nf : Nat} {t : Nat} (h96 : σ 9 6 = nI nf) (h5 : nf ≤ 5) (ht : t ≤ 40) (h : k (.int (lp (fun f a => a ||| if σ 14 f ≤ σ 12 (5 * t + f) then (1 : Int32) <<< (nI f &&& 31) else 0) 0 nf)) σ) : ∀ (m j : Nat) (acc : Int32), j + m = nf → acc = lp (fun f a => a ||| if σ 14 f ≤ σ 12 (5 * t + f) then (1 : Int32) <<< (nI f &&& 31) else 0) (0) j → jr_R G (d + 3) mi_X4_redBits (jr_k k) 4 [some (.ref 9), some (.int (nI t)), some (.int acc), some (.int (nI j))] [] σ := by
  intro m
  induction m with
  | zero =>
    intro j acc hj hacc
    have ej : j = nf := hj
    subst ej
    subst hacc
    refine jr_iload_n 3 5 dX4_redBits_4 rfl rfl rfl ?_
    refine jr_aload_n 0 6 dX4_redBits_5 rfl rfl rfl ?_
    refine gf_X4_28 9 dX4_redBits_6 rfl rfl rfl rfl ?_
    rw [h96]
    refine jr_icmp_ge 37 12 dX4_redBits_9 rfl rfl (fun q9 => ?_) (fun z => absurd (Int32.le_refl _) z)
    refine jr_iload_n 2 38 dX4_redBits_37 rfl rfl rfl ?_
    refine jr_ireturn dX4_redBits_38 rfl rfl ?_
    exact h
  | succ m ih =>
    intro j acc hj hacc
    refine jr_iload_n 3 5 dX4_redBits_4 rfl rfl rfl ?_
    refine jr_aload_n 0 6 dX4_redBits_5 rfl rfl rfl ?_
    refine gf_X4_28 9 dX4_redBits_6 rfl rfl rfl rfl ?_
    rw [h96]
    refine jr_icmp_ge 37 12 dX4_redBits_9 rfl rfl (fun z => absurd z (nI_ge (by omega) (by omega))) (fun q9 => ?_)
    refine jr_iload_n 2 13 dX4_redBits_12 rfl rfl rfl ?_
    refine jr_aload_n 0 14 dX4_redBits_13 rfl rfl rfl ?_
    refine jr_iload_n 1 15 dX4_redBits_14 rfl rfl rfl ?_
    refine jr_iload_n 3 16 dX4_redBits_15 rfl rfl rfl ?_
    refine cs_X4_142 19 dX4_redBits_16 rfl rfl rfl (Nat.le_of_ble_eq_true rfl) (wp_isRedBehind (t := t) (f := j) ht (by omega) (fun qr => ?_) (fun qr => ?_))
    · refine jr_if_eq 28 22 dX4_redBits_19 rfl rfl (fun q => absurd q (by decide)) (fun q19 => ?_)
      refine jr_iconst (1) 23 dX4_redBits_22 rfl rfl ?_
      refine jr_iload_n 3 24 dX4_redBits_23 rfl rfl rfl ?_
      refine jr_ishl 25 dX4_redBits_24 rfl ?_
      refine jr_goto 29 dX4_redBits_25 rfl ?_
      refine jr_ior 30 dX4_redBits_29 rfl ?_
      refine jr_istore_n 2 (L' := [_, _, _, _]) 31 dX4_redBits_30 rfl rfl (by decide) rfl ?_
      refine jr_iinc (v := nI (j + 1)) (L' := [_, _, _, _]) 34 dX4_redBits_31 rfl rfl (nI_1 j) (by decide) rfl ?_
      refine jr_goto 4 dX4_redBits_34 rfl ?_
      exact ih (j + 1) _ (by omega) (by rw [hacc]; simp only [lp]; first | rw [if_pos (by assumption)] | rw [if_neg (by assumption)] | rfl)
    · refine jr_if_eq 28 22 dX4_redBits_19 rfl rfl (fun q19 => ?_) (fun q => absurd (by decide) q)
      refine jr_iconst (0) 29 dX4_redBits_28 rfl rfl ?_
      refine jr_ior 30 dX4_redBits_29 rfl ?_
      refine jr_istore_n 2 (L' := [_, _, _, _]) 31 dX4_redBits_30 rfl rfl (by decide) rfl ?_
      refine jr_iinc (v := nI (j + 1)) (L' := [_, _, _, _]) 34 dX4_redBits_31 rfl rfl (nI_1 j) (by decide) rfl ?_
      refine jr_goto 4 dX4_redBits_34 rfl ?_
      exact ih (j + 1) _ (by omega) (by rw [hacc]; simp only [lp]; first | rw [if_pos (by assumption)] | rw [if_neg (by assumption)] | rfl)
theorem wp_redBits {G : jr_G} {d : Nat} {σ : jr_Sg} {k : Value → jr_Sg → Prop} {nf : Nat} {t : Nat} (h96 : σ 9 6 = nI nf) (h5 : nf ≤ 5) (ht : t ≤ 40) (h : k (.int (lp (fun f a => a ||| if σ 14 f ≤ σ 12 (5 * t + f) then (1 : Int32) <<< (nI f &&& 31) else 0) 0 nf)) σ) : jr_M G (d + 3) mi_X4_redBits [.ref 9, .int (nI t)] σ (jr_k k) := by
  refine jr_enter (L := [some (.ref 9), some (.int (nI t)), none, none]) (by decide) (Nat.le_of_ble_eq_true rfl) rfl ?_
  refine jr_iconst (nI 0) 1 dX4_redBits_0 rfl rfl ?_
  refine jr_istore_n 2 (L' := [_, _, _, _]) 2 dX4_redBits_1 rfl rfl (by decide) rfl ?_
  refine jr_iconst (nI 0) 3 dX4_redBits_2 rfl rfl ?_
  refine jr_istore_n 3 (L' := [_, _, _, _]) 4 dX4_redBits_3 rfl rfl (by decide) rfl ?_
  exact wp_redBits_loop h96 h5 ht h _ 0 _ (Nat.zero_add _) rfl
theorem wp_warmthOfAll_loop {G : jr_G} {d : Nat} {σ : jr_Sg} {k : Value → jr_Sg → Prop} {nf : Nat} {t : Nat} (h96 : σ 9 6 = nI nf) (h5 : nf ≤ 5) (ht : t ≤ 40) (h : k (.int (lp (fun f a => a + σ 12 (5 * t + f)) 0 nf)) σ) : ∀ (m j : Nat) (acc : Int32), j + m = nf → acc = lp (fun f a => a + σ 12 (5 * t + f)) (0) j → jr_R G (d + 3) mi_X4_warmthOfAll (jr_k k) 4 [some (.ref 9), some (.int (nI t)), some (.int acc), some (.int (nI j))] [] σ := by
  intro m
  induction m with
  | zero =>
    intro j acc hj hacc
    have ej : j = nf := hj
    subst ej
    subst hacc
    refine jr_iload_n 3 5 dX4_warmthOfAll_4 rfl rfl rfl ?_
    refine jr_aload_n 0 6 dX4_warmthOfAll_5 rfl rfl rfl ?_
    refine gf_X4_28 9 dX4_warmthOfAll_6 rfl rfl rfl rfl ?_
    rw [h96]
    refine jr_icmp_ge 27 12 dX4_warmthOfAll_9 rfl rfl (fun q9 => ?_) (fun z => absurd (Int32.le_refl _) z)
    refine jr_iload_n 2 28 dX4_warmthOfAll_27 rfl rfl rfl ?_
    refine jr_ireturn dX4_warmthOfAll_28 rfl rfl ?_
    exact h
  | succ m ih =>
    intro j acc hj hacc
    refine jr_iload_n 3 5 dX4_warmthOfAll_4 rfl rfl rfl ?_
    refine jr_aload_n 0 6 dX4_warmthOfAll_5 rfl rfl rfl ?_
    refine gf_X4_28 9 dX4_warmthOfAll_6 rfl rfl rfl rfl ?_
    rw [h96]
    refine jr_icmp_ge 27 12 dX4_warmthOfAll_9 rfl rfl (fun z => absurd z (nI_ge (by omega) (by omega))) (fun q9 => ?_)
    refine jr_iload_n 2 13 dX4_warmthOfAll_12 rfl rfl rfl ?_
    refine jr_aload_n 0 14 dX4_warmthOfAll_13 rfl rfl rfl ?_
    refine jr_iload_n 1 15 dX4_warmthOfAll_14 rfl rfl rfl ?_
    refine jr_iload_n 3 16 dX4_warmthOfAll_15 rfl rfl rfl ?_
    refine cs_X4_139 19 dX4_warmthOfAll_16 rfl rfl rfl (Nat.le_of_ble_eq_true rfl) (wp_warmthBehind (t := t) (f := j) ht (by omega) ?_)
    refine jr_iadd 20 dX4_warmthOfAll_19 rfl ?_
    refine jr_istore_n 2 (L' := [_, _, _, _]) 21 dX4_warmthOfAll_20 rfl rfl (by decide) rfl ?_
    refine jr_iinc (v := nI (j + 1)) (L' := [_, _, _, _]) 24 dX4_warmthOfAll_21 rfl rfl (nI_1 j) (by decide) rfl ?_
    refine jr_goto 4 dX4_warmthOfAll_24 rfl ?_
    exact ih (j + 1) _ (by omega) (by rw [hacc]; rfl)
theorem wp_warmthOfAll {G : jr_G} {d : Nat} {σ : jr_Sg} {k : Value → jr_Sg → Prop} {nf : Nat} {t : Nat} (h96 : σ 9 6 = nI nf) (h5 : nf ≤ 5) (ht : t ≤ 40) (h : k (.int (lp (fun f a => a + σ 12 (5 * t + f)) 0 nf)) σ) : jr_M G (d + 3) mi_X4_warmthOfAll [.ref 9, .int (nI t)] σ (jr_k k) := by
  refine jr_enter (L := [some (.ref 9), some (.int (nI t)), none, none]) (by decide) (Nat.le_of_ble_eq_true rfl) rfl ?_
  refine jr_iconst (nI 0) 1 dX4_warmthOfAll_0 rfl rfl ?_
  refine jr_istore_n 2 (L' := [_, _, _, _]) 2 dX4_warmthOfAll_1 rfl rfl (by decide) rfl ?_
  refine jr_iconst (nI 0) 3 dX4_warmthOfAll_2 rfl rfl ?_
  refine jr_istore_n 3 (L' := [_, _, _, _]) 4 dX4_warmthOfAll_3 rfl rfl (by decide) rfl ?_
  exact wp_warmthOfAll_loop h96 h5 ht h _ 0 _ (Nat.zero_add _) rfl
theorem wp_hottestBits_loop {G : jr_G} {d : Nat} {σ : jr_Sg} {k : Value → jr_Sg → Prop} {nf : Nat} {t : Nat} (h96 : σ 9 6 = nI nf) (h5 : nf ≤ 5) (ht : t ≤ 40) (h : k (.int (lp (fun f a => a ||| if σ 12 (5 * t + f) < 400 then 0 else (1 : Int32) <<< (nI f &&& 31)) 0 nf)) σ) : ∀ (m j : Nat) (acc : Int32), j + m = nf → acc = lp (fun f a => a ||| if σ 12 (5 * t + f) < 400 then 0 else (1 : Int32) <<< (nI f &&& 31)) (0) j → jr_R G (d + 3) mi_X4_hottestBits (jr_k k) 4 [some (.ref 9), some (.int (nI t)), some (.int acc), some (.int (nI j))] [] σ := by
  intro m
  induction m with
  | zero =>
    intro j acc hj hacc
    have ej : j = nf := hj
    subst ej
    subst hacc
    refine jr_iload_n 3 5 dX4_hottestBits_4 rfl rfl rfl ?_
    refine jr_aload_n 0 6 dX4_hottestBits_5 rfl rfl rfl ?_
    refine gf_X4_28 9 dX4_hottestBits_6 rfl rfl rfl rfl ?_
    rw [h96]
    refine jr_icmp_ge 40 12 dX4_hottestBits_9 rfl rfl (fun q9 => ?_) (fun z => absurd (Int32.le_refl _) z)
    refine jr_iload_n 2 41 dX4_hottestBits_40 rfl rfl rfl ?_
    refine jr_ireturn dX4_hottestBits_41 rfl rfl ?_
    exact h
  | succ m ih =>
    intro j acc hj hacc
    refine jr_iload_n 3 5 dX4_hottestBits_4 rfl rfl rfl ?_
    refine jr_aload_n 0 6 dX4_hottestBits_5 rfl rfl rfl ?_
    refine gf_X4_28 9 dX4_hottestBits_6 rfl rfl rfl rfl ?_
    rw [h96]
    refine jr_icmp_ge 40 12 dX4_hottestBits_9 rfl rfl (fun z => absurd z (nI_ge (by omega) (by omega))) (fun q9 => ?_)
    refine jr_iload_n 2 13 dX4_hottestBits_12 rfl rfl rfl ?_
    refine jr_aload_n 0 14 dX4_hottestBits_13 rfl rfl rfl ?_
    refine jr_iload_n 1 15 dX4_hottestBits_14 rfl rfl rfl ?_
    refine jr_iload_n 3 16 dX4_hottestBits_15 rfl rfl rfl ?_
    refine cs_X4_139 19 dX4_hottestBits_16 rfl rfl rfl (Nat.le_of_ble_eq_true rfl) (wp_warmthBehind (t := t) (f := j) ht (by omega) ?_)
    refine jr_sipush (400) 22 dX4_hottestBits_19 rfl rfl ?_
    refine jr_icmp_lt 31 25 dX4_hottestBits_22 rfl rfl (fun q22 => ?_) (fun q22 => ?_)
    · refine jr_iconst (0) 32 dX4_hottestBits_31 rfl rfl ?_
      refine jr_ior 33 dX4_hottestBits_32 rfl ?_
      refine jr_istore_n 2 (L' := [_, _, _, _]) 34 dX4_hottestBits_33 rfl rfl (by decide) rfl ?_
      refine jr_iinc (v := nI (j + 1)) (L' := [_, _, _, _]) 37 dX4_hottestBits_34 rfl rfl (nI_1 j) (by decide) rfl ?_
      refine jr_goto 4 dX4_hottestBits_37 rfl ?_
      exact ih (j + 1) _ (by omega) (by rw [hacc]; simp only [lp]; first | rw [if_pos (by assumption)] | rw [if_neg (by assumption)] | rfl)
    · refine jr_iconst (1) 26 dX4_hottestBits_25 rfl rfl ?_
      refine jr_iload_n 3 27 dX4_hottestBits_26 rfl rfl rfl ?_
      refine jr_ishl 28 dX4_hottestBits_27 rfl ?_
      refine jr_goto 32 dX4_hottestBits_28 rfl ?_
      refine jr_ior 33 dX4_hottestBits_32 rfl ?_
      refine jr_istore_n 2 (L' := [_, _, _, _]) 34 dX4_hottestBits_33 rfl rfl (by decide) rfl ?_
      refine jr_iinc (v := nI (j + 1)) (L' := [_, _, _, _]) 37 dX4_hottestBits_34 rfl rfl (nI_1 j) (by decide) rfl ?_
      refine jr_goto 4 dX4_hottestBits_37 rfl ?_
      exact ih (j + 1) _ (by omega) (by rw [hacc]; simp only [lp]; first | rw [if_pos (by assumption)] | rw [if_neg (by assumption)] | rfl)
theorem wp_hottestBits {G : jr_G} {d : Nat} {σ : jr_Sg} {k : Value → jr_Sg → Prop} {nf : Nat} {t : Nat} (h96 : σ 9 6 = nI nf) (h5 : nf ≤ 5) (ht : t ≤ 40) (h : k (.int (lp (fun f a => a ||| if σ 12 (5 * t + f) < 400 then 0 else (1 : Int32) <<< (nI f &&& 31)) 0 nf)) σ) : jr_M G (d + 3) mi_X4_hottestBits [.ref 9, .int (nI t)] σ (jr_k k) := by
  refine jr_enter (L := [some (.ref 9), some (.int (nI t)), none, none]) (by decide) (Nat.le_of_ble_eq_true rfl) rfl ?_
  refine jr_iconst (nI 0) 1 dX4_hottestBits_0 rfl rfl ?_
  refine jr_istore_n 2 (L' := [_, _, _, _]) 2 dX4_hottestBits_1 rfl rfl (by decide) rfl ?_
  refine jr_iconst (nI 0) 3 dX4_hottestBits_2 rfl rfl ?_
  refine jr_istore_n 3 (L' := [_, _, _, _]) 4 dX4_hottestBits_3 rfl rfl (by decide) rfl ?_
  exact wp_hottestBits_loop h96 h5 ht h _ 0 _ (Nat.zero_add _) rfl
theorem wp_everRedBits_loop {G : jr_G} {d : Nat} {σ : jr_Sg} {k : Value → jr_Sg → Prop} {nf : Nat} (h96 : σ 9 6 = nI nf) (h5 : nf ≤ 5) (h : k (.int (lp (fun i a => a ||| lp (fun f a => a ||| if σ 14 f ≤ σ 12 (5 * (i + 1) + f) then (1 : Int32) <<< (nI f &&& 31) else 0) 0 nf) 0 40)) σ) : ∀ (m j : Nat) (acc : Int32), j + m = 40 → acc = lp (fun i a => a ||| lp (fun f a => a ||| if σ 14 f ≤ σ 12 (5 * (i + 1) + f) then (1 : Int32) <<< (nI f &&& 31) else 0) 0 nf) (0) j → jr_R G (d + 4) mi_X4_everRedBits (jr_k k) 4 [some (.ref 9), some (.int acc), some (.int (nI (j + 1)))] [] σ := by
  intro m
  induction m with
  | zero =>
    intro j acc hj hacc
    have ej : j = 40 := hj
    subst ej
    subst hacc
    refine jr_iload_n 2 5 dX4_everRedBits_4 rfl rfl rfl ?_
    refine jr_bipush (40) 7 dX4_everRedBits_5 rfl rfl ?_
    refine jr_icmp_gt 24 10 dX4_everRedBits_7 rfl rfl (fun q7 => ?_) (fun z => absurd (nI_lt (a := 40) (b := 40 + 1) (by omega) (by omega)) z)
    refine jr_iload_n 1 25 dX4_everRedBits_24 rfl rfl rfl ?_
    refine jr_ireturn dX4_everRedBits_25 rfl rfl ?_
    exact h
  | succ m ih =>
    intro j acc hj hacc
    refine jr_iload_n 2 5 dX4_everRedBits_4 rfl rfl rfl ?_
    refine jr_bipush (40) 7 dX4_everRedBits_5 rfl rfl ?_
    refine jr_icmp_gt 24 10 dX4_everRedBits_7 rfl rfl (fun z => absurd z (Int32.not_lt.mpr (nI_le (b := 40) (by omega) (by decide)))) (fun q7 => ?_)
    refine jr_iload_n 1 11 dX4_everRedBits_10 rfl rfl rfl ?_
    refine jr_aload_n 0 12 dX4_everRedBits_11 rfl rfl rfl ?_
    refine jr_iload_n 2 13 dX4_everRedBits_12 rfl rfl rfl ?_
    refine cs_X4_151 16 dX4_everRedBits_13 rfl rfl rfl (Nat.le_of_ble_eq_true rfl) (wp_redBits (t := j + 1) h96 h5 (by omega) ?_)
    refine jr_ior 17 dX4_everRedBits_16 rfl ?_
    refine jr_istore_n 1 (L' := [_, _, _]) 18 dX4_everRedBits_17 rfl rfl (by decide) rfl ?_
    refine jr_iinc (v := nI (j + 1 + 1)) (L' := [_, _, _]) 21 dX4_everRedBits_18 rfl rfl (nI_1 (j + 1)) (by decide) rfl ?_
    refine jr_goto 4 dX4_everRedBits_21 rfl ?_
    exact ih (j + 1) _ (by omega) (by rw [hacc]; rfl)
theorem wp_everRedBits {G : jr_G} {d : Nat} {σ : jr_Sg} {k : Value → jr_Sg → Prop} {nf : Nat} (h96 : σ 9 6 = nI nf) (h5 : nf ≤ 5) (h : k (.int (lp (fun i a => a ||| lp (fun f a => a ||| if σ 14 f ≤ σ 12 (5 * (i + 1) + f) then (1 : Int32) <<< (nI f &&& 31) else 0) 0 nf) 0 40)) σ) : jr_M G (d + 4) mi_X4_everRedBits [.ref 9] σ (jr_k k) := by
  refine jr_enter (L := [some (.ref 9), none, none]) (by decide) (Nat.le_of_ble_eq_true rfl) rfl ?_
  refine jr_iconst (nI 0) 1 dX4_everRedBits_0 rfl rfl ?_
  refine jr_istore_n 1 (L' := [_, _, _]) 2 dX4_everRedBits_1 rfl rfl (by decide) rfl ?_
  refine jr_iconst (nI 1) 3 dX4_everRedBits_2 rfl rfl ?_
  refine jr_istore_n 2 (L' := [_, _, _]) 4 dX4_everRedBits_3 rfl rfl (by decide) rfl ?_
  exact wp_everRedBits_loop h96 h5 h _ 0 _ (Nat.zero_add _) rfl
/-- the first of m places from i on that holds -/
noncomputable def fs (P : Nat → Prop) : Nat → Nat → Option Nat
  | _, 0 => none
  | i, m + 1 => @ite _ (P i) (Classical.propDecidable _) (some i) (fs P (i + 1) m)
theorem fs_t {P : Nat → Prop} {i m : Nat} (h : P i) : fs P i (m + 1) = some i := by unfold fs; rw [if_pos h]
theorem fs_f {P : Nat → Prop} {i m : Nat} (h : ¬ P i) : fs P i (m + 1) = fs P (i + 1) m := by rw [fs]; rw [if_neg h]
/-- the last below m -/
noncomputable def ls (P : Nat → Prop) : Nat → Option Nat
  | 0 => none
  | m + 1 => @ite _ (P m) (Classical.propDecidable _) (some m) (ls P m)
theorem ls_t {P : Nat → Prop} {m : Nat} (h : P m) : ls P (m + 1) = some m := by unfold ls; rw [if_pos h]
theorem ls_f {P : Nat → Prop} {m : Nat} (h : ¬ P m) : ls P (m + 1) = ls P m := by rw [ls]; rw [if_neg h]
def oI (o : Option Nat) : Int32 := match o with
  | some i => nI i
  | none => -1
theorem wp_firstRed_loop {G : jr_G} {d : Nat} {σ : jr_Sg} {k : Value → jr_Sg → Prop} {f : Nat} (hf : f < 5) : ∀ (m j : Nat), j + m = 40 → k (.int (oI (fs (fun i => σ 14 f ≤ σ 12 (5 * (i + 1) + f)) j m))) σ → jr_R G (d + 2) mi_X4_firstRed (jr_k k) 2 [some (.ref 9), some (.int (nI f)), some (.int (nI (j + 1)))] [] σ := by
  intro m
  induction m with
  | zero =>
    intro j hj h
    have ej : j = 40 := hj
    subst ej
    refine jr_iload_n 2 3 dX4_firstRed_2 rfl rfl rfl ?_
    refine jr_bipush (40) 5 dX4_firstRed_3 rfl rfl ?_
    refine jr_icmp_gt 27 8 dX4_firstRed_5 rfl rfl (fun q5 => ?_) (fun z => absurd (nI_lt (a := 40) (b := 40 + 1) (by omega) (by omega)) z)
    refine jr_iconst ((-1)) 28 dX4_firstRed_27 rfl rfl ?_
    refine jr_ireturn dX4_firstRed_28 rfl rfl ?_
    exact h
  | succ m ih =>
    intro j hj h
    refine jr_iload_n 2 3 dX4_firstRed_2 rfl rfl rfl ?_
    refine jr_bipush (nI 40) 5 dX4_firstRed_3 rfl rfl ?_
    refine jr_icmp_gt 27 8 dX4_firstRed_5 rfl rfl (fun z => absurd z (Int32.not_lt.mpr (nI_le (b := 40) (by omega) (by decide)))) (fun q5 => ?_)
    refine jr_aload_n 0 9 dX4_firstRed_8 rfl rfl rfl ?_
    refine jr_iload_n 2 10 dX4_firstRed_9 rfl rfl rfl ?_
    refine jr_iload_n 1 11 dX4_firstRed_10 rfl rfl rfl ?_
    refine cs_X4_142 14 dX4_firstRed_11 rfl rfl rfl (Nat.le_of_ble_eq_true rfl) (wp_isRedBehind (t := j + 1) (by omega) hf (fun qr => ?_) (fun qr => ?_))
    · refine jr_if_eq 21 17 dX4_firstRed_14 rfl rfl (fun q => absurd q (by decide)) (fun q14 => ?_)
      refine jr_iload_n 2 18 dX4_firstRed_17 rfl rfl rfl ?_
      refine jr_iconst (nI 1) 19 dX4_firstRed_18 rfl rfl ?_
      refine jr_isub 20 dX4_firstRed_19 rfl ?_
      refine jr_ireturn dX4_firstRed_20 rfl rfl ?_
      rw [fs_t qr] at h
      exact jr_eqk (by rw [pk_sub (by omega)]; rfl) h
    · refine jr_if_eq 21 17 dX4_firstRed_14 rfl rfl (fun q14 => ?_) (fun q => absurd (by decide) q)
      refine jr_iinc (v := nI (j + 1 + 1)) (L' := [_, _, _]) 24 dX4_firstRed_21 rfl rfl (nI_1 (j + 1)) (by decide) rfl ?_
      refine jr_goto 2 dX4_firstRed_24 rfl ?_
      rw [fs_f qr] at h
      exact ih (j + 1) (by omega) h
theorem wp_firstRed {G : jr_G} {d : Nat} {σ : jr_Sg} {k : Value → jr_Sg → Prop} {f : Nat} (hf : f < 5) (h : k (.int (oI (fs (fun i => σ 14 f ≤ σ 12 (5 * (i + 1) + f)) 0 40))) σ) : jr_M G (d + 2) mi_X4_firstRed [.ref 9, .int (nI f)] σ (jr_k k) := by
  refine jr_enter (L := [some (.ref 9), some (.int (nI f)), none]) (by decide) (Nat.le_of_ble_eq_true rfl) rfl ?_
  refine jr_iconst (1) 1 dX4_firstRed_0 rfl rfl ?_
  refine jr_istore_n 2 (L' := [_, _, _]) 2 dX4_firstRed_1 rfl rfl (by decide) rfl ?_
  exact wp_firstRed_loop hf 40 0 (by omega) h
theorem wp_lastRed_loop {G : jr_G} {d : Nat} {σ : jr_Sg} {k : Value → jr_Sg → Prop} {f : Nat} (hf : f < 5) : ∀ (m : Nat), m ≤ 40 → k (.int (oI (ls (fun i => σ 14 f ≤ σ 12 (5 * (i + 1) + f)) m))) σ → jr_R G (d + 2) mi_X4_lastRed (jr_k k) 3 [some (.ref 9), some (.int (nI f)), some (.int (nI m))] [] σ := by
  intro m
  induction m with
  | zero =>
    intro hj h
    refine jr_iload_n 2 4 dX4_lastRed_3 rfl rfl rfl ?_
    refine jr_iconst (1) 5 dX4_lastRed_4 rfl rfl ?_
    refine jr_icmp_lt 27 8 dX4_lastRed_5 rfl rfl (fun q5 => ?_) (fun z => absurd (nI_lt (a := 0) (b := 1) (by omega) (by omega)) z)
    refine jr_iconst ((-1)) 28 dX4_lastRed_27 rfl rfl ?_
    refine jr_ireturn dX4_lastRed_28 rfl rfl ?_
    exact h
  | succ j ih =>
    intro hj h
    refine jr_iload_n 2 4 dX4_lastRed_3 rfl rfl rfl ?_
    refine jr_iconst (nI 1) 5 dX4_lastRed_4 rfl rfl ?_
    refine jr_icmp_lt 27 8 dX4_lastRed_5 rfl rfl (fun z => absurd z (nI_nlt (b := 1) (by omega) (by omega))) (fun q5 => ?_)
    refine jr_aload_n 0 9 dX4_lastRed_8 rfl rfl rfl ?_
    refine jr_iload_n 2 10 dX4_lastRed_9 rfl rfl rfl ?_
    refine jr_iload_n 1 11 dX4_lastRed_10 rfl rfl rfl ?_
    refine cs_X4_142 14 dX4_lastRed_11 rfl rfl rfl (Nat.le_of_ble_eq_true rfl) (wp_isRedBehind (t := j + 1) (by omega) hf (fun qr => ?_) (fun qr => ?_))
    · refine jr_if_eq 21 17 dX4_lastRed_14 rfl rfl (fun q => absurd q (by decide)) (fun q14 => ?_)
      refine jr_iload_n 2 18 dX4_lastRed_17 rfl rfl rfl ?_
      refine jr_iconst (nI 1) 19 dX4_lastRed_18 rfl rfl ?_
      refine jr_isub 20 dX4_lastRed_19 rfl ?_
      refine jr_ireturn dX4_lastRed_20 rfl rfl ?_
      rw [ls_t qr] at h
      exact jr_eqk (by rw [pk_sub (by omega)]; rfl) h
    · refine jr_if_eq 21 17 dX4_lastRed_14 rfl rfl (fun q14 => ?_) (fun q => absurd (by decide) q)
      refine jr_iinc (v := nI j) (L' := [_, _, _]) 24 dX4_lastRed_21 rfl rfl (pk_m1 j) (by decide) rfl ?_
      refine jr_goto 3 dX4_lastRed_24 rfl ?_
      rw [ls_f qr] at h
      exact ih (by omega) h
theorem wp_lastRed {G : jr_G} {d : Nat} {σ : jr_Sg} {k : Value → jr_Sg → Prop} {f : Nat} (hf : f < 5) (h : k (.int (oI (ls (fun i => σ 14 f ≤ σ 12 (5 * (i + 1) + f)) 40))) σ) : jr_M G (d + 2) mi_X4_lastRed [.ref 9, .int (nI f)] σ (jr_k k) := by
  refine jr_enter (L := [some (.ref 9), some (.int (nI f)), none]) (by decide) (Nat.le_of_ble_eq_true rfl) rfl ?_
  refine jr_bipush (40) 2 dX4_lastRed_0 rfl rfl ?_
  refine jr_istore_n 2 (L' := [_, _, _]) 3 dX4_lastRed_2 rfl rfl (by decide) rfl ?_
  exact wp_lastRed_loop hf 40 (by omega) h

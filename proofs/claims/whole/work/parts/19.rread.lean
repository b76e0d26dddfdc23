theorem wp_isRedNow {G : jr_G} {d : Nat} {σ : jr_Sg} {k : Value → jr_Sg → Prop} {nf nc : Nat} {kd se : Nat → Nat} {f : Nat} (hsr : sr_ok σ nf nc kd se) (hf : f < nf) (h1 : pu_redf (kd f) (σ 49 f) (σ 47 (se f)) ≤ σ 65 f → k (.int 1) σ) (h0 : ¬ pu_redf (kd f) (σ 49 f) (σ 47 (se f)) ≤ σ 65 f → k (.int 0) σ) : jr_M G (d + 1) mi_X10_isRedNow [.ref 46, .int (nI f)] σ (jr_k k) := by
  refine jr_enter (L := [some (.ref 46), some (.int (nI f))]) (by decide) (Nat.le_of_ble_eq_true rfl) rfl ?_
  refine jr_aload_n 0 1 dX10_isRedNow_0 rfl rfl rfl ?_
  refine gf_X10_64 4 dX10_isRedNow_1 rfl rfl rfl rfl ?_
  refine jr_iload_n 1 5 dX10_isRedNow_4 rfl rfl rfl ?_
  refine jr_iald rfl rfl (by have := hsr.2.1; omega) 6 dX10_isRedNow_5 rfl ?_
  refine jr_aload_n 0 7 dX10_isRedNow_6 rfl rfl rfl ?_
  refine jr_iload_n 1 8 dX10_isRedNow_7 rfl rfl rfl ?_
  refine cs_X10_210 11 dX10_isRedNow_8 rfl rfl rfl (Nat.le_of_ble_eq_true rfl) (wp_redFrom (f := f) (by have := hsr.2.1; omega) (hsr.2.2.2.2 _ hf).2.2.1 (hsr.2.2.2.2 _ hf).1 (hsr.2.2.2.2 _ hf).2.2.2.1 (hsr.2.2.2.2 _ hf).2.1 ?_)
  refine jr_icmp_lt 18 14 dX10_isRedNow_11 rfl rfl (fun q11 => ?_) (fun q11 => ?_)
  · refine jr_iconst (0) 19 dX10_isRedNow_18 rfl rfl ?_
    refine jr_ireturn dX10_isRedNow_19 rfl rfl ?_
    exact h0 (Int32.not_le.mpr q11)
  · refine jr_iconst (1) 15 dX10_isRedNow_14 rfl rfl ?_
    refine jr_goto 19 dX10_isRedNow_15 rfl ?_
    refine jr_ireturn dX10_isRedNow_19 rfl rfl ?_
    exact h1 (Int32.not_lt.mp q11)
theorem wp_wasRed {G : jr_G} {d : Nat} {σ : jr_Sg} {k : Value → jr_Sg → Prop} {nf nc : Nat} {kd se : Nat → Nat} {f t : Nat} (hsr : sr_ok σ nf nc kd se) (hf : f < nf) (ht : t < 40) (h1 : pu_redf (kd f) (σ 49 f) (σ 47 (se f)) ≤ σ 69 (5 * t + f) → k (.int 1) σ) (h0 : ¬ pu_redf (kd f) (σ 49 f) (σ 47 (se f)) ≤ σ 69 (5 * t + f) → k (.int 0) σ) : jr_M G (d + 1) mi_X10_wasRed [.ref 46, .int (nI f), .int (nI t)] σ (jr_k k) := by
  refine jr_enter (L := [some (.ref 46), some (.int (nI f)), some (.int (nI t))]) (by decide) (Nat.le_of_ble_eq_true rfl) rfl ?_
  refine jr_aload_n 0 1 dX10_wasRed_0 rfl rfl rfl ?_
  refine gf_X10_76 4 dX10_wasRed_1 rfl rfl rfl rfl ?_
  refine jr_iconst (nI 5) 5 dX10_wasRed_4 rfl rfl ?_
  refine jr_iload_n 2 6 dX10_wasRed_5 rfl rfl rfl ?_
  refine jr_imul 7 dX10_wasRed_6 rfl ?_
  refine jr_iload_n 1 8 dX10_wasRed_7 rfl rfl rfl ?_
  refine jr_iadd 9 dX10_wasRed_8 rfl ?_
  refine jr_iald rfl (k := 5 * t + f) (by rw [pk_mul, nI_add]) (by have := hsr.2.1; omega) 10 dX10_wasRed_9 rfl ?_
  refine jr_aload_n 0 11 dX10_wasRed_10 rfl rfl rfl ?_
  refine jr_iload_n 1 12 dX10_wasRed_11 rfl rfl rfl ?_
  refine cs_X10_210 15 dX10_wasRed_12 rfl rfl rfl (Nat.le_of_ble_eq_true rfl) (wp_redFrom (f := f) (by have := hsr.2.1; omega) (hsr.2.2.2.2 _ hf).2.2.1 (hsr.2.2.2.2 _ hf).1 (hsr.2.2.2.2 _ hf).2.2.2.1 (hsr.2.2.2.2 _ hf).2.1 ?_)
  refine jr_icmp_lt 22 18 dX10_wasRed_15 rfl rfl (fun q15 => ?_) (fun q15 => ?_)
  · refine jr_iconst (nI 0) 23 dX10_wasRed_22 rfl rfl ?_
    refine jr_ireturn dX10_wasRed_23 rfl rfl ?_
    exact h0 (Int32.not_le.mpr q15)
  · refine jr_iconst (nI 1) 19 dX10_wasRed_18 rfl rfl ?_
    refine jr_goto 23 dX10_wasRed_19 rfl ?_
    refine jr_ireturn dX10_wasRed_23 rfl rfl ?_
    exact h1 (Int32.not_lt.mp q15)
theorem wp_rredSeconds_loop {G : jr_G} {d : Nat} {σ : jr_Sg} {k : Value → jr_Sg → Prop} {nf nc : Nat} {kd se : Nat → Nat} {f : Nat} (hsr : sr_ok σ nf nc kd se) (hf : f < nf) (h : k (.int (lp (fun i a => a + if pu_redf (kd f) (σ 49 f) (σ 47 (se f)) ≤ σ 69 (5 * i + f) then 1 else 0) 0 40)) σ) : ∀ (m j : Nat) (acc : Int32), j + m = 40 → acc = lp (fun i a => a + if pu_redf (kd f) (σ 49 f) (σ 47 (se f)) ≤ σ 69 (5 * i + f) then 1 else 0) (0) j → jr_R G (d + 2) mi_X10_redSeconds (jr_k k) 4 [some (.ref 46), some (.int (nI f)), some (.int acc), some (.int (nI j))] [] σ := by
  intro m
  induction m with
  | zero =>
    intro j acc hj hacc
    have ej : j = 40 := hj
    subst ej
    subst hacc
    refine jr_iload_n 3 5 dX10_redSeconds_4 rfl rfl rfl ?_
    refine jr_bipush (40) 7 dX10_redSeconds_5 rfl rfl ?_
    refine jr_icmp_ge 33 10 dX10_redSeconds_7 rfl rfl (fun q7 => ?_) (fun z => absurd (nI_le (a := 40) (Nat.le_refl _) (by omega)) z)
    refine jr_iload_n 2 34 dX10_redSeconds_33 rfl rfl rfl ?_
    refine jr_ireturn dX10_redSeconds_34 rfl rfl ?_
    exact h
  | succ m ih =>
    intro j acc hj hacc
    refine jr_iload_n 3 5 dX10_redSeconds_4 rfl rfl rfl ?_
    refine jr_bipush (40) 7 dX10_redSeconds_5 rfl rfl ?_
    refine jr_icmp_ge 33 10 dX10_redSeconds_7 rfl rfl (fun z => absurd z (nI_ge (b := 40) (by omega) (by decide))) (fun q7 => ?_)
    refine jr_iload_n 2 11 dX10_redSeconds_10 rfl rfl rfl ?_
    refine jr_aload_n 0 12 dX10_redSeconds_11 rfl rfl rfl ?_
    refine jr_iload_n 1 13 dX10_redSeconds_12 rfl rfl rfl ?_
    refine jr_iload_n 3 14 dX10_redSeconds_13 rfl rfl rfl ?_
    refine cs_X10_256 17 dX10_redSeconds_14 rfl rfl rfl (Nat.le_of_ble_eq_true rfl) (wp_wasRed (f := f) (t := j) hsr hf (by omega) (fun qr => ?_) (fun qr => ?_))
    · refine jr_if_eq 24 20 dX10_redSeconds_17 rfl rfl (fun q => absurd q (by decide)) (fun q17 => ?_)
      refine jr_iconst (1) 21 dX10_redSeconds_20 rfl rfl ?_
      refine jr_goto 25 dX10_redSeconds_21 rfl ?_
      refine jr_iadd 26 dX10_redSeconds_25 rfl ?_
      refine jr_istore_n 2 (L' := [_, _, _, _]) 27 dX10_redSeconds_26 rfl rfl (by decide) rfl ?_
      refine jr_iinc (v := nI (j + 1)) (L' := [_, _, _, _]) 30 dX10_redSeconds_27 rfl rfl (nI_1 j) (by decide) rfl ?_
      refine jr_goto 4 dX10_redSeconds_30 rfl ?_
      exact ih (j + 1) _ (by omega) (by rw [hacc]; simp only [lp]; first | rw [if_pos (by assumption)] | rw [if_neg (by assumption)] | rfl)
    · refine jr_if_eq 24 20 dX10_redSeconds_17 rfl rfl (fun q17 => ?_) (fun q => absurd (by decide) q)
      refine jr_iconst (0) 25 dX10_redSeconds_24 rfl rfl ?_
      refine jr_iadd 26 dX10_redSeconds_25 rfl ?_
      refine jr_istore_n 2 (L' := [_, _, _, _]) 27 dX10_redSeconds_26 rfl rfl (by decide) rfl ?_
      refine jr_iinc (v := nI (j + 1)) (L' := [_, _, _, _]) 30 dX10_redSeconds_27 rfl rfl (nI_1 j) (by decide) rfl ?_
      refine jr_goto 4 dX10_redSeconds_30 rfl ?_
      exact ih (j + 1) _ (by omega) (by rw [hacc]; simp only [lp]; first | rw [if_pos (by assumption)] | rw [if_neg (by assumption)] | rfl)
theorem wp_rredSeconds {G : jr_G} {d : Nat} {σ : jr_Sg} {k : Value → jr_Sg → Prop} {nf nc : Nat} {kd se : Nat → Nat} {f : Nat} (hsr : sr_ok σ nf nc kd se) (hf : f < nf) (h : k (.int (lp (fun i a => a + if pu_redf (kd f) (σ 49 f) (σ 47 (se f)) ≤ σ 69 (5 * i + f) then 1 else 0) 0 40)) σ) : jr_M G (d + 2) mi_X10_redSeconds [.ref 46, .int (nI f)] σ (jr_k k) := by
  refine jr_enter (L := [some (.ref 46), some (.int (nI f)), none, none]) (by decide) (Nat.le_of_ble_eq_true rfl) rfl ?_
  refine jr_iconst (nI 0) 1 dX10_redSeconds_0 rfl rfl ?_
  refine jr_istore_n 2 (L' := [_, _, _, _]) 2 dX10_redSeconds_1 rfl rfl (by decide) rfl ?_
  refine jr_iconst (nI 0) 3 dX10_redSeconds_2 rfl rfl ?_
  refine jr_istore_n 3 (L' := [_, _, _, _]) 4 dX10_redSeconds_3 rfl rfl (by decide) rfl ?_
  exact wp_rredSeconds_loop hsr hf h _ 0 _ (Nat.zero_add _) rfl
theorem wp_feltBy_loop {G : jr_G} {d : Nat} {σ : jr_Sg} {k : Value → jr_Sg → Prop} {f : Nat} (hf : f < 5) (h : k (.int (lp (fun i a => a + σ 69 (5 * i + f)) 0 40)) σ) : ∀ (m j : Nat) (acc : Int32), j + m = 40 → acc = lp (fun i a => a + σ 69 (5 * i + f)) (0) j → jr_R G (d) mi_X10_feltBy (jr_k k) 4 [some (.ref 46), some (.int (nI f)), some (.int acc), some (.int (nI j))] [] σ := by
  intro m
  induction m with
  | zero =>
    intro j acc hj hacc
    have ej : j = 40 := hj
    subst ej
    subst hacc
    refine jr_iload_n 3 5 dX10_feltBy_4 rfl rfl rfl ?_
    refine jr_bipush (40) 7 dX10_feltBy_5 rfl rfl ?_
    refine jr_icmp_ge 29 10 dX10_feltBy_7 rfl rfl (fun q7 => ?_) (fun z => absurd (nI_le (a := 40) (Nat.le_refl _) (by omega)) z)
    refine jr_iload_n 2 30 dX10_feltBy_29 rfl rfl rfl ?_
    refine jr_ireturn dX10_feltBy_30 rfl rfl ?_
    exact h
  | succ m ih =>
    intro j acc hj hacc
    refine jr_iload_n 3 5 dX10_feltBy_4 rfl rfl rfl ?_
    refine jr_bipush (nI 40) 7 dX10_feltBy_5 rfl rfl ?_
    refine jr_icmp_ge 29 10 dX10_feltBy_7 rfl rfl (fun z => absurd z (nI_ge (b := 40) (by omega) (by decide))) (fun q7 => ?_)
    refine jr_iload_n 2 11 dX10_feltBy_10 rfl rfl rfl ?_
    refine jr_aload_n 0 12 dX10_feltBy_11 rfl rfl rfl ?_
    refine gf_X10_76 15 dX10_feltBy_12 rfl rfl rfl rfl ?_
    refine jr_iconst (nI 5) 16 dX10_feltBy_15 rfl rfl ?_
    refine jr_iload_n 3 17 dX10_feltBy_16 rfl rfl rfl ?_
    refine jr_imul 18 dX10_feltBy_17 rfl ?_
    refine jr_iload_n 1 19 dX10_feltBy_18 rfl rfl rfl ?_
    refine jr_iadd 20 dX10_feltBy_19 rfl ?_
    refine jr_iald rfl (k := 5 * j + f) (by rw [pk_mul, nI_add]) (by omega) 21 dX10_feltBy_20 rfl ?_
    refine jr_iadd 22 dX10_feltBy_21 rfl ?_
    refine jr_istore_n 2 (L' := [_, _, _, _]) 23 dX10_feltBy_22 rfl rfl (by decide) rfl ?_
    refine jr_iinc (v := nI (j + 1)) (L' := [_, _, _, _]) 26 dX10_feltBy_23 rfl rfl (nI_1 j) (by decide) rfl ?_
    refine jr_goto 4 dX10_feltBy_26 rfl ?_
    exact ih (j + 1) _ (by omega) (by rw [hacc]; rfl)
theorem wp_feltBy {G : jr_G} {d : Nat} {σ : jr_Sg} {k : Value → jr_Sg → Prop} {f : Nat} (hf : f < 5) (h : k (.int (lp (fun i a => a + σ 69 (5 * i + f)) 0 40)) σ) : jr_M G (d) mi_X10_feltBy [.ref 46, .int (nI f)] σ (jr_k k) := by
  refine jr_enter (L := [some (.ref 46), some (.int (nI f)), none, none]) (by decide) (Nat.le_of_ble_eq_true rfl) rfl ?_
  refine jr_iconst (nI 0) 1 dX10_feltBy_0 rfl rfl ?_
  refine jr_istore_n 2 (L' := [_, _, _, _]) 2 dX10_feltBy_1 rfl rfl (by decide) rfl ?_
  refine jr_iconst (nI 0) 3 dX10_feltBy_2 rfl rfl ?_
  refine jr_istore_n 3 (L' := [_, _, _, _]) 4 dX10_feltBy_3 rfl rfl (by decide) rfl ?_
  exact wp_feltBy_loop hf h _ 0 _ (Nat.zero_add _) rfl
theorem pu_max_t {a b : Int32} (h : a < b) : pu_max a b = b := by unfold pu_max; rw [if_pos h]
theorem pu_max_f {a b : Int32} (h : ¬ a < b) : pu_max a b = a := by unfold pu_max; rw [if_neg h]
theorem wp_mostWarm_loop {G : jr_G} {d : Nat} {σ : jr_Sg} {k : Value → jr_Sg → Prop} {f : Nat} (hf : f < 5) (h : k (.int (lp (fun i a => pu_max a (σ 69 (5 * i + f))) (σ 50 f) 40)) σ) : ∀ (m j : Nat) (acc : Int32), j + m = 40 → acc = lp (fun i a => pu_max a (σ 69 (5 * i + f))) (σ 50 f) j → jr_R G d mi_X10_mostWarm (jr_k k) 9 [some (.ref 46), some (.int (nI f)), some (.int acc), some (.int (nI j))] [] σ := by
  intro m
  induction m with
  | zero =>
    intro j acc hj hacc
    have ej : j = 40 := hj
    subst ej
    subst hacc
    refine jr_iload_n 3 10 dX10_mostWarm_9 rfl rfl rfl ?_
    refine jr_bipush (40) 12 dX10_mostWarm_10 rfl rfl ?_
    refine jr_icmp_ge 50 15 dX10_mostWarm_12 rfl rfl (fun q12 => ?_) (fun z => absurd (nI_le (a := 40) (Nat.le_refl _) (by omega)) z)
    refine jr_iload_n 2 51 dX10_mostWarm_50 rfl rfl rfl ?_
    refine jr_ireturn dX10_mostWarm_51 rfl rfl ?_
    exact h
  | succ m ih =>
    intro j acc hj hacc
    refine jr_iload_n 3 10 dX10_mostWarm_9 rfl rfl rfl ?_
    refine jr_bipush (nI 40) 12 dX10_mostWarm_10 rfl rfl ?_
    refine jr_icmp_ge 50 15 dX10_mostWarm_12 rfl rfl (fun z => absurd z (nI_ge (b := 40) (by omega) (by decide))) (fun q12 => ?_)
    refine jr_aload_n 0 16 dX10_mostWarm_15 rfl rfl rfl ?_
    refine gf_X10_76 19 dX10_mostWarm_16 rfl rfl rfl rfl ?_
    refine jr_iconst (nI 5) 20 dX10_mostWarm_19 rfl rfl ?_
    refine jr_iload_n 3 21 dX10_mostWarm_20 rfl rfl rfl ?_
    refine jr_imul 22 dX10_mostWarm_21 rfl ?_
    refine jr_iload_n 1 23 dX10_mostWarm_22 rfl rfl rfl ?_
    refine jr_iadd 24 dX10_mostWarm_23 rfl ?_
    refine jr_iald rfl (k := 5 * j + f) (by rw [pk_mul, nI_add]) (by omega) 25 dX10_mostWarm_24 rfl ?_
    refine jr_iload_n 2 26 dX10_mostWarm_25 rfl rfl rfl ?_
    refine jr_icmp_le 42 29 dX10_mostWarm_26 rfl rfl (fun q26 => ?_) (fun q26 => ?_)
    · refine jr_iload_n 2 43 dX10_mostWarm_42 rfl rfl rfl ?_
      refine jr_istore_n 2 (L' := [_, _, _, _]) 44 dX10_mostWarm_43 rfl rfl (by decide) rfl ?_
      refine jr_iinc (v := nI (j + 1)) (L' := [_, _, _, _]) 47 dX10_mostWarm_44 rfl rfl (nI_1 j) (by decide) rfl ?_
      refine jr_goto 9 dX10_mostWarm_47 rfl ?_
      exact ih (j + 1) _ (by omega) (by subst hacc; first | exact (pu_max_t (Int32.not_le.mp q26)).symm | exact (pu_max_f (Int32.not_lt.mpr q26)).symm)
    · refine jr_aload_n 0 30 dX10_mostWarm_29 rfl rfl rfl ?_
      refine gf_X10_76 33 dX10_mostWarm_30 rfl rfl rfl rfl ?_
      refine jr_iconst (nI 5) 34 dX10_mostWarm_33 rfl rfl ?_
      refine jr_iload_n 3 35 dX10_mostWarm_34 rfl rfl rfl ?_
      refine jr_imul 36 dX10_mostWarm_35 rfl ?_
      refine jr_iload_n 1 37 dX10_mostWarm_36 rfl rfl rfl ?_
      refine jr_iadd 38 dX10_mostWarm_37 rfl ?_
      refine jr_iald rfl (k := 5 * j + f) (by rw [pk_mul, nI_add]) (by omega) 39 dX10_mostWarm_38 rfl ?_
      refine jr_goto 43 dX10_mostWarm_39 rfl ?_
      refine jr_istore_n 2 (L' := [_, _, _, _]) 44 dX10_mostWarm_43 rfl rfl (by decide) rfl ?_
      refine jr_iinc (v := nI (j + 1)) (L' := [_, _, _, _]) 47 dX10_mostWarm_44 rfl rfl (nI_1 j) (by decide) rfl ?_
      refine jr_goto 9 dX10_mostWarm_47 rfl ?_
      exact ih (j + 1) _ (by omega) (by subst hacc; first | exact (pu_max_t (Int32.not_le.mp q26)).symm | exact (pu_max_f (Int32.not_lt.mpr q26)).symm)
theorem wp_mostWarm {G : jr_G} {d : Nat} {σ : jr_Sg} {k : Value → jr_Sg → Prop} {f : Nat} (hf : f < 5) (h : k (.int (lp (fun i a => pu_max a (σ 69 (5 * i + f))) (σ 50 f) 40)) σ) : jr_M G d mi_X10_mostWarm [.ref 46, .int (nI f)] σ (jr_k k) := by
  refine jr_enter (L := [some (.ref 46), some (.int (nI f)), none, none]) (by decide) (Nat.le_of_ble_eq_true rfl) rfl ?_
  refine jr_aload_n 0 1 dX10_mostWarm_0 rfl rfl rfl ?_
  refine gf_X10_19 4 dX10_mostWarm_1 rfl rfl rfl rfl ?_
  refine jr_iload_n 1 5 dX10_mostWarm_4 rfl rfl rfl ?_
  refine jr_iald rfl rfl hf 6 dX10_mostWarm_5 rfl ?_
  refine jr_istore_n 2 (L' := [_, _, _, _]) 7 dX10_mostWarm_6 rfl rfl (by decide) rfl ?_
  refine jr_iconst (nI 0) 8 dX10_mostWarm_7 rfl rfl ?_
  refine jr_istore_n 3 (L' := [_, _, _, _]) 9 dX10_mostWarm_8 rfl rfl (by decide) rfl ?_
  exact wp_mostWarm_loop hf h _ 0 _ (Nat.zero_add _) rfl
theorem wp_rfirstRed_loop {G : jr_G} {d : Nat} {σ : jr_Sg} {k : Value → jr_Sg → Prop} {nf nc : Nat} {kd se : Nat → Nat} {f : Nat} (hsr : sr_ok σ nf nc kd se) (hf : f < nf) : ∀ (m j : Nat), j + m = 40 → k (.int (oI (fs (fun i => pu_redf (kd f) (σ 49 f) (σ 47 (se f)) ≤ σ 69 (5 * i + f)) j m))) σ → jr_R G (d + 2) mi_X10_firstRed (jr_k k) 2 [some (.ref 46), some (.int (nI f)), some (.int (nI j))] [] σ := by
  intro m
  induction m with
  | zero =>
    intro j hj h
    have ej : j = 40 := hj
    subst ej
    refine jr_iload_n 2 3 dX10_firstRed_2 rfl rfl rfl ?_
    refine jr_bipush (40) 5 dX10_firstRed_3 rfl rfl ?_
    refine jr_icmp_ge 25 8 dX10_firstRed_5 rfl rfl (fun q5 => ?_) (fun z => absurd (nI_le (a := 40) (Nat.le_refl _) (by omega)) z)
    refine jr_iconst ((-1)) 26 dX10_firstRed_25 rfl rfl ?_
    refine jr_ireturn dX10_firstRed_26 rfl rfl ?_
    exact h
  | succ m ih =>
    intro j hj h
    refine jr_iload_n 2 3 dX10_firstRed_2 rfl rfl rfl ?_
    refine jr_bipush (40) 5 dX10_firstRed_3 rfl rfl ?_
    refine jr_icmp_ge 25 8 dX10_firstRed_5 rfl rfl (fun z => absurd z (nI_ge (b := 40) (by omega) (by decide))) (fun q5 => ?_)
    refine jr_aload_n 0 9 dX10_firstRed_8 rfl rfl rfl ?_
    refine jr_iload_n 1 10 dX10_firstRed_9 rfl rfl rfl ?_
    refine jr_iload_n 2 11 dX10_firstRed_10 rfl rfl rfl ?_
    refine cs_X10_256 14 dX10_firstRed_11 rfl rfl rfl (Nat.le_of_ble_eq_true rfl) (wp_wasRed (f := f) (t := j) hsr hf (by omega) (fun qr => ?_) (fun qr => ?_))
    · refine jr_if_eq 19 17 dX10_firstRed_14 rfl rfl (fun q => absurd q (by decide)) (fun q14 => ?_)
      refine jr_iload_n 2 18 dX10_firstRed_17 rfl rfl rfl ?_
      refine jr_ireturn dX10_firstRed_18 rfl rfl ?_
      rw [fs_t qr] at h
      exact h
    · refine jr_if_eq 19 17 dX10_firstRed_14 rfl rfl (fun q14 => ?_) (fun q => absurd (by decide) q)
      refine jr_iinc (v := nI (j + 1)) (L' := [_, _, _]) 22 dX10_firstRed_19 rfl rfl (nI_1 j) (by decide) rfl ?_
      refine jr_goto 2 dX10_firstRed_22 rfl ?_
      rw [fs_f qr] at h
      exact ih (j + 1) (by omega) h
theorem wp_rfirstRed {G : jr_G} {d : Nat} {σ : jr_Sg} {k : Value → jr_Sg → Prop} {nf nc : Nat} {kd se : Nat → Nat} {f : Nat} (hsr : sr_ok σ nf nc kd se) (hf : f < nf) (h : k (.int (oI (fs (fun i => pu_redf (kd f) (σ 49 f) (σ 47 (se f)) ≤ σ 69 (5 * i + f)) 0 40))) σ) : jr_M G (d + 2) mi_X10_firstRed [.ref 46, .int (nI f)] σ (jr_k k) := by
  refine jr_enter (L := [some (.ref 46), some (.int (nI f)), none]) (by decide) (Nat.le_of_ble_eq_true rfl) rfl ?_
  refine jr_iconst (nI 0) 1 dX10_firstRed_0 rfl rfl ?_
  refine jr_istore_n 2 (L' := [_, _, _]) 2 dX10_firstRed_1 rfl rfl (by decide) rfl ?_
  exact wp_rfirstRed_loop hsr hf 40 0 (by omega) h
theorem wp_rlastRed_loop {G : jr_G} {d : Nat} {σ : jr_Sg} {k : Value → jr_Sg → Prop} {nf nc : Nat} {kd se : Nat → Nat} {f : Nat} (hsr : sr_ok σ nf nc kd se) (hf : f < nf) : ∀ (m : Nat) (v : Int32), m ≤ 40 → v + 1 = nI m → k (.int (oI (ls (fun i => pu_redf (kd f) (σ 49 f) (σ 47 (se f)) ≤ σ 69 (5 * i + f)) m))) σ → jr_R G (d + 2) mi_X10_lastRed (jr_k k) 3 [some (.ref 46), some (.int (nI f)), some (.int v)] [] σ := by
  intro m
  induction m with
  | zero =>
    intro v hj hv h
    have ev : v = -1 := by
      calc v = v + 1 - 1 := by simp
        _ = -1 := by rw [hv]; rfl
    subst ev
    refine jr_iload_n 2 4 dX10_lastRed_3 rfl rfl rfl ?_
    refine jr_if_lt 24 7 dX10_lastRed_4 rfl rfl (fun q4 => ?_) (fun z => absurd (by decide) z)
    refine jr_iconst ((-1)) 25 dX10_lastRed_24 rfl rfl ?_
    refine jr_ireturn dX10_lastRed_25 rfl rfl ?_
    exact h
  | succ j ih =>
    intro v hj hv h
    have ev := tp_of hv
    subst ev
    refine jr_iload_n 2 4 dX10_lastRed_3 rfl rfl rfl ?_
    refine jr_if_lt 24 7 dX10_lastRed_4 rfl rfl (fun z => absurd z (nI_pos (by omega))) (fun q4 => ?_)
    refine jr_aload_n 0 8 dX10_lastRed_7 rfl rfl rfl ?_
    refine jr_iload_n 1 9 dX10_lastRed_8 rfl rfl rfl ?_
    refine jr_iload_n 2 10 dX10_lastRed_9 rfl rfl rfl ?_
    refine cs_X10_256 13 dX10_lastRed_10 rfl rfl rfl (Nat.le_of_ble_eq_true rfl) (wp_wasRed (f := f) (t := j) hsr hf (by omega) (fun qr => ?_) (fun qr => ?_))
    · refine jr_if_eq 18 16 dX10_lastRed_13 rfl rfl (fun q => absurd q (by decide)) (fun q13 => ?_)
      refine jr_iload_n 2 17 dX10_lastRed_16 rfl rfl rfl ?_
      refine jr_ireturn dX10_lastRed_17 rfl rfl ?_
      rw [ls_t qr] at h
      exact h
    · refine jr_if_eq 18 16 dX10_lastRed_13 rfl rfl (fun q13 => ?_) (fun q => absurd (by decide) q)
      refine jr_iinc (v := _ + (-1)) (L' := [_, _, _]) 21 dX10_lastRed_18 rfl rfl rfl (by decide) rfl ?_
      refine jr_goto 3 dX10_lastRed_21 rfl ?_
      rw [ls_f qr] at h
      exact ih _ (by omega) (by rw [Int32.add_assoc, show (-1 : Int32) + 1 = 0 from by decide, Int32.add_zero]) h
theorem wp_rlastRed {G : jr_G} {d : Nat} {σ : jr_Sg} {k : Value → jr_Sg → Prop} {nf nc : Nat} {kd se : Nat → Nat} {f : Nat} (hsr : sr_ok σ nf nc kd se) (hf : f < nf) (h : k (.int (oI (ls (fun i => pu_redf (kd f) (σ 49 f) (σ 47 (se f)) ≤ σ 69 (5 * i + f)) 40))) σ) : jr_M G (d + 2) mi_X10_lastRed [.ref 46, .int (nI f)] σ (jr_k k) := by
  refine jr_enter (L := [some (.ref 46), some (.int (nI f)), none]) (by decide) (Nat.le_of_ble_eq_true rfl) rfl ?_
  refine jr_bipush (nI 39) 2 dX10_lastRed_0 rfl rfl ?_
  refine jr_istore_n 2 (L' := [_, _, _]) 3 dX10_lastRed_2 rfl rfl (by decide) rfl ?_
  exact wp_rlastRed_loop hsr hf 40 _ (by omega) (by rfl) h
theorem wp_redNow_loop {G : jr_G} {d : Nat} {σ : jr_Sg} {k : Value → jr_Sg → Prop} {nf nc : Nat} {kd se : Nat → Nat} (hsr : sr_ok σ nf nc kd se) (h : k (.int (lp (fun f a => a ||| if pu_redf (kd f) (σ 49 f) (σ 47 (se f)) ≤ σ 65 f then (1 : Int32) <<< (nI f &&& 31) else 0) 0 nf)) σ) : ∀ (m j : Nat) (acc : Int32), j + m = nf → acc = lp (fun f a => a ||| if pu_redf (kd f) (σ 49 f) (σ 47 (se f)) ≤ σ 65 f then (1 : Int32) <<< (nI f &&& 31) else 0) (0) j → jr_R G (d + 2) mi_X10_redNow (jr_k k) 4 [some (.ref 46), some (.int acc), some (.int (nI j))] [] σ := by
  intro m
  induction m with
  | zero =>
    intro j acc hj hacc
    have ej : j = nf := hj
    subst ej
    subst hacc
    refine jr_iload_n 2 5 dX10_redNow_4 rfl rfl rfl ?_
    refine jr_aload_n 0 6 dX10_redNow_5 rfl rfl rfl ?_
    refine gf_X10_105 9 dX10_redNow_6 rfl rfl rfl rfl ?_
    rw [hsr.1]
    refine jr_icmp_ge 36 12 dX10_redNow_9 rfl rfl (fun q9 => ?_) (fun z => absurd (Int32.le_refl _) z)
    refine jr_iload_n 1 37 dX10_redNow_36 rfl rfl rfl ?_
    refine jr_ireturn dX10_redNow_37 rfl rfl ?_
    exact h
  | succ m ih =>
    intro j acc hj hacc
    have h5 := hsr.2.1
    refine jr_iload_n 2 5 dX10_redNow_4 rfl rfl rfl ?_
    refine jr_aload_n 0 6 dX10_redNow_5 rfl rfl rfl ?_
    refine gf_X10_105 9 dX10_redNow_6 rfl rfl rfl rfl ?_
    rw [hsr.1]
    refine jr_icmp_ge 36 12 dX10_redNow_9 rfl rfl (fun z => absurd z (nI_ge (by omega) (by omega))) (fun q9 => ?_)
    refine jr_iload_n 1 13 dX10_redNow_12 rfl rfl rfl ?_
    refine jr_aload_n 0 14 dX10_redNow_13 rfl rfl rfl ?_
    refine jr_iload_n 2 15 dX10_redNow_14 rfl rfl rfl ?_
    refine cs_X10_250 18 dX10_redNow_15 rfl rfl rfl (Nat.le_of_ble_eq_true rfl) (wp_isRedNow (f := j) hsr (by omega) (fun qr => ?_) (fun qr => ?_))
    · refine jr_if_eq 27 21 dX10_redNow_18 rfl rfl (fun q => absurd q (by decide)) (fun q18 => ?_)
      refine jr_iconst (1) 22 dX10_redNow_21 rfl rfl ?_
      refine jr_iload_n 2 23 dX10_redNow_22 rfl rfl rfl ?_
      refine jr_ishl 24 dX10_redNow_23 rfl ?_
      refine jr_goto 28 dX10_redNow_24 rfl ?_
      refine jr_ior 29 dX10_redNow_28 rfl ?_
      refine jr_istore_n 1 (L' := [_, _, _]) 30 dX10_redNow_29 rfl rfl (by decide) rfl ?_
      refine jr_iinc (v := nI (j + 1)) (L' := [_, _, _]) 33 dX10_redNow_30 rfl rfl (nI_1 j) (by decide) rfl ?_
      refine jr_goto 4 dX10_redNow_33 rfl ?_
      exact ih (j + 1) _ (by omega) (by rw [hacc]; simp only [lp]; first | rw [if_pos (by assumption)] | rw [if_neg (by assumption)] | rfl)
    · refine jr_if_eq 27 21 dX10_redNow_18 rfl rfl (fun q18 => ?_) (fun q => absurd (by decide) q)
      refine jr_iconst (0) 28 dX10_redNow_27 rfl rfl ?_
      refine jr_ior 29 dX10_redNow_28 rfl ?_
      refine jr_istore_n 1 (L' := [_, _, _]) 30 dX10_redNow_29 rfl rfl (by decide) rfl ?_
      refine jr_iinc (v := nI (j + 1)) (L' := [_, _, _]) 33 dX10_redNow_30 rfl rfl (nI_1 j) (by decide) rfl ?_
      refine jr_goto 4 dX10_redNow_33 rfl ?_
      exact ih (j + 1) _ (by omega) (by rw [hacc]; simp only [lp]; first | rw [if_pos (by assumption)] | rw [if_neg (by assumption)] | rfl)
theorem wp_redNow {G : jr_G} {d : Nat} {σ : jr_Sg} {k : Value → jr_Sg → Prop} {nf nc : Nat} {kd se : Nat → Nat} (hsr : sr_ok σ nf nc kd se) (h : k (.int (lp (fun f a => a ||| if pu_redf (kd f) (σ 49 f) (σ 47 (se f)) ≤ σ 65 f then (1 : Int32) <<< (nI f &&& 31) else 0) 0 nf)) σ) : jr_M G (d + 2) mi_X10_redNow [.ref 46] σ (jr_k k) := by
  refine jr_enter (L := [some (.ref 46), none, none]) (by decide) (Nat.le_of_ble_eq_true rfl) rfl ?_
  refine jr_iconst (nI 0) 1 dX10_redNow_0 rfl rfl ?_
  refine jr_istore_n 1 (L' := [_, _, _]) 2 dX10_redNow_1 rfl rfl (by decide) rfl ?_
  refine jr_iconst (nI 0) 3 dX10_redNow_2 rfl rfl ?_
  refine jr_istore_n 2 (L' := [_, _, _]) 4 dX10_redNow_3 rfl rfl (by decide) rfl ?_
  exact wp_redNow_loop hsr h _ 0 _ (Nat.zero_add _) rfl
theorem wp_isFace {G : jr_G} {d : Nat} {σ : jr_Sg} {k : Value → jr_Sg → Prop} {nf : Nat} {f : Int32} (hnf : σ 46 1 = nI nf) (h5 : nf ≤ 5) (h1 : ∀ j, j < nf → f = nI j → k (.int 1) σ) (h0 : (f < 0 ∨ nI nf ≤ f) → k (.int 0) σ) : jr_M G (d + 1) mi_X10_isFace [.ref 46, .int f] σ (jr_k k) := by
  have key : f ≤ nI nf - nI 1 → f < nI nf := fun h => by
    rcases Nat.eq_zero_or_pos nf with rfl | hpos
    · exact Int32.lt_of_le_of_lt h (by decide)
    · rw [pk_sub (by omega)] at h
      exact Int32.lt_of_le_of_lt h (nI_lt (by omega) (by omega))
  have key2 : ∀ j, j < nf → (nI j : Int32) ≤ nI nf - nI 1 := fun j hj => by
    rw [pk_sub (by omega)]
    exact nI_le (by omega) (by omega)
  refine jr_enter (L := [some (.ref 46), some (.int f)]) (by decide) (Nat.le_of_ble_eq_true rfl) rfl ?_
  refine jr_iload_n 1 1 dX10_isFace_0 rfl rfl rfl ?_
  refine jr_iconst (nI 0) 2 dX10_isFace_1 rfl rfl ?_
  refine jr_aload_n 0 3 dX10_isFace_2 rfl rfl rfl ?_
  refine gf_X10_105 6 dX10_isFace_3 rfl rfl rfl rfl ?_
  rw [hnf]
  refine jr_iconst (nI 1) 7 dX10_isFace_6 rfl rfl ?_
  refine jr_isub 8 dX10_isFace_7 rfl ?_
  refine cs_X10_108 11 dX10_isFace_8 rfl rfl (Nat.le_of_ble_eq_true rfl) (wp_in (fun q r => ?_) (fun q => ?_))
  · refine jr_ireturn dX10_isFace_11 rfl rfl ?_
    rcases pk_ix f (n := nf) (by omega) with z | z | ⟨j, hj, z⟩
    · exact absurd z (Int32.not_lt.mpr q)
    · exact absurd (key r) (Int32.not_lt.mpr z)
    · exact h1 j hj z
  · refine jr_ireturn dX10_isFace_11 rfl rfl ?_
    rcases pk_ix f (n := nf) (by omega) with z | z | ⟨j, hj, z⟩
    · exact h0 (Or.inl z)
    · exact h0 (Or.inr z)
    · subst z
      exact absurd ⟨nI_pos' (by omega), key2 j hj⟩ q
theorem wp_risSeat {G : jr_G} {d : Nat} {σ : jr_Sg} {k : Value → jr_Sg → Prop} {v : Int32} (h1 : 0 ≤ v → v ≤ 7 → k (.int 1) σ) (h0 : ¬ (0 ≤ v ∧ v ≤ 7) → k (.int 0) σ) : jr_M G (d + 1) mi_X10_isSeat [.int v] σ (jr_k k) := by
  refine jr_enter (L := [some (.int v)]) (by decide) (Nat.le_of_ble_eq_true rfl) rfl ?_
  refine jr_iload_n 0 1 dX10_isSeat_0 rfl rfl rfl ?_
  refine jr_iconst (0) 2 dX10_isSeat_1 rfl rfl ?_
  refine jr_bipush (7) 4 dX10_isSeat_2 rfl rfl ?_
  refine cs_X10_108 7 dX10_isSeat_4 rfl rfl (Nat.le_of_ble_eq_true rfl) (wp_in (fun q r => ?_) (fun q => ?_))
  · refine jr_ireturn dX10_isSeat_7 rfl rfl ?_
    exact h1 q r
  · refine jr_ireturn dX10_isSeat_7 rfl rfl ?_
    exact h0 q
theorem wp_risMuch {G : jr_G} {d : Nat} {σ : jr_Sg} {k : Value → jr_Sg → Prop} {v : Int32} (h1 : 0 ≤ v → v ≤ 400 → k (.int 1) σ) (h0 : ¬ (0 ≤ v ∧ v ≤ 400) → k (.int 0) σ) : jr_M G (d + 1) mi_X10_isMuch [.int v] σ (jr_k k) := by
  refine jr_enter (L := [some (.int v)]) (by decide) (Nat.le_of_ble_eq_true rfl) rfl ?_
  refine jr_iload_n 0 1 dX10_isMuch_0 rfl rfl rfl ?_
  refine jr_iconst (0) 2 dX10_isMuch_1 rfl rfl ?_
  refine jr_sipush (400) 5 dX10_isMuch_2 rfl rfl ?_
  refine cs_X10_108 8 dX10_isMuch_5 rfl rfl (Nat.le_of_ble_eq_true rfl) (wp_in (fun q r => ?_) (fun q => ?_))
  · refine jr_ireturn dX10_isMuch_8 rfl rfl ?_
    exact h1 q r
  · refine jr_ireturn dX10_isMuch_8 rfl rfl ?_
    exact h0 q
theorem wp_risByte {G : jr_G} {d : Nat} {σ : jr_Sg} {k : Value → jr_Sg → Prop} {v : Int32} (h1 : 0 ≤ v → v ≤ 255 → k (.int 1) σ) (h0 : ¬ (0 ≤ v ∧ v ≤ 255) → k (.int 0) σ) : jr_M G (d + 1) mi_X10_isByte [.int v] σ (jr_k k) := by
  refine jr_enter (L := [some (.int v)]) (by decide) (Nat.le_of_ble_eq_true rfl) rfl ?_
  refine jr_iload_n 0 1 dX10_isByte_0 rfl rfl rfl ?_
  refine jr_iconst (0) 2 dX10_isByte_1 rfl rfl ?_
  refine jr_sipush (255) 5 dX10_isByte_2 rfl rfl ?_
  refine cs_X10_108 8 dX10_isByte_5 rfl rfl (Nat.le_of_ble_eq_true rfl) (wp_in (fun q r => ?_) (fun q => ?_))
  · refine jr_ireturn dX10_isByte_8 rfl rfl ?_
    exact h1 q r
  · refine jr_ireturn dX10_isByte_8 rfl rfl ?_
    exact h0 q
theorem whoSits_loop {G : jr_G} {d : Nat} {σ : jr_Sg} {k : Value → jr_Sg → Prop} {s : Int32} {nf : Nat} (hnf : σ 46 1 = nI nf) (h5 : nf ≤ 5) : ∀ (m j : Nat), j + m = nf → k (.int (oI (pu_sit (σ 51) s j m))) σ → jr_R G d mi_X10_whoSits (jr_k k) 2 [some (.ref 46), some (.int s), some (.int (nI j))] [] σ := by
  intro m
  induction m with
  | zero =>
    intro j hj h
    have e : j = nf := hj
    subst e
    refine jr_iload_n 2 3 dX10_whoSits_2 rfl rfl rfl ?_
    refine jr_aload_n 0 4 dX10_whoSits_3 rfl rfl rfl ?_
    refine gf_X10_105 7 dX10_whoSits_4 rfl rfl rfl rfl ?_
    rw [hnf]
    refine jr_icmp_ge 28 10 dX10_whoSits_7 rfl rfl (fun q7 => ?_) (fun z => absurd (Int32.le_refl _) z)
    refine jr_iconst ((-1)) 29 dX10_whoSits_28 rfl rfl ?_
    refine jr_ireturn dX10_whoSits_29 rfl rfl ?_
    exact h
  | succ m ih =>
    intro j hj h
    rw [pu_sit] at h
    refine jr_iload_n 2 3 dX10_whoSits_2 rfl rfl rfl ?_
    refine jr_aload_n 0 4 dX10_whoSits_3 rfl rfl rfl ?_
    refine gf_X10_105 7 dX10_whoSits_4 rfl rfl rfl rfl ?_
    rw [hnf]
    refine jr_icmp_ge 28 10 dX10_whoSits_7 rfl rfl (fun z => absurd z (nI_ge (by omega) (by omega))) (fun q7 => ?_)
    refine jr_aload_n 0 11 dX10_whoSits_10 rfl rfl rfl ?_
    refine gf_X10_22 14 dX10_whoSits_11 rfl rfl rfl rfl ?_
    refine jr_iload_n 2 15 dX10_whoSits_14 rfl rfl rfl ?_
    refine jr_iald rfl rfl (by omega) 16 dX10_whoSits_15 rfl ?_
    refine jr_iload_n 1 17 dX10_whoSits_16 rfl rfl rfl ?_
    refine jr_icmp_ne 22 20 dX10_whoSits_17 rfl rfl (fun q17 => ?_) (fun q17 => ?_)
    · refine jr_iinc (v := nI (j + 1)) (L' := [_, _, _]) 25 dX10_whoSits_22 rfl rfl (nI_1 j) (by decide) rfl ?_
      refine jr_goto 2 dX10_whoSits_25 rfl ?_
      rw [if_neg q17] at h
      exact ih (j + 1) (by omega) h
    · refine jr_iload_n 2 21 dX10_whoSits_20 rfl rfl rfl ?_
      refine jr_ireturn dX10_whoSits_21 rfl rfl ?_
      rw [if_pos q17] at h
      exact h
theorem wp_whoSits {G : jr_G} {d : Nat} {σ : jr_Sg} {k : Value → jr_Sg → Prop} {s : Int32} {nf : Nat} (hnf : σ 46 1 = nI nf) (h5 : nf ≤ 5) (h : k (.int (oI (pu_sit (σ 51) s 0 nf))) σ) : jr_M G d mi_X10_whoSits [.ref 46, .int s] σ (jr_k k) := by
  refine jr_enter (L := [some (.ref 46), some (.int s), none]) (by decide) (Nat.le_of_ble_eq_true rfl) rfl ?_
  refine jr_iconst (nI 0) 1 dX10_whoSits_0 rfl rfl ?_
  refine jr_istore_n 2 (L' := [_, _, _]) 2 dX10_whoSits_1 rfl rfl (by decide) rfl ?_
  exact whoSits_loop hnf h5 nf 0 (by omega) h
theorem wp_sits {G : jr_G} {d : Nat} {σ : jr_Sg} {k : Value → jr_Sg → Prop} {nf f : Nat} {s : Int32} (hnf : σ 46 1 = nI nf) (h5 : nf ≤ 5) (hf : f < nf) (h : k (.int (σ 51 f)) (jr_upc σ 51 (pu_move (σ 51) nf f s))) : jr_M G (d + 1) mi_X10_sits [.ref 46, .int (nI f), .int s] σ (jr_k k) := by
  unfold pu_move at h
  refine jr_enter (L := [some (.ref 46), some (.int (nI f)), some (.int s), none, none]) (by decide) (Nat.le_of_ble_eq_true rfl) rfl ?_
  cases hsit : pu_sit (σ 51) s 0 nf with
  | none =>
    rw [hsit] at h
    refine jr_aload_n 0 1 dX10_sits_0 rfl rfl rfl ?_
    refine gf_X10_22 4 dX10_sits_1 rfl rfl rfl rfl ?_
    refine jr_iload_n 1 5 dX10_sits_4 rfl rfl rfl ?_
    refine jr_iald rfl rfl (by omega) 6 dX10_sits_5 rfl ?_
    refine jr_istore_n 3 (L' := [_, _, _, _, _]) 7 dX10_sits_6 rfl rfl (by decide) rfl ?_
    refine jr_aload_n 0 8 dX10_sits_7 rfl rfl rfl ?_
    refine jr_iload_n 2 9 dX10_sits_8 rfl rfl rfl ?_
    refine cs_X10_201 12 dX10_sits_9 rfl rfl rfl (Nat.le_of_ble_eq_true rfl) (wp_whoSits hnf h5 ?_)
    rw [hsit]
    refine jr_istore (L' := [_, _, _, _, _]) 14 dX10_sits_12 rfl (by decide) rfl ?_
    refine jr_iload 16 dX10_sits_14 rfl rfl ?_
    refine jr_iconst ((-1)) 17 dX10_sits_16 rfl rfl ?_
    refine jr_icmp_eq 28 20 dX10_sits_17 rfl rfl (fun q17 => ?_) (fun z => absurd (by rfl) z)
    refine jr_aload_n 0 29 dX10_sits_28 rfl rfl rfl ?_
    refine gf_X10_22 32 dX10_sits_29 rfl rfl rfl rfl ?_
    refine jr_iload_n 1 33 dX10_sits_32 rfl rfl rfl ?_
    refine jr_iload_n 2 34 dX10_sits_33 rfl rfl rfl ?_
    refine jr_iast rfl rfl (by omega) 35 dX10_sits_34 rfl ?_
    refine jr_iload_n 3 36 dX10_sits_35 rfl rfl rfl ?_
    refine jr_ireturn dX10_sits_36 rfl rfl ?_
    exact h
  | some i =>
    rw [hsit] at h
    obtain ⟨-, hi, -⟩ := pu_sit_some _ _ _ hsit
    have hi2 : i < nf := by omega
    refine jr_aload_n 0 1 dX10_sits_0 rfl rfl rfl ?_
    refine gf_X10_22 4 dX10_sits_1 rfl rfl rfl rfl ?_
    refine jr_iload_n 1 5 dX10_sits_4 rfl rfl rfl ?_
    refine jr_iald rfl rfl (by omega) 6 dX10_sits_5 rfl ?_
    refine jr_istore_n 3 (L' := [_, _, _, _, _]) 7 dX10_sits_6 rfl rfl (by decide) rfl ?_
    refine jr_aload_n 0 8 dX10_sits_7 rfl rfl rfl ?_
    refine jr_iload_n 2 9 dX10_sits_8 rfl rfl rfl ?_
    refine cs_X10_201 12 dX10_sits_9 rfl rfl rfl (Nat.le_of_ble_eq_true rfl) (wp_whoSits hnf h5 ?_)
    rw [hsit]
    refine jr_istore (L' := [_, _, _, _, _]) 14 dX10_sits_12 rfl (by decide) rfl ?_
    refine jr_iload 16 dX10_sits_14 rfl rfl ?_
    refine jr_iconst ((-1)) 17 dX10_sits_16 rfl rfl ?_
    refine jr_icmp_eq 28 20 dX10_sits_17 rfl rfl (fun z => (jr_m1 (by omega) (Eq.symm z)).elim) (fun q17 => ?_)
    refine jr_aload_n 0 21 dX10_sits_20 rfl rfl rfl ?_
    refine gf_X10_22 24 dX10_sits_21 rfl rfl rfl rfl ?_
    refine jr_iload 26 dX10_sits_24 rfl rfl ?_
    refine jr_iload_n 3 27 dX10_sits_26 rfl rfl rfl ?_
    refine jr_iast rfl rfl (by omega) 28 dX10_sits_27 rfl ?_
    refine jr_aload_n 0 29 dX10_sits_28 rfl rfl rfl ?_
    refine gf_X10_22 32 dX10_sits_29 rfl rfl rfl rfl ?_
    refine jr_iload_n 1 33 dX10_sits_32 rfl rfl rfl ?_
    refine jr_iload_n 2 34 dX10_sits_33 rfl rfl rfl ?_
    refine jr_iast rfl rfl (by omega) 35 dX10_sits_34 rfl ?_
    refine jr_iload_n 3 36 dX10_sits_35 rfl rfl rfl ?_
    refine jr_ireturn dX10_sits_36 rfl rfl ?_
    simp only [jr_up_upc, jr_upc_upc, jr_upc_at]
    exact h

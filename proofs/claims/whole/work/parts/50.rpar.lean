def rH : List Nat → (Nat → Int32) → Prop
  | [], _ => True
  | s :: H, f => f H.length = nI s ∧ (s = 0 ∨ (11 ≤ s ∧ s ≤ 19)) ∧ rH H f
theorem rH_up : ∀ (H : List Nat) {f : Nat → Int32} {j : Nat} {v : Int32}, rH H f → H.length ≤ j → rH H (upd f j v)
  | [], _, _, _, _, _ => trivial
  | s :: H, f, j, v, h, hj => by
    have hj2 : H.length + 1 ≤ j := hj
    exact ⟨by rw [pk_un (by omega)]; exact h.1, h.2.1, rH_up H h.2.2 (by omega)⟩
theorem up46 {σ : jr_Sg} {i j : Nat} {v : Int32} (h : i ≠ j) : jr_up σ 46 j v 46 i = σ 46 i := (pk_un h : upd (σ 46) j v i = σ 46 i)
def rQ (b : Nat → Nat) (tp n : Nat) (σ0 σ : jr_Sg) (O : List Nat) : Prop := (∀ a, a ∉ [46, 54, 62] → σ a = σ0 a) ∧ (∀ j, j ∉ [23, 24, 25, 26, 29, 30, 31] → σ 46 j = σ0 46 j) ∧ (σ 46 12 = nI n ∧ n < 6) ∧ tR b tp σ ∧ σ 46 31 = nI O.length ∧ (∀ j, j < 200 * n → σ 54 j = σ0 54 j) ∧ ∀ i, i < O.length → σ 54 (200 * n + i) = nI (O.getD i 0)
def rS (b : Nat → Nat) (tp n : Nat) (σ0 σ : jr_Sg) (H O : List Nat) : Prop := rQ b tp n σ0 σ O ∧ σ 46 29 = nI H.length ∧ σ 46 30 = nI (au_op H) ∧ rH H (σ 62)
def kp3 (σ σ' : jr_Sg) : Prop := σ' 46 23 = σ 46 23 ∧ σ' 46 24 = σ 46 24 ∧ σ' 46 25 = σ 46 25
theorem kp3_rf (σ : jr_Sg) : kp3 σ σ := ⟨rfl, rfl, rfl⟩
theorem kp3_tr {a b c : jr_Sg} (h : kp3 a b) (g : kp3 b c) : kp3 a c := ⟨g.1.trans h.1, g.2.1.trans h.2.1, g.2.2.trans h.2.2⟩
theorem rQ_fr {b : Nat → Nat} {tp n : Nat} {σ0 σ σ' : jr_Sg} {O : List Nat} {F : List Nat} (h : rQ b tp n σ0 σ O) (hq : fr46 F σ σ') (hF : ∀ j, j ∈ F → j ∈ [23, 24, 25, 26, 29, 30]) : rQ b tp n σ0 σ' O := by
  obtain ⟨h1, h2, h3, h4, h5, h6, h7⟩ := h
  have nf : ∀ j, j ∉ [23, 24, 25, 26, 29, 30] → j ∉ F := fun j hj hq => hj (hF j hq)
  have e54 : σ' 54 = σ 54 := hq.1 54 (by decide)
  refine ⟨fun a ha => ?_, fun j hj => ?_, ?_, tR_fr h4 hq (nf 9 (by decide)), ?_, by rw [e54]; exact h6, by rw [e54]; exact h7⟩
  · rw [hq.1 a (fun z => ha (by rw [z]; decide))]
    exact h1 a ha
  · simp only [List.mem_cons, not_or, List.not_mem_nil, not_false_eq_true, and_true] at hj
    rw [hq.2 j (nf j (by simp only [List.mem_cons, not_or, List.not_mem_nil, not_false_eq_true, and_true]; omega))]
    exact h2 j (by simp only [List.mem_cons, not_or, List.not_mem_nil, not_false_eq_true, and_true]; omega)
  · rw [hq.2 12 (nf 12 (by decide))]
    exact h3
  · rw [hq.2 31 (nf 31 (by decide))]
    exact h5
theorem rQ_62 {b : Nat → Nat} {tp n j : Nat} {σ0 σ : jr_Sg} {O : List Nat} {v : Int32} (h : rQ b tp n σ0 σ O) : rQ b tp n σ0 (jr_up σ 62 j v) O := by
  have e (a : Nat) (ha : a ≠ 62) : jr_up σ 62 j v a = σ a := by
    unfold jr_up
    rw [if_neg ha]
  obtain ⟨h1, h2, h3, h4, h5, h6, h7⟩ := h
  unfold rQ tR iv_wd
  rw [e 46 (by decide), e 54 (by decide), e 53 (by decide), e 61 (by decide)]
  refine ⟨fun a ha => ?_, h2, h3, h4, h5, h6, h7⟩
  rw [e a (fun z => ha (by rw [z]; decide))]
  exact h1 a ha
theorem rQ_put {b : Nat → Nat} {tp n o : Nat} {σ0 σ : jr_Sg} {O : List Nat} (h : rQ b tp n σ0 σ O) : rQ b tp n σ0 (jr_up (jr_up σ 54 (200 * n + O.length) (nI o)) 46 31 (nI (O.length + 1))) (O ++ [o]) := by
  have e (a : Nat) (h1 : a ≠ 46) (h2 : a ≠ 54) : jr_up (jr_up σ 54 (200 * n + O.length) (nI o)) 46 31 (nI (O.length + 1)) a = σ a := by
    unfold jr_up
    rw [if_neg h1, if_neg h2]
  have e46 (j : Nat) (hj : j ≠ 31) : jr_up (jr_up σ 54 (200 * n + O.length) (nI o)) 46 31 (nI (O.length + 1)) 46 j = σ 46 j := by
    show upd (σ 46) 31 _ j = _
    rw [pk_un hj]
  have e54 : jr_up (jr_up σ 54 (200 * n + O.length) (nI o)) 46 31 (nI (O.length + 1)) 54 = upd (σ 54) (200 * n + O.length) (nI o) := rfl
  obtain ⟨h1, h2, h3, h4, h5, h6, h7⟩ := h
  refine ⟨fun a ha => ?_, fun j hj => ?_, by rw [e46 12 (by decide)]; exact h3, ?_, ?_, fun j hj => ?_, fun i hi => ?_⟩
  · simp only [List.mem_cons, not_or, List.not_mem_nil, not_false_eq_true, and_true] at ha
    rw [e a (by omega) (by omega)]
    exact h1 a (by simp only [List.mem_cons, not_or, List.not_mem_nil, not_false_eq_true, and_true]; omega)
  · simp only [List.mem_cons, not_or, List.not_mem_nil, not_false_eq_true, and_true] at hj
    rw [e46 j (by omega)]
    exact h2 j (by simp only [List.mem_cons, not_or, List.not_mem_nil, not_false_eq_true, and_true]; omega)
  · unfold tR iv_wd
    rw [e46 9 (by decide), e 53 (by decide) (by decide), e 61 (by decide) (by decide)]
    exact h4
  · rw [List.length_append]
    exact (pk_us : upd (jr_up σ 54 (200 * n + O.length) (nI o) 46) 31 (nI (O.length + 1)) 31 = nI (O.length + 1))
  · rw [e54, pk_un (by omega)]
    exact h6 j hj
  · rw [e54]
    by_cases z : i = O.length
    · subst z
      rw [pk_us]
      simp [List.getD]
    · rw [List.length_append] at hi
      simp only [List.length_cons, List.length_nil] at hi
      rw [pk_un (by omega), h7 i (by omega)]
      congr 1
      simp only [List.getD_eq_getElem?_getD]
      rw [List.getElem?_append_left (by omega)]
theorem wp_rank {G : jr_G} {d : Nat} {σ : jr_Sg} {k : Value → jr_Sg → Prop} {s : Nat} (hs : s = 0 ∨ (11 ≤ s ∧ s ≤ 19)) (h : k (.int (nI (au_rk s))) σ) : jr_M G d mi_X10_rank [.int (nI s)] σ (jr_k k) := by
  rcases (by omega : s = 0 ∨ s = 11 ∨ s = 12 ∨ s = 13 ∨ s = 14 ∨ s = 15 ∨ s = 16 ∨ s = 17 ∨ s = 18 ∨ s = 19) with rfl | rfl | rfl | rfl | rfl | rfl | rfl | rfl | rfl | rfl
  · refine jr_enter (L := [some (.int (nI 0))]) (by decide) (Nat.le_of_ble_eq_true rfl) rfl ?_
    refine jr_iload_n 0 1 dX10_rank_0 rfl rfl rfl ?_
    refine jr_if_ne 8 4 dX10_rank_1 rfl rfl (fun q => absurd (by decide) q) (fun q1 => ?_)
    refine jr_iconst (0) 5 dX10_rank_4 rfl rfl ?_
    refine jr_goto 71 dX10_rank_5 rfl ?_
    refine jr_ireturn dX10_rank_71 rfl rfl ?_
    exact h
  · refine jr_enter (L := [some (.int (nI 11))]) (by decide) (Nat.le_of_ble_eq_true rfl) rfl ?_
    refine jr_iload_n 0 1 dX10_rank_0 rfl rfl rfl ?_
    refine jr_if_ne 8 4 dX10_rank_1 rfl rfl (fun q1 => ?_) (fun q => absurd q (by decide))
    refine jr_iload_n 0 9 dX10_rank_8 rfl rfl rfl ?_
    refine jr_bipush (11) 11 dX10_rank_9 rfl rfl ?_
    refine jr_icmp_ne 18 14 dX10_rank_11 rfl rfl (fun q => absurd (by decide) q) (fun q11 => ?_)
    refine jr_iconst (1) 15 dX10_rank_14 rfl rfl ?_
    refine jr_goto 71 dX10_rank_15 rfl ?_
    refine jr_ireturn dX10_rank_71 rfl rfl ?_
    exact h
  · refine jr_enter (L := [some (.int (nI 12))]) (by decide) (Nat.le_of_ble_eq_true rfl) rfl ?_
    refine jr_iload_n 0 1 dX10_rank_0 rfl rfl rfl ?_
    refine jr_if_ne 8 4 dX10_rank_1 rfl rfl (fun q1 => ?_) (fun q => absurd q (by decide))
    refine jr_iload_n 0 9 dX10_rank_8 rfl rfl rfl ?_
    refine jr_bipush (11) 11 dX10_rank_9 rfl rfl ?_
    refine jr_icmp_ne 18 14 dX10_rank_11 rfl rfl (fun q11 => ?_) (fun q => absurd q (by decide))
    refine jr_iload_n 0 19 dX10_rank_18 rfl rfl rfl ?_
    refine jr_bipush (12) 21 dX10_rank_19 rfl rfl ?_
    refine jr_icmp_ne 28 24 dX10_rank_21 rfl rfl (fun q => absurd (by decide) q) (fun q21 => ?_)
    refine jr_iconst (2) 25 dX10_rank_24 rfl rfl ?_
    refine jr_goto 71 dX10_rank_25 rfl ?_
    refine jr_ireturn dX10_rank_71 rfl rfl ?_
    exact h
  · refine jr_enter (L := [some (.int (nI 13))]) (by decide) (Nat.le_of_ble_eq_true rfl) rfl ?_
    refine jr_iload_n 0 1 dX10_rank_0 rfl rfl rfl ?_
    refine jr_if_ne 8 4 dX10_rank_1 rfl rfl (fun q1 => ?_) (fun q => absurd q (by decide))
    refine jr_iload_n 0 9 dX10_rank_8 rfl rfl rfl ?_
    refine jr_bipush (11) 11 dX10_rank_9 rfl rfl ?_
    refine jr_icmp_ne 18 14 dX10_rank_11 rfl rfl (fun q11 => ?_) (fun q => absurd q (by decide))
    refine jr_iload_n 0 19 dX10_rank_18 rfl rfl rfl ?_
    refine jr_bipush (12) 21 dX10_rank_19 rfl rfl ?_
    refine jr_icmp_ne 28 24 dX10_rank_21 rfl rfl (fun q21 => ?_) (fun q => absurd q (by decide))
    refine jr_iload_n 0 29 dX10_rank_28 rfl rfl rfl ?_
    refine jr_bipush (13) 31 dX10_rank_29 rfl rfl ?_
    refine jr_icmp_ne 38 34 dX10_rank_31 rfl rfl (fun q => absurd (by decide) q) (fun q31 => ?_)
    refine jr_iconst (3) 35 dX10_rank_34 rfl rfl ?_
    refine jr_goto 71 dX10_rank_35 rfl ?_
    refine jr_ireturn dX10_rank_71 rfl rfl ?_
    exact h
  · refine jr_enter (L := [some (.int (nI 14))]) (by decide) (Nat.le_of_ble_eq_true rfl) rfl ?_
    refine jr_iload_n 0 1 dX10_rank_0 rfl rfl rfl ?_
    refine jr_if_ne 8 4 dX10_rank_1 rfl rfl (fun q1 => ?_) (fun q => absurd q (by decide))
    refine jr_iload_n 0 9 dX10_rank_8 rfl rfl rfl ?_
    refine jr_bipush (11) 11 dX10_rank_9 rfl rfl ?_
    refine jr_icmp_ne 18 14 dX10_rank_11 rfl rfl (fun q11 => ?_) (fun q => absurd q (by decide))
    refine jr_iload_n 0 19 dX10_rank_18 rfl rfl rfl ?_
    refine jr_bipush (12) 21 dX10_rank_19 rfl rfl ?_
    refine jr_icmp_ne 28 24 dX10_rank_21 rfl rfl (fun q21 => ?_) (fun q => absurd q (by decide))
    refine jr_iload_n 0 29 dX10_rank_28 rfl rfl rfl ?_
    refine jr_bipush (13) 31 dX10_rank_29 rfl rfl ?_
    refine jr_icmp_ne 38 34 dX10_rank_31 rfl rfl (fun q31 => ?_) (fun q => absurd q (by decide))
    refine jr_iload_n 0 39 dX10_rank_38 rfl rfl rfl ?_
    refine jr_bipush (15) 41 dX10_rank_39 rfl rfl ?_
    refine jr_icmp_gt 48 44 dX10_rank_41 rfl rfl (fun q => absurd q (by decide)) (fun q41 => ?_)
    refine jr_iconst (4) 45 dX10_rank_44 rfl rfl ?_
    refine jr_goto 71 dX10_rank_45 rfl ?_
    refine jr_ireturn dX10_rank_71 rfl rfl ?_
    exact h
  · refine jr_enter (L := [some (.int (nI 15))]) (by decide) (Nat.le_of_ble_eq_true rfl) rfl ?_
    refine jr_iload_n 0 1 dX10_rank_0 rfl rfl rfl ?_
    refine jr_if_ne 8 4 dX10_rank_1 rfl rfl (fun q1 => ?_) (fun q => absurd q (by decide))
    refine jr_iload_n 0 9 dX10_rank_8 rfl rfl rfl ?_
    refine jr_bipush (11) 11 dX10_rank_9 rfl rfl ?_
    refine jr_icmp_ne 18 14 dX10_rank_11 rfl rfl (fun q11 => ?_) (fun q => absurd q (by decide))
    refine jr_iload_n 0 19 dX10_rank_18 rfl rfl rfl ?_
    refine jr_bipush (12) 21 dX10_rank_19 rfl rfl ?_
    refine jr_icmp_ne 28 24 dX10_rank_21 rfl rfl (fun q21 => ?_) (fun q => absurd q (by decide))
    refine jr_iload_n 0 29 dX10_rank_28 rfl rfl rfl ?_
    refine jr_bipush (13) 31 dX10_rank_29 rfl rfl ?_
    refine jr_icmp_ne 38 34 dX10_rank_31 rfl rfl (fun q31 => ?_) (fun q => absurd q (by decide))
    refine jr_iload_n 0 39 dX10_rank_38 rfl rfl rfl ?_
    refine jr_bipush (15) 41 dX10_rank_39 rfl rfl ?_
    refine jr_icmp_gt 48 44 dX10_rank_41 rfl rfl (fun q => absurd q (by decide)) (fun q41 => ?_)
    refine jr_iconst (4) 45 dX10_rank_44 rfl rfl ?_
    refine jr_goto 71 dX10_rank_45 rfl ?_
    refine jr_ireturn dX10_rank_71 rfl rfl ?_
    exact h
  · refine jr_enter (L := [some (.int (nI 16))]) (by decide) (Nat.le_of_ble_eq_true rfl) rfl ?_
    refine jr_iload_n 0 1 dX10_rank_0 rfl rfl rfl ?_
    refine jr_if_ne 8 4 dX10_rank_1 rfl rfl (fun q1 => ?_) (fun q => absurd q (by decide))
    refine jr_iload_n 0 9 dX10_rank_8 rfl rfl rfl ?_
    refine jr_bipush (11) 11 dX10_rank_9 rfl rfl ?_
    refine jr_icmp_ne 18 14 dX10_rank_11 rfl rfl (fun q11 => ?_) (fun q => absurd q (by decide))
    refine jr_iload_n 0 19 dX10_rank_18 rfl rfl rfl ?_
    refine jr_bipush (12) 21 dX10_rank_19 rfl rfl ?_
    refine jr_icmp_ne 28 24 dX10_rank_21 rfl rfl (fun q21 => ?_) (fun q => absurd q (by decide))
    refine jr_iload_n 0 29 dX10_rank_28 rfl rfl rfl ?_
    refine jr_bipush (13) 31 dX10_rank_29 rfl rfl ?_
    refine jr_icmp_ne 38 34 dX10_rank_31 rfl rfl (fun q31 => ?_) (fun q => absurd q (by decide))
    refine jr_iload_n 0 39 dX10_rank_38 rfl rfl rfl ?_
    refine jr_bipush (15) 41 dX10_rank_39 rfl rfl ?_
    refine jr_icmp_gt 48 44 dX10_rank_41 rfl rfl (fun q41 => ?_) (fun q => absurd (by decide) q)
    refine jr_iload_n 0 49 dX10_rank_48 rfl rfl rfl ?_
    refine jr_bipush (17) 51 dX10_rank_49 rfl rfl ?_
    refine jr_icmp_gt 58 54 dX10_rank_51 rfl rfl (fun q => absurd q (by decide)) (fun q51 => ?_)
    refine jr_iconst (5) 55 dX10_rank_54 rfl rfl ?_
    refine jr_goto 71 dX10_rank_55 rfl ?_
    refine jr_ireturn dX10_rank_71 rfl rfl ?_
    exact h
  · refine jr_enter (L := [some (.int (nI 17))]) (by decide) (Nat.le_of_ble_eq_true rfl) rfl ?_
    refine jr_iload_n 0 1 dX10_rank_0 rfl rfl rfl ?_
    refine jr_if_ne 8 4 dX10_rank_1 rfl rfl (fun q1 => ?_) (fun q => absurd q (by decide))
    refine jr_iload_n 0 9 dX10_rank_8 rfl rfl rfl ?_
    refine jr_bipush (11) 11 dX10_rank_9 rfl rfl ?_
    refine jr_icmp_ne 18 14 dX10_rank_11 rfl rfl (fun q11 => ?_) (fun q => absurd q (by decide))
    refine jr_iload_n 0 19 dX10_rank_18 rfl rfl rfl ?_
    refine jr_bipush (12) 21 dX10_rank_19 rfl rfl ?_
    refine jr_icmp_ne 28 24 dX10_rank_21 rfl rfl (fun q21 => ?_) (fun q => absurd q (by decide))
    refine jr_iload_n 0 29 dX10_rank_28 rfl rfl rfl ?_
    refine jr_bipush (13) 31 dX10_rank_29 rfl rfl ?_
    refine jr_icmp_ne 38 34 dX10_rank_31 rfl rfl (fun q31 => ?_) (fun q => absurd q (by decide))
    refine jr_iload_n 0 39 dX10_rank_38 rfl rfl rfl ?_
    refine jr_bipush (15) 41 dX10_rank_39 rfl rfl ?_
    refine jr_icmp_gt 48 44 dX10_rank_41 rfl rfl (fun q41 => ?_) (fun q => absurd (by decide) q)
    refine jr_iload_n 0 49 dX10_rank_48 rfl rfl rfl ?_
    refine jr_bipush (17) 51 dX10_rank_49 rfl rfl ?_
    refine jr_icmp_gt 58 54 dX10_rank_51 rfl rfl (fun q => absurd q (by decide)) (fun q51 => ?_)
    refine jr_iconst (5) 55 dX10_rank_54 rfl rfl ?_
    refine jr_goto 71 dX10_rank_55 rfl ?_
    refine jr_ireturn dX10_rank_71 rfl rfl ?_
    exact h
  · refine jr_enter (L := [some (.int (nI 18))]) (by decide) (Nat.le_of_ble_eq_true rfl) rfl ?_
    refine jr_iload_n 0 1 dX10_rank_0 rfl rfl rfl ?_
    refine jr_if_ne 8 4 dX10_rank_1 rfl rfl (fun q1 => ?_) (fun q => absurd q (by decide))
    refine jr_iload_n 0 9 dX10_rank_8 rfl rfl rfl ?_
    refine jr_bipush (11) 11 dX10_rank_9 rfl rfl ?_
    refine jr_icmp_ne 18 14 dX10_rank_11 rfl rfl (fun q11 => ?_) (fun q => absurd q (by decide))
    refine jr_iload_n 0 19 dX10_rank_18 rfl rfl rfl ?_
    refine jr_bipush (12) 21 dX10_rank_19 rfl rfl ?_
    refine jr_icmp_ne 28 24 dX10_rank_21 rfl rfl (fun q21 => ?_) (fun q => absurd q (by decide))
    refine jr_iload_n 0 29 dX10_rank_28 rfl rfl rfl ?_
    refine jr_bipush (13) 31 dX10_rank_29 rfl rfl ?_
    refine jr_icmp_ne 38 34 dX10_rank_31 rfl rfl (fun q31 => ?_) (fun q => absurd q (by decide))
    refine jr_iload_n 0 39 dX10_rank_38 rfl rfl rfl ?_
    refine jr_bipush (15) 41 dX10_rank_39 rfl rfl ?_
    refine jr_icmp_gt 48 44 dX10_rank_41 rfl rfl (fun q41 => ?_) (fun q => absurd (by decide) q)
    refine jr_iload_n 0 49 dX10_rank_48 rfl rfl rfl ?_
    refine jr_bipush (17) 51 dX10_rank_49 rfl rfl ?_
    refine jr_icmp_gt 58 54 dX10_rank_51 rfl rfl (fun q51 => ?_) (fun q => absurd (by decide) q)
    refine jr_iload_n 0 59 dX10_rank_58 rfl rfl rfl ?_
    refine jr_bipush (18) 61 dX10_rank_59 rfl rfl ?_
    refine jr_icmp_ne 69 64 dX10_rank_61 rfl rfl (fun q => absurd (by decide) q) (fun q61 => ?_)
    refine jr_bipush (6) 66 dX10_rank_64 rfl rfl ?_
    refine jr_goto 71 dX10_rank_66 rfl ?_
    refine jr_ireturn dX10_rank_71 rfl rfl ?_
    exact h
  · refine jr_enter (L := [some (.int (nI 19))]) (by decide) (Nat.le_of_ble_eq_true rfl) rfl ?_
    refine jr_iload_n 0 1 dX10_rank_0 rfl rfl rfl ?_
    refine jr_if_ne 8 4 dX10_rank_1 rfl rfl (fun q1 => ?_) (fun q => absurd q (by decide))
    refine jr_iload_n 0 9 dX10_rank_8 rfl rfl rfl ?_
    refine jr_bipush (11) 11 dX10_rank_9 rfl rfl ?_
    refine jr_icmp_ne 18 14 dX10_rank_11 rfl rfl (fun q11 => ?_) (fun q => absurd q (by decide))
    refine jr_iload_n 0 19 dX10_rank_18 rfl rfl rfl ?_
    refine jr_bipush (12) 21 dX10_rank_19 rfl rfl ?_
    refine jr_icmp_ne 28 24 dX10_rank_21 rfl rfl (fun q21 => ?_) (fun q => absurd q (by decide))
    refine jr_iload_n 0 29 dX10_rank_28 rfl rfl rfl ?_
    refine jr_bipush (13) 31 dX10_rank_29 rfl rfl ?_
    refine jr_icmp_ne 38 34 dX10_rank_31 rfl rfl (fun q31 => ?_) (fun q => absurd q (by decide))
    refine jr_iload_n 0 39 dX10_rank_38 rfl rfl rfl ?_
    refine jr_bipush (15) 41 dX10_rank_39 rfl rfl ?_
    refine jr_icmp_gt 48 44 dX10_rank_41 rfl rfl (fun q41 => ?_) (fun q => absurd (by decide) q)
    refine jr_iload_n 0 49 dX10_rank_48 rfl rfl rfl ?_
    refine jr_bipush (17) 51 dX10_rank_49 rfl rfl ?_
    refine jr_icmp_gt 58 54 dX10_rank_51 rfl rfl (fun q51 => ?_) (fun q => absurd (by decide) q)
    refine jr_iload_n 0 59 dX10_rank_58 rfl rfl rfl ?_
    refine jr_bipush (18) 61 dX10_rank_59 rfl rfl ?_
    refine jr_icmp_ne 69 64 dX10_rank_61 rfl rfl (fun q61 => ?_) (fun q => absurd q (by decide))
    refine jr_bipush (7) 71 dX10_rank_69 rfl rfl ?_
    refine jr_ireturn dX10_rank_71 rfl rfl ?_
    exact h
theorem wp_puts {G : jr_G} {d : Nat} {σ : jr_Sg} {k : jr_Sg → Prop} {b : Nat → Nat} {tp n : Nat} {σ0 : jr_Sg} {O : List Nat} {o : Nat} (hS : rQ b tp n σ0 σ O) (hO : O.length < 200) (h : k (jr_up (jr_up σ 54 (200 * n + O.length) (nI o)) 46 31 (nI (O.length + 1)))) : jr_M G d mi_X10_puts [.ref 46, .int (nI o)] σ (jr_kv k) := by
  have hn6 := hS.2.2.1.2
  refine jr_enter (L := [some (.ref 46), some (.int (nI o))]) (by decide) (Nat.le_of_ble_eq_true rfl) rfl ?_
  refine jr_aload_n 0 1 dX10_puts_0 rfl rfl rfl ?_
  refine gf_X10_31 4 dX10_puts_1 rfl rfl rfl rfl ?_
  refine jr_sipush (nI 200) 7 dX10_puts_4 rfl rfl ?_
  refine jr_aload_n 0 8 dX10_puts_7 rfl rfl rfl ?_
  refine gf_X10_115 11 dX10_puts_8 rfl rfl rfl rfl ?_
  refine jr_topi (y := nI n) hS.2.2.1.1 ?_
  refine jr_imul 12 dX10_puts_11 rfl ?_
  rw [pk_mul]
  refine jr_aload_n 0 13 dX10_puts_12 rfl rfl rfl ?_
  refine gf_X10_141 16 dX10_puts_13 rfl rfl rfl rfl ?_
  refine jr_topi (y := nI O.length) hS.2.2.2.2.1 ?_
  refine jr_iadd 17 dX10_puts_16 rfl ?_
  rw [nI_add]
  refine jr_iload_n 1 18 dX10_puts_17 rfl rfl rfl ?_
  refine jr_iast rfl (k := 200 * n + O.length) rfl (by omega) 19 dX10_puts_18 rfl ?_
  refine jr_aload_n 0 20 dX10_puts_19 rfl rfl rfl ?_
  refine jr_dup 21 dX10_puts_20 rfl rfl ?_
  refine gf_X10_141 24 dX10_puts_21 rfl rfl rfl rfl ?_
  refine jr_topi (y := nI O.length) hS.2.2.2.2.1 ?_
  refine jr_iconst (nI 1) 25 dX10_puts_24 rfl rfl ?_
  refine jr_iadd 26 dX10_puts_25 rfl ?_
  rw [nI_add]
  refine pf_X10_141 29 dX10_puts_26 rfl rfl rfl rfl ?_
  refine jr_return dX10_puts_29 rfl ?_
  exact h
theorem wp_rholds {G : jr_G} {d : Nat} {σ : jr_Sg} {k : jr_Sg → Prop} {s x : Nat} (hx : σ 46 29 = nI x) (h2 : x < 200) (h : k (jr_up (jr_up σ 62 x (nI s)) 46 29 (nI (x + 1)))) : jr_M G d mi_X10_holds [.ref 46, .int (nI s)] σ (jr_kv k) := by
  refine jr_enter (L := [some (.ref 46), some (.int (nI s))]) (by decide) (Nat.le_of_ble_eq_true rfl) rfl ?_
  refine jr_aload_n 0 1 dX10_holds_0 rfl rfl rfl ?_
  refine gf_X10_55 4 dX10_holds_1 rfl rfl rfl rfl ?_
  refine jr_aload_n 0 5 dX10_holds_4 rfl rfl rfl ?_
  refine gf_X10_144 8 dX10_holds_5 rfl rfl rfl rfl ?_
  refine jr_topi (y := nI x) hx ?_
  refine jr_iload_n 1 9 dX10_holds_8 rfl rfl rfl ?_
  refine jr_iast rfl rfl (by omega) 10 dX10_holds_9 rfl ?_
  refine jr_aload_n 0 11 dX10_holds_10 rfl rfl rfl ?_
  refine jr_dup 12 dX10_holds_11 rfl rfl ?_
  refine gf_X10_144 15 dX10_holds_12 rfl rfl rfl rfl ?_
  refine jr_topi (y := nI x) hx ?_
  refine jr_iconst (nI 1) 16 dX10_holds_15 rfl rfl ?_
  refine jr_iadd 17 dX10_holds_16 rfl ?_
  rw [nI_add]
  refine pf_X10_144 20 dX10_holds_17 rfl rfl rfl rfl ?_
  refine jr_return dX10_holds_20 rfl ?_
  exact h
theorem rS_hold {b : Nat → Nat} {tp n s x : Nat} {σ0 σ : jr_Sg} {H O : List Nat} {v : Int32} (hS : rS b tp n σ0 σ H O) (hx : x = H.length) (hs : s = 0 ∨ (11 ≤ s ∧ s ≤ 19)) (hv : v = nI (au_op (s :: H))) : rS b tp n σ0 (jr_up (jr_up (jr_up σ 46 30 v) 62 x (nI s)) 46 29 (nI (x + 1))) (s :: H) O := by
  subst hx
  refine ⟨rQ_fr (F := [29]) (rQ_62 (rQ_fr (F := [30]) hS.1 (fr46_up (fr46_rf _ _) (by decide)) (by decide))) (fr46_up (fr46_rf _ _) (by decide)) (by decide), rfl, ?_, ?_, hs, ?_⟩
  · show upd (upd (σ 46) 30 v) 29 (nI (H.length + 1)) 30 = _
    rw [pk_un (by decide), pk_us, hv]
  · show upd (σ 62) H.length (nI s) H.length = _
    rw [pk_us]
  · exact rH_up H hS.2.2.2 (Nat.le_refl _)
theorem uw_loop {G : jr_G} {d : Nat} {k : jr_Sg → Prop} {b : Nat → Nat} {tp n r : Nat} {σ0 : jr_Sg} (hr : 1 ≤ r) (hr7 : r ≤ 7) : ∀ (H O : List Nat) (σ : jr_Sg) (x2 : Option Value), rS b tp n σ0 σ H O → O.length + H.length ≤ 160 → (∀ σ', rS b tp n σ0 σ' (au_uw r H O).1 (au_uw r H O).2 → kp3 σ σ' → k σ') → jr_R G (d + 1) mi_X10_unwinds (jr_kv k) 0 [some (.ref 46), some (.int (nI r)), x2] [] σ := by
  intro H
  induction H with
  | nil =>
    intro O σ x2 hS hl fin
    refine jr_aload_n 0 1 dX10_unwinds_0 rfl rfl rfl ?_
    refine gf_X10_144 4 dX10_unwinds_1 rfl rfl rfl rfl ?_
    refine jr_topi (y := nI 0) hS.2.1 ?_
    refine jr_if_le 79 7 dX10_unwinds_4 rfl rfl (fun q4 => ?_) (fun q => absurd (by decide) q)
    refine jr_return dX10_unwinds_79 rfl ?_
    exact fin σ hS (kp3_rf σ)
  | cons s H ih =>
    intro O σ x2 hS hl fin
    have hl2 : O.length + (H.length + 1) ≤ 160 := hl
    have h29 : σ 46 29 = nI (H.length + 1) := hS.2.1
    obtain ⟨h62, hs, hH⟩ := hS.2.2.2
    have hk7 := au_rk_le s
    by_cases hrk : r ≤ au_rk s
    · have hu : au_uw r (s :: H) O = au_uw r H (O ++ [s]) := au_uw_c hrk
      rw [hu] at fin
      have s0 : s ≠ 0 := fun z => by
        subst z
        exact absurd hrk (by show ¬ r ≤ 0; omega)
      have hstep : ∀ v : Int32, v = nI (au_op H) → rS b tp n σ0 (jr_up (jr_up (jr_up (jr_up σ 46 29 (nI H.length)) 46 30 v) 54 (200 * n + O.length) (nI s)) 46 31 (nI (O.length + 1))) H (O ++ [s]) := fun v hv => by
        refine ⟨rQ_put (rQ_fr (F := [29, 30]) hS.1 (fr46_up (fr46_up (fr46_rf _ _) (by decide)) (by decide)) (by decide)), rfl, ?_, hH⟩
        show upd (upd (upd (σ 46) 29 (nI H.length)) 30 v) 31 (nI (O.length + 1)) 30 = _
        rw [pk_un (by decide), pk_us, hv]
      have hQ : ∀ v : Int32, rQ b tp n σ0 (jr_up (jr_up σ 46 29 (nI H.length)) 46 30 v) O := fun v => rQ_fr (F := [29, 30]) hS.1 (fr46_up (fr46_up (fr46_rf _ _) (by decide)) (by decide)) (by decide)
      have hkp : ∀ v : Int32, kp3 σ (jr_up (jr_up (jr_up (jr_up σ 46 29 (nI H.length)) 46 30 v) 54 (200 * n + O.length) (nI s)) 46 31 (nI (O.length + 1))) := fun v => ⟨rfl, rfl, rfl⟩
      have hln : (O ++ [s]).length + H.length ≤ 160 := by
        rw [List.length_append]
        show O.length + 1 + H.length ≤ 160
        omega
      by_cases s13 : s = 13
      · refine jr_aload_n 0 1 dX10_unwinds_0 rfl rfl rfl ?_
        refine gf_X10_144 4 dX10_unwinds_1 rfl rfl rfl rfl ?_
        refine jr_topi (y := nI (H.length + 1)) h29 ?_
        refine jr_if_le 79 7 dX10_unwinds_4 rfl rfl (fun z => absurd z (nI_nle (by omega) (by omega))) (fun q4 => ?_)
        refine jr_aload_n 0 8 dX10_unwinds_7 rfl rfl rfl ?_
        refine gf_X10_55 11 dX10_unwinds_8 rfl rfl rfl rfl ?_
        refine jr_aload_n 0 12 dX10_unwinds_11 rfl rfl rfl ?_
        refine gf_X10_144 15 dX10_unwinds_12 rfl rfl rfl rfl ?_
        refine jr_topi (y := nI (H.length + 1)) h29 ?_
        refine jr_iconst (nI 1) 16 dX10_unwinds_15 rfl rfl ?_
        refine jr_isub 17 dX10_unwinds_16 rfl ?_
        rw [pk_sub (by omega), Nat.add_sub_cancel]
        refine jr_iale (k := H.length) rfl rfl (by omega) h62 18 dX10_unwinds_17 rfl ?_
        refine cs_X10_147 21 dX10_unwinds_18 rfl rfl (Nat.le_of_ble_eq_true rfl) (wp_rank hs ?_)
        refine jr_iload_n 1 22 dX10_unwinds_21 rfl rfl rfl ?_
        refine jr_icmp_lt 79 25 dX10_unwinds_22 rfl rfl (fun z => absurd z (nI_nlt hrk (by omega))) (fun q22 => ?_)
        refine jr_aload_n 0 26 dX10_unwinds_25 rfl rfl rfl ?_
        refine jr_dup 27 dX10_unwinds_26 rfl rfl ?_
        refine gf_X10_144 30 dX10_unwinds_27 rfl rfl rfl rfl ?_
        refine jr_topi (y := nI (H.length + 1)) h29 ?_
        refine jr_iconst (nI 1) 31 dX10_unwinds_30 rfl rfl ?_
        refine jr_isub 32 dX10_unwinds_31 rfl ?_
        rw [pk_sub (by omega), Nat.add_sub_cancel]
        refine pf_X10_144 35 dX10_unwinds_32 rfl rfl rfl rfl ?_
        refine jr_aload_n 0 36 dX10_unwinds_35 rfl rfl rfl ?_
        refine gf_X10_55 39 dX10_unwinds_36 rfl rfl rfl rfl ?_
        refine jr_aload_n 0 40 dX10_unwinds_39 rfl rfl rfl ?_
        refine gf_X10_144 43 dX10_unwinds_40 rfl rfl rfl rfl ?_
        refine jr_iale (k := H.length) rfl rfl (by omega) h62 44 dX10_unwinds_43 rfl ?_
        refine jr_istore_n 2 (L' := [_, _, _]) 45 dX10_unwinds_44 rfl rfl (by decide) rfl ?_
        refine jr_aload_n 0 46 dX10_unwinds_45 rfl rfl rfl ?_
        refine jr_dup 47 dX10_unwinds_46 rfl rfl ?_
        refine gf_X10_151 50 dX10_unwinds_47 rfl rfl rfl rfl ?_
        refine jr_topi (y := nI (au_op (s :: H))) hS.2.2.1 ?_
        refine jr_iload_n 2 51 dX10_unwinds_50 rfl rfl rfl ?_
        refine jr_bipush (nI 13) 53 dX10_unwinds_51 rfl rfl ?_
        refine jr_icmp_eq 62 56 dX10_unwinds_53 rfl rfl (fun q53 => ?_) (fun z => absurd (by rw [s13]) z)
        refine jr_iconst (nI 1) 63 dX10_unwinds_62 rfl rfl ?_
        refine jr_goto 67 dX10_unwinds_63 rfl ?_
        refine jr_isub 68 dX10_unwinds_67 rfl ?_
        rw [show au_op (s :: H) = au_op H + 1 by subst s13; rfl, pk_sub (by omega), Nat.add_sub_cancel]
        refine pf_X10_151 71 dX10_unwinds_68 rfl rfl rfl rfl ?_
        refine jr_aload_n 0 72 dX10_unwinds_71 rfl rfl rfl ?_
        refine jr_iload_n 2 73 dX10_unwinds_72 rfl rfl rfl ?_
        refine cs_X10_154 76 dX10_unwinds_73 rfl rfl rfl (Nat.le_of_ble_eq_true rfl) (wp_puts (b := b) (tp := tp) (n := n) (σ0 := σ0) (O := O) (hQ _) (by omega) ?_)
        refine jr_goto 0 dX10_unwinds_76 rfl ?_
        exact ih (O ++ [s]) _ _ (hstep _ rfl) hln (fun σ2 h2 k2 => fin σ2 h2 (kp3_tr (hkp _) k2))
      by_cases s19 : s = 19
      · refine jr_aload_n 0 1 dX10_unwinds_0 rfl rfl rfl ?_
        refine gf_X10_144 4 dX10_unwinds_1 rfl rfl rfl rfl ?_
        refine jr_topi (y := nI (H.length + 1)) h29 ?_
        refine jr_if_le 79 7 dX10_unwinds_4 rfl rfl (fun z => absurd z (nI_nle (by omega) (by omega))) (fun q4 => ?_)
        refine jr_aload_n 0 8 dX10_unwinds_7 rfl rfl rfl ?_
        refine gf_X10_55 11 dX10_unwinds_8 rfl rfl rfl rfl ?_
        refine jr_aload_n 0 12 dX10_unwinds_11 rfl rfl rfl ?_
        refine gf_X10_144 15 dX10_unwinds_12 rfl rfl rfl rfl ?_
        refine jr_topi (y := nI (H.length + 1)) h29 ?_
        refine jr_iconst (nI 1) 16 dX10_unwinds_15 rfl rfl ?_
        refine jr_isub 17 dX10_unwinds_16 rfl ?_
        rw [pk_sub (by omega), Nat.add_sub_cancel]
        refine jr_iale (k := H.length) rfl rfl (by omega) h62 18 dX10_unwinds_17 rfl ?_
        refine cs_X10_147 21 dX10_unwinds_18 rfl rfl (Nat.le_of_ble_eq_true rfl) (wp_rank hs ?_)
        refine jr_iload_n 1 22 dX10_unwinds_21 rfl rfl rfl ?_
        refine jr_icmp_lt 79 25 dX10_unwinds_22 rfl rfl (fun z => absurd z (nI_nlt hrk (by omega))) (fun q22 => ?_)
        refine jr_aload_n 0 26 dX10_unwinds_25 rfl rfl rfl ?_
        refine jr_dup 27 dX10_unwinds_26 rfl rfl ?_
        refine gf_X10_144 30 dX10_unwinds_27 rfl rfl rfl rfl ?_
        refine jr_topi (y := nI (H.length + 1)) h29 ?_
        refine jr_iconst (nI 1) 31 dX10_unwinds_30 rfl rfl ?_
        refine jr_isub 32 dX10_unwinds_31 rfl ?_
        rw [pk_sub (by omega), Nat.add_sub_cancel]
        refine pf_X10_144 35 dX10_unwinds_32 rfl rfl rfl rfl ?_
        refine jr_aload_n 0 36 dX10_unwinds_35 rfl rfl rfl ?_
        refine gf_X10_55 39 dX10_unwinds_36 rfl rfl rfl rfl ?_
        refine jr_aload_n 0 40 dX10_unwinds_39 rfl rfl rfl ?_
        refine gf_X10_144 43 dX10_unwinds_40 rfl rfl rfl rfl ?_
        refine jr_iale (k := H.length) rfl rfl (by omega) h62 44 dX10_unwinds_43 rfl ?_
        refine jr_istore_n 2 (L' := [_, _, _]) 45 dX10_unwinds_44 rfl rfl (by decide) rfl ?_
        refine jr_aload_n 0 46 dX10_unwinds_45 rfl rfl rfl ?_
        refine jr_dup 47 dX10_unwinds_46 rfl rfl ?_
        refine gf_X10_151 50 dX10_unwinds_47 rfl rfl rfl rfl ?_
        refine jr_topi (y := nI (au_op (s :: H))) hS.2.2.1 ?_
        refine jr_iload_n 2 51 dX10_unwinds_50 rfl rfl rfl ?_
        refine jr_bipush (nI 13) 53 dX10_unwinds_51 rfl rfl ?_
        refine jr_icmp_eq 62 56 dX10_unwinds_53 rfl rfl (fun z => absurd ((nI_eq (by omega) (by decide)).mp z) s13) (fun q53 => ?_)
        refine jr_iload_n 2 57 dX10_unwinds_56 rfl rfl rfl ?_
        refine jr_bipush (nI 19) 59 dX10_unwinds_57 rfl rfl ?_
        refine jr_icmp_ne 66 62 dX10_unwinds_59 rfl rfl (fun z => absurd (by rw [s19]) z) (fun q59 => ?_)
        refine jr_iconst (nI 1) 63 dX10_unwinds_62 rfl rfl ?_
        refine jr_goto 67 dX10_unwinds_63 rfl ?_
        refine jr_isub 68 dX10_unwinds_67 rfl ?_
        rw [show au_op (s :: H) = au_op H + 1 by subst s19; rfl, pk_sub (by omega), Nat.add_sub_cancel]
        refine pf_X10_151 71 dX10_unwinds_68 rfl rfl rfl rfl ?_
        refine jr_aload_n 0 72 dX10_unwinds_71 rfl rfl rfl ?_
        refine jr_iload_n 2 73 dX10_unwinds_72 rfl rfl rfl ?_
        refine cs_X10_154 76 dX10_unwinds_73 rfl rfl rfl (Nat.le_of_ble_eq_true rfl) (wp_puts (b := b) (tp := tp) (n := n) (σ0 := σ0) (O := O) (hQ _) (by omega) ?_)
        refine jr_goto 0 dX10_unwinds_76 rfl ?_
        exact ih (O ++ [s]) _ _ (hstep _ rfl) hln (fun σ2 h2 k2 => fin σ2 h2 (kp3_tr (hkp _) k2))
      · refine jr_aload_n 0 1 dX10_unwinds_0 rfl rfl rfl ?_
        refine gf_X10_144 4 dX10_unwinds_1 rfl rfl rfl rfl ?_
        refine jr_topi (y := nI (H.length + 1)) h29 ?_
        refine jr_if_le 79 7 dX10_unwinds_4 rfl rfl (fun z => absurd z (nI_nle (by omega) (by omega))) (fun q4 => ?_)
        refine jr_aload_n 0 8 dX10_unwinds_7 rfl rfl rfl ?_
        refine gf_X10_55 11 dX10_unwinds_8 rfl rfl rfl rfl ?_
        refine jr_aload_n 0 12 dX10_unwinds_11 rfl rfl rfl ?_
        refine gf_X10_144 15 dX10_unwinds_12 rfl rfl rfl rfl ?_
        refine jr_topi (y := nI (H.length + 1)) h29 ?_
        refine jr_iconst (nI 1) 16 dX10_unwinds_15 rfl rfl ?_
        refine jr_isub 17 dX10_unwinds_16 rfl ?_
        rw [pk_sub (by omega), Nat.add_sub_cancel]
        refine jr_iale (k := H.length) rfl rfl (by omega) h62 18 dX10_unwinds_17 rfl ?_
        refine cs_X10_147 21 dX10_unwinds_18 rfl rfl (Nat.le_of_ble_eq_true rfl) (wp_rank hs ?_)
        refine jr_iload_n 1 22 dX10_unwinds_21 rfl rfl rfl ?_
        refine jr_icmp_lt 79 25 dX10_unwinds_22 rfl rfl (fun z => absurd z (nI_nlt hrk (by omega))) (fun q22 => ?_)
        refine jr_aload_n 0 26 dX10_unwinds_25 rfl rfl rfl ?_
        refine jr_dup 27 dX10_unwinds_26 rfl rfl ?_
        refine gf_X10_144 30 dX10_unwinds_27 rfl rfl rfl rfl ?_
        refine jr_topi (y := nI (H.length + 1)) h29 ?_
        refine jr_iconst (nI 1) 31 dX10_unwinds_30 rfl rfl ?_
        refine jr_isub 32 dX10_unwinds_31 rfl ?_
        rw [pk_sub (by omega), Nat.add_sub_cancel]
        refine pf_X10_144 35 dX10_unwinds_32 rfl rfl rfl rfl ?_
        refine jr_aload_n 0 36 dX10_unwinds_35 rfl rfl rfl ?_
        refine gf_X10_55 39 dX10_unwinds_36 rfl rfl rfl rfl ?_
        refine jr_aload_n 0 40 dX10_unwinds_39 rfl rfl rfl ?_
        refine gf_X10_144 43 dX10_unwinds_40 rfl rfl rfl rfl ?_
        refine jr_iale (k := H.length) rfl rfl (by omega) h62 44 dX10_unwinds_43 rfl ?_
        refine jr_istore_n 2 (L' := [_, _, _]) 45 dX10_unwinds_44 rfl rfl (by decide) rfl ?_
        refine jr_aload_n 0 46 dX10_unwinds_45 rfl rfl rfl ?_
        refine jr_dup 47 dX10_unwinds_46 rfl rfl ?_
        refine gf_X10_151 50 dX10_unwinds_47 rfl rfl rfl rfl ?_
        refine jr_topi (y := nI (au_op (s :: H))) hS.2.2.1 ?_
        refine jr_iload_n 2 51 dX10_unwinds_50 rfl rfl rfl ?_
        refine jr_bipush (nI 13) 53 dX10_unwinds_51 rfl rfl ?_
        refine jr_icmp_eq 62 56 dX10_unwinds_53 rfl rfl (fun z => absurd ((nI_eq (by omega) (by decide)).mp z) s13) (fun q53 => ?_)
        refine jr_iload_n 2 57 dX10_unwinds_56 rfl rfl rfl ?_
        refine jr_bipush (nI 19) 59 dX10_unwinds_57 rfl rfl ?_
        refine jr_icmp_ne 66 62 dX10_unwinds_59 rfl rfl (fun q59 => ?_) (fun z => absurd ((nI_eq (by omega) (by decide)).mp z) s19)
        refine jr_iconst (nI 0) 67 dX10_unwinds_66 rfl rfl ?_
        refine jr_isub 68 dX10_unwinds_67 rfl ?_
        rw [au_op_c H s0 s13 s19, pk_sub (by omega), Nat.sub_zero]
        refine pf_X10_151 71 dX10_unwinds_68 rfl rfl rfl rfl ?_
        refine jr_aload_n 0 72 dX10_unwinds_71 rfl rfl rfl ?_
        refine jr_iload_n 2 73 dX10_unwinds_72 rfl rfl rfl ?_
        refine cs_X10_154 76 dX10_unwinds_73 rfl rfl rfl (Nat.le_of_ble_eq_true rfl) (wp_puts (b := b) (tp := tp) (n := n) (σ0 := σ0) (O := O) (hQ _) (by omega) ?_)
        refine jr_goto 0 dX10_unwinds_76 rfl ?_
        exact ih (O ++ [s]) _ _ (hstep _ rfl) hln (fun σ2 h2 k2 => fin σ2 h2 (kp3_tr (hkp _) k2))
    · refine jr_aload_n 0 1 dX10_unwinds_0 rfl rfl rfl ?_
      refine gf_X10_144 4 dX10_unwinds_1 rfl rfl rfl rfl ?_
      refine jr_topi (y := nI (H.length + 1)) h29 ?_
      refine jr_if_le 79 7 dX10_unwinds_4 rfl rfl (fun z => absurd z (nI_nle (by omega) (by omega))) (fun q4 => ?_)
      refine jr_aload_n 0 8 dX10_unwinds_7 rfl rfl rfl ?_
      refine gf_X10_55 11 dX10_unwinds_8 rfl rfl rfl rfl ?_
      refine jr_aload_n 0 12 dX10_unwinds_11 rfl rfl rfl ?_
      refine gf_X10_144 15 dX10_unwinds_12 rfl rfl rfl rfl ?_
      refine jr_topi (y := nI (H.length + 1)) h29 ?_
      refine jr_iconst (nI 1) 16 dX10_unwinds_15 rfl rfl ?_
      refine jr_isub 17 dX10_unwinds_16 rfl ?_
      rw [pk_sub (by omega), Nat.add_sub_cancel]
      refine jr_iale (k := H.length) rfl rfl (by omega) h62 18 dX10_unwinds_17 rfl ?_
      refine cs_X10_147 21 dX10_unwinds_18 rfl rfl (Nat.le_of_ble_eq_true rfl) (wp_rank hs ?_)
      refine jr_iload_n 1 22 dX10_unwinds_21 rfl rfl rfl ?_
      refine jr_icmp_lt 79 25 dX10_unwinds_22 rfl rfl (fun q22 => ?_) (fun z => absurd (nI_lt (by omega) (by omega)) z)
      refine jr_return dX10_unwinds_79 rfl ?_
      exact fin σ (by rw [au_uw, if_neg hrk]; exact hS) (kp3_rf σ)
theorem wp_unwinds {G : jr_G} {d : Nat} {σ : jr_Sg} {k : jr_Sg → Prop} {b : Nat → Nat} {tp n : Nat} {σ0 : jr_Sg} {H O : List Nat} {r : Nat} (hr : 1 ≤ r) (hr7 : r ≤ 7) (hS : rS b tp n σ0 σ H O) (hl : O.length + H.length ≤ 160) (fin : ∀ σ', rS b tp n σ0 σ' (au_uw r H O).1 (au_uw r H O).2 → kp3 σ σ' → k σ') : jr_M G (d + 1) mi_X10_unwinds [.ref 46, .int (nI r)] σ (jr_kv k) := by
  refine jr_enter (L := [some (.ref 46), some (.int (nI r)), none]) (by decide) (Nat.le_of_ble_eq_true rfl) rfl ?_
  exact uw_loop hr hr7 H O σ none hS hl fin
theorem wp_opens5 {G : jr_G} {d : Nat} {σ : jr_Sg} {k : Value → jr_Sg → Prop} {b : Nat → Nat} {tp n : Nat} {σ0 : jr_Sg} {H O : List Nat} {s : Nat} (hS : rS b tp n σ0 σ H O) (h5 : au_op H = 5) (h : k (.int 0) σ) : jr_M G (d + 1) mi_X10_opensOne [.ref 46, .int (nI s)] σ (jr_k k) := by
  refine jr_enter (L := [some (.ref 46), some (.int (nI s))]) (by decide) (Nat.le_of_ble_eq_true rfl) rfl ?_
  refine jr_aload_n 0 1 dX10_opensOne_0 rfl rfl rfl ?_
  refine gf_X10_151 4 dX10_opensOne_1 rfl rfl rfl rfl ?_
  refine jr_topi (y := nI 5) (hS.2.2.1.trans (by rw [h5])) ?_
  refine jr_iconst (nI 5) 5 dX10_opensOne_4 rfl rfl ?_
  refine jr_icmp_ne 10 8 dX10_opensOne_5 rfl rfl (fun q => absurd (by decide) q) (fun q5 => ?_)
  refine jr_iconst (0) 9 dX10_opensOne_8 rfl rfl ?_
  refine jr_ireturn dX10_opensOne_9 rfl rfl ?_
  exact h
theorem wp_opens {G : jr_G} {d : Nat} {σ : jr_Sg} {k : Value → jr_Sg → Prop} {b : Nat → Nat} {tp n : Nat} {σ0 : jr_Sg} {H O : List Nat} {s : Nat} (hS : rS b tp n σ0 σ H O) (h5 : au_op H ≠ 5) (ho : au_op H ≤ 5) (hl : H.length < 200) (hs : s = 0 ∨ s = 13 ∨ s = 19) (fin : ∀ σ', rS b tp n σ0 σ' (s :: H) O → kp3 σ σ' → k (.int 1) σ') : jr_M G (d + 1) mi_X10_opensOne [.ref 46, .int (nI s)] σ (jr_k k) := by
  have eo : au_op (s :: H) = au_op H + 1 := by rcases hs with rfl | rfl | rfl <;> rfl
  refine jr_enter (L := [some (.ref 46), some (.int (nI s))]) (by decide) (Nat.le_of_ble_eq_true rfl) rfl ?_
  refine jr_aload_n 0 1 dX10_opensOne_0 rfl rfl rfl ?_
  refine gf_X10_151 4 dX10_opensOne_1 rfl rfl rfl rfl ?_
  refine jr_topi (y := nI (au_op H)) hS.2.2.1 ?_
  refine jr_iconst (nI 5) 5 dX10_opensOne_4 rfl rfl ?_
  refine jr_icmp_ne 10 8 dX10_opensOne_5 rfl rfl (fun q5 => ?_) (fun z => absurd ((nI_eq (by omega) (by decide)).mp z) h5)
  refine jr_aload_n 0 11 dX10_opensOne_10 rfl rfl rfl ?_
  refine jr_dup 12 dX10_opensOne_11 rfl rfl ?_
  refine gf_X10_151 15 dX10_opensOne_12 rfl rfl rfl rfl ?_
  refine jr_topi (y := nI (au_op H)) hS.2.2.1 ?_
  refine jr_iconst (nI 1) 16 dX10_opensOne_15 rfl rfl ?_
  refine jr_iadd 17 dX10_opensOne_16 rfl ?_
  rw [nI_add, ← eo]
  refine pf_X10_151 20 dX10_opensOne_17 rfl rfl rfl rfl ?_
  refine jr_aload_n 0 21 dX10_opensOne_20 rfl rfl rfl ?_
  refine jr_iload_n 1 22 dX10_opensOne_21 rfl rfl rfl ?_
  refine cs_X10_158 25 dX10_opensOne_22 rfl rfl rfl (Nat.le_of_ble_eq_true rfl) (wp_rholds (x := H.length) ((up46 (by decide)).trans hS.2.1) hl ?_)
  refine jr_iconst (1) 26 dX10_opensOne_25 rfl rfl ?_
  refine jr_ireturn dX10_opensOne_26 rfl rfl ?_
  exact fin _ (rS_hold hS rfl (by omega) rfl) ⟨rfl, rfl, rfl⟩
theorem au_uw_hd {r s : Nat} : ∀ (H O : List Nat) {H' O' : List Nat}, au_uw r H O = (s :: H', O') → au_rk s < r
  | [], O, H', O', h => by cases h
  | s2 :: H, O, H', O', h => by
    by_cases z : r ≤ au_rk s2
    · rw [au_uw_c z] at h
      exact au_uw_hd H _ h
    · rw [au_uw, if_neg z] at h
      have e : s2 = s := by
        have := congrArg Prod.fst h
        exact (List.cons.inj this).1
      rw [← e]
      omega
theorem rS_push {b : Nat → Nat} {tp n s x : Nat} {σ0 σ : jr_Sg} {H O : List Nat} (hS : rS b tp n σ0 σ H O) (hx : x = H.length) (hs : 11 ≤ s ∧ s ≤ 19 ∧ s ≠ 13 ∧ s ≠ 19) : rS b tp n σ0 (jr_up (jr_up σ 62 x (nI s)) 46 29 (nI (x + 1))) (s :: H) O := by
  subst hx
  refine ⟨rQ_fr (F := [29]) (rQ_62 hS.1) (fr46_up (fr46_rf _ _) (by decide)) (by decide), rfl, ?_, ?_, Or.inr ⟨hs.1, hs.2.1⟩, ?_⟩
  · rw [au_op_c H (by omega) hs.2.2.1 hs.2.2.2]
    exact hS.2.2.1
  · show upd (σ 62) H.length (nI s) H.length = _
    rw [pk_us]
  · exact rH_up H hS.2.2.2 (Nat.le_refl _)
theorem wp_btw {G : jr_G} {d : Nat} {σ : jr_Sg} {k : Value → jr_Sg → Prop} {b : Nat → Nat} {tp n : Nat} {σ0 : jr_Sg} {H O : List Nat} {s : Nat} (hs : 11 ≤ s ∧ s ≤ 19 ∧ s ≠ 13 ∧ s ≠ 19) (hS : rS b tp n σ0 σ H O) (hl : O.length + H.length ≤ 160) (h4 : au_rk s ≠ 4) (fin : ∀ σ', rS b tp n σ0 σ' (s :: (au_uw (au_rk s) H O).1) (au_uw (au_rk s) H O).2 → kp3 σ σ' → k (.int 1) σ') : jr_M G (d + 2) mi_X10_between [.ref 46, .int (nI s)] σ (jr_k k) := by
  have hk7 := au_rk_le s
  have hk1 : 1 ≤ au_rk s := by
    obtain ⟨h1, h2, h3, h4⟩ := hs
    rcases (by omega : s = 11 ∨ s = 12 ∨ s = 14 ∨ s = 15 ∨ s = 16 ∨ s = 17 ∨ s = 18) with rfl | rfl | rfl | rfl | rfl | rfl | rfl <;> decide
  have hln := au_uw_len (au_rk s) H O
  refine jr_enter (L := [some (.ref 46), some (.int (nI s))]) (by decide) (Nat.le_of_ble_eq_true rfl) rfl ?_
  refine jr_aload_n 0 1 dX10_between_0 rfl rfl rfl ?_
  refine jr_iload_n 1 2 dX10_between_1 rfl rfl rfl ?_
  refine cs_X10_147 5 dX10_between_2 rfl rfl (Nat.le_of_ble_eq_true rfl) (wp_rank (by omega) ?_)
  refine jr_iconst (nI 4) 6 dX10_between_5 rfl rfl ?_
  refine jr_icmp_ne 13 9 dX10_between_6 rfl rfl (fun q6 => ?_) (fun z => absurd ((nI_eq (by omega) (by decide)).mp z) h4)
  refine jr_iload_n 1 14 dX10_between_13 rfl rfl rfl ?_
  refine cs_X10_147 17 dX10_between_14 rfl rfl (Nat.le_of_ble_eq_true rfl) (wp_rank (by omega) ?_)
  refine cs_X10_161 20 dX10_between_17 rfl rfl rfl (Nat.le_of_ble_eq_true rfl) (wp_unwinds hk1 hk7 hS hl (fun σ1 h1 k1 => ?_))
  refine jr_iload_n 1 21 dX10_between_20 rfl rfl rfl ?_
  refine cs_X10_147 24 dX10_between_21 rfl rfl (Nat.le_of_ble_eq_true rfl) (wp_rank (by omega) ?_)
  refine jr_iconst (nI 4) 25 dX10_between_24 rfl rfl ?_
  refine jr_icmp_ne 55 28 dX10_between_25 rfl rfl (fun q25 => ?_) (fun z => absurd ((nI_eq (by omega) (by decide)).mp z) h4)
  refine jr_aload_n 0 56 dX10_between_55 rfl rfl rfl ?_
  refine jr_iload_n 1 57 dX10_between_56 rfl rfl rfl ?_
  refine cs_X10_158 60 dX10_between_57 rfl rfl rfl (Nat.le_of_ble_eq_true rfl) (wp_rholds (x := (au_uw (au_rk s) H O).1.length) h1.2.1 (by omega) ?_)
  refine jr_iconst (1) 61 dX10_between_60 rfl rfl ?_
  refine jr_ireturn dX10_between_61 rfl rfl ?_
  exact fin _ (rS_push h1 rfl hs) (kp3_tr k1 ⟨rfl, rfl, rfl⟩)
theorem wp_btw4 {G : jr_G} {d : Nat} {σ : jr_Sg} {k : Value → jr_Sg → Prop} {b : Nat → Nat} {tp n : Nat} {σ0 : jr_Sg} {H O : List Nat} {s : Nat} (hs : s = 14 ∨ s = 15) (hS : rS b tp n σ0 σ H O) (hl : O.length + H.length ≤ 160) (fin : au_t4 (au_uw 5 H O).1 = false → ∀ σ', rS b tp n σ0 σ' (s :: (au_uw 5 H O).1) (au_uw 5 H O).2 → kp3 σ σ' → k (.int 1) σ') (fin0 : au_t4 (au_uw 5 H O).1 = true → ∀ σ', rS b tp n σ0 σ' (au_uw 5 H O).1 (au_uw 5 H O).2 → kp3 σ σ' → k (.int 0) σ') : jr_M G (d + 2) mi_X10_between [.ref 46, .int (nI s)] σ (jr_k k) := by
  have hk4 : au_rk s = 4 := by rcases hs with rfl | rfl <;> rfl
  have hln := au_uw_len 5 H O
  refine jr_enter (L := [some (.ref 46), some (.int (nI s))]) (by decide) (Nat.le_of_ble_eq_true rfl) rfl ?_
  refine jr_aload_n 0 1 dX10_between_0 rfl rfl rfl ?_
  refine jr_iload_n 1 2 dX10_between_1 rfl rfl rfl ?_
  refine cs_X10_147 5 dX10_between_2 rfl rfl (Nat.le_of_ble_eq_true rfl) (wp_rank (by omega) ?_)
  refine jr_iconst (nI 4) 6 dX10_between_5 rfl rfl ?_
  refine jr_icmp_ne 13 9 dX10_between_6 rfl rfl (fun z => absurd (by rw [hk4]) z) (fun q6 => ?_)
  refine jr_iconst (nI 5) 10 dX10_between_9 rfl rfl ?_
  refine jr_goto 17 dX10_between_10 rfl ?_
  refine cs_X10_161 20 dX10_between_17 rfl rfl rfl (Nat.le_of_ble_eq_true rfl) (wp_unwinds (by decide) (by decide) hS hl (fun σ1 h1 k1 => ?_))
  refine jr_iload_n 1 21 dX10_between_20 rfl rfl rfl ?_
  refine cs_X10_147 24 dX10_between_21 rfl rfl (Nat.le_of_ble_eq_true rfl) (wp_rank (by omega) ?_)
  refine jr_iconst (nI 4) 25 dX10_between_24 rfl rfl ?_
  refine jr_icmp_ne 55 28 dX10_between_25 rfl rfl (fun z => absurd (by rw [hk4]) z) (fun q25 => ?_)
  revert fin fin0 h1 hln
  generalize au_uw 5 H O = u
  obtain ⟨H1, O1⟩ := u
  intro fin fin0 hln h1
  simp only at hln
  cases H1 with
  | nil =>
    refine jr_aload_n 0 29 dX10_between_28 rfl rfl rfl ?_
    refine gf_X10_144 32 dX10_between_29 rfl rfl rfl rfl ?_
    refine jr_topi (y := nI 0) h1.2.1 ?_
    refine jr_if_le 55 35 dX10_between_32 rfl rfl (fun q32 => ?_) (fun q => absurd (by decide) q)
    refine jr_aload_n 0 56 dX10_between_55 rfl rfl rfl ?_
    refine jr_iload_n 1 57 dX10_between_56 rfl rfl rfl ?_
    refine cs_X10_158 60 dX10_between_57 rfl rfl rfl (Nat.le_of_ble_eq_true rfl) (wp_rholds (x := 0) h1.2.1 (by decide) ?_)
    refine jr_iconst (1) 61 dX10_between_60 rfl rfl ?_
    refine jr_ireturn dX10_between_61 rfl rfl ?_
    exact fin rfl _ (rS_push h1 rfl (by omega)) (kp3_tr k1 ⟨rfl, rfl, rfl⟩)
  | cons s1 H1 =>
    simp only [List.length_cons] at hln
    obtain ⟨g1, g2, -⟩ := h1.2.2.2
    have hk7 := au_rk_le s1
    by_cases r4 : au_rk s1 = 4
    · refine jr_aload_n 0 29 dX10_between_28 rfl rfl rfl ?_
      refine gf_X10_144 32 dX10_between_29 rfl rfl rfl rfl ?_
      refine jr_topi (y := nI (H1.length + 1)) h1.2.1 ?_
      refine jr_if_le 55 35 dX10_between_32 rfl rfl (fun z => absurd z (nI_nle (by omega) (by omega))) (fun q32 => ?_)
      refine jr_aload_n 0 36 dX10_between_35 rfl rfl rfl ?_
      refine gf_X10_55 39 dX10_between_36 rfl rfl rfl rfl ?_
      refine jr_aload_n 0 40 dX10_between_39 rfl rfl rfl ?_
      refine gf_X10_144 43 dX10_between_40 rfl rfl rfl rfl ?_
      refine jr_topi (y := nI (H1.length + 1)) h1.2.1 ?_
      refine jr_iconst (nI 1) 44 dX10_between_43 rfl rfl ?_
      refine jr_isub 45 dX10_between_44 rfl ?_
      rw [pk_sub (by omega), Nat.add_sub_cancel]
      refine jr_iale (k := H1.length) rfl rfl (by omega) g1 46 dX10_between_45 rfl ?_
      refine cs_X10_147 49 dX10_between_46 rfl rfl (Nat.le_of_ble_eq_true rfl) (wp_rank g2 ?_)
      refine jr_iconst (nI 4) 50 dX10_between_49 rfl rfl ?_
      refine jr_icmp_ne 55 53 dX10_between_50 rfl rfl (fun z => absurd (by rw [r4]) z) (fun q50 => ?_)
      refine jr_iconst (0) 54 dX10_between_53 rfl rfl ?_
      refine jr_ireturn dX10_between_54 rfl rfl ?_
      exact fin0 (by show (au_rk s1 == 4) = true; rw [r4]; rfl) _ h1 k1
    · refine jr_aload_n 0 29 dX10_between_28 rfl rfl rfl ?_
      refine gf_X10_144 32 dX10_between_29 rfl rfl rfl rfl ?_
      refine jr_topi (y := nI (H1.length + 1)) h1.2.1 ?_
      refine jr_if_le 55 35 dX10_between_32 rfl rfl (fun z => absurd z (nI_nle (by omega) (by omega))) (fun q32 => ?_)
      refine jr_aload_n 0 36 dX10_between_35 rfl rfl rfl ?_
      refine gf_X10_55 39 dX10_between_36 rfl rfl rfl rfl ?_
      refine jr_aload_n 0 40 dX10_between_39 rfl rfl rfl ?_
      refine gf_X10_144 43 dX10_between_40 rfl rfl rfl rfl ?_
      refine jr_topi (y := nI (H1.length + 1)) h1.2.1 ?_
      refine jr_iconst (nI 1) 44 dX10_between_43 rfl rfl ?_
      refine jr_isub 45 dX10_between_44 rfl ?_
      rw [pk_sub (by omega), Nat.add_sub_cancel]
      refine jr_iale (k := H1.length) rfl rfl (by omega) g1 46 dX10_between_45 rfl ?_
      refine cs_X10_147 49 dX10_between_46 rfl rfl (Nat.le_of_ble_eq_true rfl) (wp_rank g2 ?_)
      refine jr_iconst (nI 4) 50 dX10_between_49 rfl rfl ?_
      refine jr_icmp_ne 55 53 dX10_between_50 rfl rfl (fun q50 => ?_) (fun z => absurd ((nI_eq (by omega) (by decide)).mp z) r4)
      refine jr_aload_n 0 56 dX10_between_55 rfl rfl rfl ?_
      refine jr_iload_n 1 57 dX10_between_56 rfl rfl rfl ?_
      refine cs_X10_158 60 dX10_between_57 rfl rfl rfl (Nat.le_of_ble_eq_true rfl) (wp_rholds (x := H1.length + 1) h1.2.1 (by omega) ?_)
      refine jr_iconst (1) 61 dX10_between_60 rfl rfl ?_
      refine jr_ireturn dX10_between_61 rfl rfl ?_
      exact fin (by show (au_rk s1 == 4) = false; simpa using r4) _ (rS_push h1 rfl (by omega)) (kp3_tr k1 ⟨rfl, rfl, rfl⟩)
theorem wp_signOf {G : jr_G} {d : Nat} {σ : jr_Sg} {k : Value → jr_Sg → Prop} {t : Nat} (h3 : σ 46 25 = rtk t) (h1 : 1 ≤ t) (h24 : t ≤ 24) (h : k (.int (if au_sg t = 0 then -1 else nI (au_sg t))) σ) : jr_M G d mi_X10_signOf [.ref 46] σ (jr_k k) := by
  rcases (by omega : t = 1 ∨ t = 2 ∨ t = 3 ∨ t = 4 ∨ t = 5 ∨ t = 6 ∨ t = 7 ∨ t = 8 ∨ t = 9 ∨ t = 10 ∨ t = 11 ∨ t = 12 ∨ t = 13 ∨ t = 14 ∨ t = 15 ∨ t = 16 ∨ t = 17 ∨ t = 18 ∨ t = 19 ∨ t = 20 ∨ t = 21 ∨ t = 22 ∨ t = 23 ∨ t = 24) with rfl | rfl | rfl | rfl | rfl | rfl | rfl | rfl | rfl | rfl | rfl | rfl | rfl | rfl | rfl | rfl | rfl | rfl | rfl | rfl | rfl | rfl | rfl | rfl
  · refine jr_enter (L := [some (.ref 46)]) (by decide) (Nat.le_of_ble_eq_true rfl) rfl ?_
    refine jr_aload_n 0 1 dX10_signOf_0 rfl rfl rfl ?_
    refine gf_X10_131 4 dX10_signOf_1 rfl rfl rfl rfl ?_
    refine jr_topi (y := (2 : Int32)) h3 ?_
    refine jr_iconst (4) 5 dX10_signOf_4 rfl rfl ?_
    refine jr_icmp_ne 13 8 dX10_signOf_5 rfl rfl (fun q5 => ?_) (fun q => absurd q (by decide))
    refine jr_aload_n 0 14 dX10_signOf_13 rfl rfl rfl ?_
    refine gf_X10_131 17 dX10_signOf_14 rfl rfl rfl rfl ?_
    refine jr_topi (y := (2 : Int32)) h3 ?_
    refine jr_iconst (5) 18 dX10_signOf_17 rfl rfl ?_
    refine jr_icmp_ne 26 21 dX10_signOf_18 rfl rfl (fun q18 => ?_) (fun q => absurd q (by decide))
    refine jr_aload_n 0 27 dX10_signOf_26 rfl rfl rfl ?_
    refine gf_X10_131 30 dX10_signOf_27 rfl rfl rfl rfl ?_
    refine jr_topi (y := (2 : Int32)) h3 ?_
    refine jr_bipush (60) 32 dX10_signOf_30 rfl rfl ?_
    refine jr_icmp_ne 40 35 dX10_signOf_32 rfl rfl (fun q32 => ?_) (fun q => absurd q (by decide))
    refine jr_aload_n 0 41 dX10_signOf_40 rfl rfl rfl ?_
    refine gf_X10_131 44 dX10_signOf_41 rfl rfl rfl rfl ?_
    refine jr_topi (y := (2 : Int32)) h3 ?_
    refine jr_bipush (61) 46 dX10_signOf_44 rfl rfl ?_
    refine jr_icmp_ne 54 49 dX10_signOf_46 rfl rfl (fun q46 => ?_) (fun q => absurd q (by decide))
    refine jr_aload_n 0 55 dX10_signOf_54 rfl rfl rfl ?_
    refine gf_X10_131 58 dX10_signOf_55 rfl rfl rfl rfl ?_
    refine jr_topi (y := (2 : Int32)) h3 ?_
    refine jr_bipush (43) 60 dX10_signOf_58 rfl rfl ?_
    refine jr_icmp_ne 68 63 dX10_signOf_60 rfl rfl (fun q60 => ?_) (fun q => absurd q (by decide))
    refine jr_aload_n 0 69 dX10_signOf_68 rfl rfl rfl ?_
    refine gf_X10_131 72 dX10_signOf_69 rfl rfl rfl rfl ?_
    refine jr_topi (y := (2 : Int32)) h3 ?_
    refine jr_bipush (45) 74 dX10_signOf_72 rfl rfl ?_
    refine jr_icmp_ne 82 77 dX10_signOf_74 rfl rfl (fun q74 => ?_) (fun q => absurd q (by decide))
    refine jr_aload_n 0 83 dX10_signOf_82 rfl rfl rfl ?_
    refine gf_X10_131 86 dX10_signOf_83 rfl rfl rfl rfl ?_
    refine jr_topi (y := (2 : Int32)) h3 ?_
    refine jr_bipush (42) 88 dX10_signOf_86 rfl rfl ?_
    refine jr_icmp_ne 96 91 dX10_signOf_88 rfl rfl (fun q88 => ?_) (fun q => absurd q (by decide))
    refine jr_iconst ((-1)) 97 dX10_signOf_96 rfl rfl ?_
    refine jr_ireturn dX10_signOf_97 rfl rfl ?_
    exact h
  · refine jr_enter (L := [some (.ref 46)]) (by decide) (Nat.le_of_ble_eq_true rfl) rfl ?_
    refine jr_aload_n 0 1 dX10_signOf_0 rfl rfl rfl ?_
    refine gf_X10_131 4 dX10_signOf_1 rfl rfl rfl rfl ?_
    refine jr_topi (y := (2 : Int32)) h3 ?_
    refine jr_iconst (4) 5 dX10_signOf_4 rfl rfl ?_
    refine jr_icmp_ne 13 8 dX10_signOf_5 rfl rfl (fun q5 => ?_) (fun q => absurd q (by decide))
    refine jr_aload_n 0 14 dX10_signOf_13 rfl rfl rfl ?_
    refine gf_X10_131 17 dX10_signOf_14 rfl rfl rfl rfl ?_
    refine jr_topi (y := (2 : Int32)) h3 ?_
    refine jr_iconst (5) 18 dX10_signOf_17 rfl rfl ?_
    refine jr_icmp_ne 26 21 dX10_signOf_18 rfl rfl (fun q18 => ?_) (fun q => absurd q (by decide))
    refine jr_aload_n 0 27 dX10_signOf_26 rfl rfl rfl ?_
    refine gf_X10_131 30 dX10_signOf_27 rfl rfl rfl rfl ?_
    refine jr_topi (y := (2 : Int32)) h3 ?_
    refine jr_bipush (60) 32 dX10_signOf_30 rfl rfl ?_
    refine jr_icmp_ne 40 35 dX10_signOf_32 rfl rfl (fun q32 => ?_) (fun q => absurd q (by decide))
    refine jr_aload_n 0 41 dX10_signOf_40 rfl rfl rfl ?_
    refine gf_X10_131 44 dX10_signOf_41 rfl rfl rfl rfl ?_
    refine jr_topi (y := (2 : Int32)) h3 ?_
    refine jr_bipush (61) 46 dX10_signOf_44 rfl rfl ?_
    refine jr_icmp_ne 54 49 dX10_signOf_46 rfl rfl (fun q46 => ?_) (fun q => absurd q (by decide))
    refine jr_aload_n 0 55 dX10_signOf_54 rfl rfl rfl ?_
    refine gf_X10_131 58 dX10_signOf_55 rfl rfl rfl rfl ?_
    refine jr_topi (y := (2 : Int32)) h3 ?_
    refine jr_bipush (43) 60 dX10_signOf_58 rfl rfl ?_
    refine jr_icmp_ne 68 63 dX10_signOf_60 rfl rfl (fun q60 => ?_) (fun q => absurd q (by decide))
    refine jr_aload_n 0 69 dX10_signOf_68 rfl rfl rfl ?_
    refine gf_X10_131 72 dX10_signOf_69 rfl rfl rfl rfl ?_
    refine jr_topi (y := (2 : Int32)) h3 ?_
    refine jr_bipush (45) 74 dX10_signOf_72 rfl rfl ?_
    refine jr_icmp_ne 82 77 dX10_signOf_74 rfl rfl (fun q74 => ?_) (fun q => absurd q (by decide))
    refine jr_aload_n 0 83 dX10_signOf_82 rfl rfl rfl ?_
    refine gf_X10_131 86 dX10_signOf_83 rfl rfl rfl rfl ?_
    refine jr_topi (y := (2 : Int32)) h3 ?_
    refine jr_bipush (42) 88 dX10_signOf_86 rfl rfl ?_
    refine jr_icmp_ne 96 91 dX10_signOf_88 rfl rfl (fun q88 => ?_) (fun q => absurd q (by decide))
    refine jr_iconst ((-1)) 97 dX10_signOf_96 rfl rfl ?_
    refine jr_ireturn dX10_signOf_97 rfl rfl ?_
    exact h
  · refine jr_enter (L := [some (.ref 46)]) (by decide) (Nat.le_of_ble_eq_true rfl) rfl ?_
    refine jr_aload_n 0 1 dX10_signOf_0 rfl rfl rfl ?_
    refine gf_X10_131 4 dX10_signOf_1 rfl rfl rfl rfl ?_
    refine jr_topi (y := (2 : Int32)) h3 ?_
    refine jr_iconst (4) 5 dX10_signOf_4 rfl rfl ?_
    refine jr_icmp_ne 13 8 dX10_signOf_5 rfl rfl (fun q5 => ?_) (fun q => absurd q (by decide))
    refine jr_aload_n 0 14 dX10_signOf_13 rfl rfl rfl ?_
    refine gf_X10_131 17 dX10_signOf_14 rfl rfl rfl rfl ?_
    refine jr_topi (y := (2 : Int32)) h3 ?_
    refine jr_iconst (5) 18 dX10_signOf_17 rfl rfl ?_
    refine jr_icmp_ne 26 21 dX10_signOf_18 rfl rfl (fun q18 => ?_) (fun q => absurd q (by decide))
    refine jr_aload_n 0 27 dX10_signOf_26 rfl rfl rfl ?_
    refine gf_X10_131 30 dX10_signOf_27 rfl rfl rfl rfl ?_
    refine jr_topi (y := (2 : Int32)) h3 ?_
    refine jr_bipush (60) 32 dX10_signOf_30 rfl rfl ?_
    refine jr_icmp_ne 40 35 dX10_signOf_32 rfl rfl (fun q32 => ?_) (fun q => absurd q (by decide))
    refine jr_aload_n 0 41 dX10_signOf_40 rfl rfl rfl ?_
    refine gf_X10_131 44 dX10_signOf_41 rfl rfl rfl rfl ?_
    refine jr_topi (y := (2 : Int32)) h3 ?_
    refine jr_bipush (61) 46 dX10_signOf_44 rfl rfl ?_
    refine jr_icmp_ne 54 49 dX10_signOf_46 rfl rfl (fun q46 => ?_) (fun q => absurd q (by decide))
    refine jr_aload_n 0 55 dX10_signOf_54 rfl rfl rfl ?_
    refine gf_X10_131 58 dX10_signOf_55 rfl rfl rfl rfl ?_
    refine jr_topi (y := (2 : Int32)) h3 ?_
    refine jr_bipush (43) 60 dX10_signOf_58 rfl rfl ?_
    refine jr_icmp_ne 68 63 dX10_signOf_60 rfl rfl (fun q60 => ?_) (fun q => absurd q (by decide))
    refine jr_aload_n 0 69 dX10_signOf_68 rfl rfl rfl ?_
    refine gf_X10_131 72 dX10_signOf_69 rfl rfl rfl rfl ?_
    refine jr_topi (y := (2 : Int32)) h3 ?_
    refine jr_bipush (45) 74 dX10_signOf_72 rfl rfl ?_
    refine jr_icmp_ne 82 77 dX10_signOf_74 rfl rfl (fun q74 => ?_) (fun q => absurd q (by decide))
    refine jr_aload_n 0 83 dX10_signOf_82 rfl rfl rfl ?_
    refine gf_X10_131 86 dX10_signOf_83 rfl rfl rfl rfl ?_
    refine jr_topi (y := (2 : Int32)) h3 ?_
    refine jr_bipush (42) 88 dX10_signOf_86 rfl rfl ?_
    refine jr_icmp_ne 96 91 dX10_signOf_88 rfl rfl (fun q88 => ?_) (fun q => absurd q (by decide))
    refine jr_iconst ((-1)) 97 dX10_signOf_96 rfl rfl ?_
    refine jr_ireturn dX10_signOf_97 rfl rfl ?_
    exact h
  · refine jr_enter (L := [some (.ref 46)]) (by decide) (Nat.le_of_ble_eq_true rfl) rfl ?_
    refine jr_aload_n 0 1 dX10_signOf_0 rfl rfl rfl ?_
    refine gf_X10_131 4 dX10_signOf_1 rfl rfl rfl rfl ?_
    refine jr_topi (y := (2 : Int32)) h3 ?_
    refine jr_iconst (4) 5 dX10_signOf_4 rfl rfl ?_
    refine jr_icmp_ne 13 8 dX10_signOf_5 rfl rfl (fun q5 => ?_) (fun q => absurd q (by decide))
    refine jr_aload_n 0 14 dX10_signOf_13 rfl rfl rfl ?_
    refine gf_X10_131 17 dX10_signOf_14 rfl rfl rfl rfl ?_
    refine jr_topi (y := (2 : Int32)) h3 ?_
    refine jr_iconst (5) 18 dX10_signOf_17 rfl rfl ?_
    refine jr_icmp_ne 26 21 dX10_signOf_18 rfl rfl (fun q18 => ?_) (fun q => absurd q (by decide))
    refine jr_aload_n 0 27 dX10_signOf_26 rfl rfl rfl ?_
    refine gf_X10_131 30 dX10_signOf_27 rfl rfl rfl rfl ?_
    refine jr_topi (y := (2 : Int32)) h3 ?_
    refine jr_bipush (60) 32 dX10_signOf_30 rfl rfl ?_
    refine jr_icmp_ne 40 35 dX10_signOf_32 rfl rfl (fun q32 => ?_) (fun q => absurd q (by decide))
    refine jr_aload_n 0 41 dX10_signOf_40 rfl rfl rfl ?_
    refine gf_X10_131 44 dX10_signOf_41 rfl rfl rfl rfl ?_
    refine jr_topi (y := (2 : Int32)) h3 ?_
    refine jr_bipush (61) 46 dX10_signOf_44 rfl rfl ?_
    refine jr_icmp_ne 54 49 dX10_signOf_46 rfl rfl (fun q46 => ?_) (fun q => absurd q (by decide))
    refine jr_aload_n 0 55 dX10_signOf_54 rfl rfl rfl ?_
    refine gf_X10_131 58 dX10_signOf_55 rfl rfl rfl rfl ?_
    refine jr_topi (y := (2 : Int32)) h3 ?_
    refine jr_bipush (43) 60 dX10_signOf_58 rfl rfl ?_
    refine jr_icmp_ne 68 63 dX10_signOf_60 rfl rfl (fun q60 => ?_) (fun q => absurd q (by decide))
    refine jr_aload_n 0 69 dX10_signOf_68 rfl rfl rfl ?_
    refine gf_X10_131 72 dX10_signOf_69 rfl rfl rfl rfl ?_
    refine jr_topi (y := (2 : Int32)) h3 ?_
    refine jr_bipush (45) 74 dX10_signOf_72 rfl rfl ?_
    refine jr_icmp_ne 82 77 dX10_signOf_74 rfl rfl (fun q74 => ?_) (fun q => absurd q (by decide))
    refine jr_aload_n 0 83 dX10_signOf_82 rfl rfl rfl ?_
    refine gf_X10_131 86 dX10_signOf_83 rfl rfl rfl rfl ?_
    refine jr_topi (y := (2 : Int32)) h3 ?_
    refine jr_bipush (42) 88 dX10_signOf_86 rfl rfl ?_
    refine jr_icmp_ne 96 91 dX10_signOf_88 rfl rfl (fun q88 => ?_) (fun q => absurd q (by decide))
    refine jr_iconst ((-1)) 97 dX10_signOf_96 rfl rfl ?_
    refine jr_ireturn dX10_signOf_97 rfl rfl ?_
    exact h
  · refine jr_enter (L := [some (.ref 46)]) (by decide) (Nat.le_of_ble_eq_true rfl) rfl ?_
    refine jr_aload_n 0 1 dX10_signOf_0 rfl rfl rfl ?_
    refine gf_X10_131 4 dX10_signOf_1 rfl rfl rfl rfl ?_
    refine jr_topi (y := (2 : Int32)) h3 ?_
    refine jr_iconst (4) 5 dX10_signOf_4 rfl rfl ?_
    refine jr_icmp_ne 13 8 dX10_signOf_5 rfl rfl (fun q5 => ?_) (fun q => absurd q (by decide))
    refine jr_aload_n 0 14 dX10_signOf_13 rfl rfl rfl ?_
    refine gf_X10_131 17 dX10_signOf_14 rfl rfl rfl rfl ?_
    refine jr_topi (y := (2 : Int32)) h3 ?_
    refine jr_iconst (5) 18 dX10_signOf_17 rfl rfl ?_
    refine jr_icmp_ne 26 21 dX10_signOf_18 rfl rfl (fun q18 => ?_) (fun q => absurd q (by decide))
    refine jr_aload_n 0 27 dX10_signOf_26 rfl rfl rfl ?_
    refine gf_X10_131 30 dX10_signOf_27 rfl rfl rfl rfl ?_
    refine jr_topi (y := (2 : Int32)) h3 ?_
    refine jr_bipush (60) 32 dX10_signOf_30 rfl rfl ?_
    refine jr_icmp_ne 40 35 dX10_signOf_32 rfl rfl (fun q32 => ?_) (fun q => absurd q (by decide))
    refine jr_aload_n 0 41 dX10_signOf_40 rfl rfl rfl ?_
    refine gf_X10_131 44 dX10_signOf_41 rfl rfl rfl rfl ?_
    refine jr_topi (y := (2 : Int32)) h3 ?_
    refine jr_bipush (61) 46 dX10_signOf_44 rfl rfl ?_
    refine jr_icmp_ne 54 49 dX10_signOf_46 rfl rfl (fun q46 => ?_) (fun q => absurd q (by decide))
    refine jr_aload_n 0 55 dX10_signOf_54 rfl rfl rfl ?_
    refine gf_X10_131 58 dX10_signOf_55 rfl rfl rfl rfl ?_
    refine jr_topi (y := (2 : Int32)) h3 ?_
    refine jr_bipush (43) 60 dX10_signOf_58 rfl rfl ?_
    refine jr_icmp_ne 68 63 dX10_signOf_60 rfl rfl (fun q60 => ?_) (fun q => absurd q (by decide))
    refine jr_aload_n 0 69 dX10_signOf_68 rfl rfl rfl ?_
    refine gf_X10_131 72 dX10_signOf_69 rfl rfl rfl rfl ?_
    refine jr_topi (y := (2 : Int32)) h3 ?_
    refine jr_bipush (45) 74 dX10_signOf_72 rfl rfl ?_
    refine jr_icmp_ne 82 77 dX10_signOf_74 rfl rfl (fun q74 => ?_) (fun q => absurd q (by decide))
    refine jr_aload_n 0 83 dX10_signOf_82 rfl rfl rfl ?_
    refine gf_X10_131 86 dX10_signOf_83 rfl rfl rfl rfl ?_
    refine jr_topi (y := (2 : Int32)) h3 ?_
    refine jr_bipush (42) 88 dX10_signOf_86 rfl rfl ?_
    refine jr_icmp_ne 96 91 dX10_signOf_88 rfl rfl (fun q88 => ?_) (fun q => absurd q (by decide))
    refine jr_iconst ((-1)) 97 dX10_signOf_96 rfl rfl ?_
    refine jr_ireturn dX10_signOf_97 rfl rfl ?_
    exact h
  · refine jr_enter (L := [some (.ref 46)]) (by decide) (Nat.le_of_ble_eq_true rfl) rfl ?_
    refine jr_aload_n 0 1 dX10_signOf_0 rfl rfl rfl ?_
    refine gf_X10_131 4 dX10_signOf_1 rfl rfl rfl rfl ?_
    refine jr_topi (y := (2 : Int32)) h3 ?_
    refine jr_iconst (4) 5 dX10_signOf_4 rfl rfl ?_
    refine jr_icmp_ne 13 8 dX10_signOf_5 rfl rfl (fun q5 => ?_) (fun q => absurd q (by decide))
    refine jr_aload_n 0 14 dX10_signOf_13 rfl rfl rfl ?_
    refine gf_X10_131 17 dX10_signOf_14 rfl rfl rfl rfl ?_
    refine jr_topi (y := (2 : Int32)) h3 ?_
    refine jr_iconst (5) 18 dX10_signOf_17 rfl rfl ?_
    refine jr_icmp_ne 26 21 dX10_signOf_18 rfl rfl (fun q18 => ?_) (fun q => absurd q (by decide))
    refine jr_aload_n 0 27 dX10_signOf_26 rfl rfl rfl ?_
    refine gf_X10_131 30 dX10_signOf_27 rfl rfl rfl rfl ?_
    refine jr_topi (y := (2 : Int32)) h3 ?_
    refine jr_bipush (60) 32 dX10_signOf_30 rfl rfl ?_
    refine jr_icmp_ne 40 35 dX10_signOf_32 rfl rfl (fun q32 => ?_) (fun q => absurd q (by decide))
    refine jr_aload_n 0 41 dX10_signOf_40 rfl rfl rfl ?_
    refine gf_X10_131 44 dX10_signOf_41 rfl rfl rfl rfl ?_
    refine jr_topi (y := (2 : Int32)) h3 ?_
    refine jr_bipush (61) 46 dX10_signOf_44 rfl rfl ?_
    refine jr_icmp_ne 54 49 dX10_signOf_46 rfl rfl (fun q46 => ?_) (fun q => absurd q (by decide))
    refine jr_aload_n 0 55 dX10_signOf_54 rfl rfl rfl ?_
    refine gf_X10_131 58 dX10_signOf_55 rfl rfl rfl rfl ?_
    refine jr_topi (y := (2 : Int32)) h3 ?_
    refine jr_bipush (43) 60 dX10_signOf_58 rfl rfl ?_
    refine jr_icmp_ne 68 63 dX10_signOf_60 rfl rfl (fun q60 => ?_) (fun q => absurd q (by decide))
    refine jr_aload_n 0 69 dX10_signOf_68 rfl rfl rfl ?_
    refine gf_X10_131 72 dX10_signOf_69 rfl rfl rfl rfl ?_
    refine jr_topi (y := (2 : Int32)) h3 ?_
    refine jr_bipush (45) 74 dX10_signOf_72 rfl rfl ?_
    refine jr_icmp_ne 82 77 dX10_signOf_74 rfl rfl (fun q74 => ?_) (fun q => absurd q (by decide))
    refine jr_aload_n 0 83 dX10_signOf_82 rfl rfl rfl ?_
    refine gf_X10_131 86 dX10_signOf_83 rfl rfl rfl rfl ?_
    refine jr_topi (y := (2 : Int32)) h3 ?_
    refine jr_bipush (42) 88 dX10_signOf_86 rfl rfl ?_
    refine jr_icmp_ne 96 91 dX10_signOf_88 rfl rfl (fun q88 => ?_) (fun q => absurd q (by decide))
    refine jr_iconst ((-1)) 97 dX10_signOf_96 rfl rfl ?_
    refine jr_ireturn dX10_signOf_97 rfl rfl ?_
    exact h
  · refine jr_enter (L := [some (.ref 46)]) (by decide) (Nat.le_of_ble_eq_true rfl) rfl ?_
    refine jr_aload_n 0 1 dX10_signOf_0 rfl rfl rfl ?_
    refine gf_X10_131 4 dX10_signOf_1 rfl rfl rfl rfl ?_
    refine jr_topi (y := (4 : Int32)) h3 ?_
    refine jr_iconst (4) 5 dX10_signOf_4 rfl rfl ?_
    refine jr_icmp_ne 13 8 dX10_signOf_5 rfl rfl (fun q => absurd (by decide) q) (fun q5 => ?_)
    refine jr_bipush (11) 10 dX10_signOf_8 rfl rfl ?_
    refine jr_goto 97 dX10_signOf_10 rfl ?_
    refine jr_ireturn dX10_signOf_97 rfl rfl ?_
    exact h
  · refine jr_enter (L := [some (.ref 46)]) (by decide) (Nat.le_of_ble_eq_true rfl) rfl ?_
    refine jr_aload_n 0 1 dX10_signOf_0 rfl rfl rfl ?_
    refine gf_X10_131 4 dX10_signOf_1 rfl rfl rfl rfl ?_
    refine jr_topi (y := (5 : Int32)) h3 ?_
    refine jr_iconst (4) 5 dX10_signOf_4 rfl rfl ?_
    refine jr_icmp_ne 13 8 dX10_signOf_5 rfl rfl (fun q5 => ?_) (fun q => absurd q (by decide))
    refine jr_aload_n 0 14 dX10_signOf_13 rfl rfl rfl ?_
    refine gf_X10_131 17 dX10_signOf_14 rfl rfl rfl rfl ?_
    refine jr_topi (y := (5 : Int32)) h3 ?_
    refine jr_iconst (5) 18 dX10_signOf_17 rfl rfl ?_
    refine jr_icmp_ne 26 21 dX10_signOf_18 rfl rfl (fun q => absurd (by decide) q) (fun q18 => ?_)
    refine jr_bipush (12) 23 dX10_signOf_21 rfl rfl ?_
    refine jr_goto 97 dX10_signOf_23 rfl ?_
    refine jr_ireturn dX10_signOf_97 rfl rfl ?_
    exact h
  · refine jr_enter (L := [some (.ref 46)]) (by decide) (Nat.le_of_ble_eq_true rfl) rfl ?_
    refine jr_aload_n 0 1 dX10_signOf_0 rfl rfl rfl ?_
    refine gf_X10_131 4 dX10_signOf_1 rfl rfl rfl rfl ?_
    refine jr_topi (y := (6 : Int32)) h3 ?_
    refine jr_iconst (4) 5 dX10_signOf_4 rfl rfl ?_
    refine jr_icmp_ne 13 8 dX10_signOf_5 rfl rfl (fun q5 => ?_) (fun q => absurd q (by decide))
    refine jr_aload_n 0 14 dX10_signOf_13 rfl rfl rfl ?_
    refine gf_X10_131 17 dX10_signOf_14 rfl rfl rfl rfl ?_
    refine jr_topi (y := (6 : Int32)) h3 ?_
    refine jr_iconst (5) 18 dX10_signOf_17 rfl rfl ?_
    refine jr_icmp_ne 26 21 dX10_signOf_18 rfl rfl (fun q18 => ?_) (fun q => absurd q (by decide))
    refine jr_aload_n 0 27 dX10_signOf_26 rfl rfl rfl ?_
    refine gf_X10_131 30 dX10_signOf_27 rfl rfl rfl rfl ?_
    refine jr_topi (y := (6 : Int32)) h3 ?_
    refine jr_bipush (60) 32 dX10_signOf_30 rfl rfl ?_
    refine jr_icmp_ne 40 35 dX10_signOf_32 rfl rfl (fun q32 => ?_) (fun q => absurd q (by decide))
    refine jr_aload_n 0 41 dX10_signOf_40 rfl rfl rfl ?_
    refine gf_X10_131 44 dX10_signOf_41 rfl rfl rfl rfl ?_
    refine jr_topi (y := (6 : Int32)) h3 ?_
    refine jr_bipush (61) 46 dX10_signOf_44 rfl rfl ?_
    refine jr_icmp_ne 54 49 dX10_signOf_46 rfl rfl (fun q46 => ?_) (fun q => absurd q (by decide))
    refine jr_aload_n 0 55 dX10_signOf_54 rfl rfl rfl ?_
    refine gf_X10_131 58 dX10_signOf_55 rfl rfl rfl rfl ?_
    refine jr_topi (y := (6 : Int32)) h3 ?_
    refine jr_bipush (43) 60 dX10_signOf_58 rfl rfl ?_
    refine jr_icmp_ne 68 63 dX10_signOf_60 rfl rfl (fun q60 => ?_) (fun q => absurd q (by decide))
    refine jr_aload_n 0 69 dX10_signOf_68 rfl rfl rfl ?_
    refine gf_X10_131 72 dX10_signOf_69 rfl rfl rfl rfl ?_
    refine jr_topi (y := (6 : Int32)) h3 ?_
    refine jr_bipush (45) 74 dX10_signOf_72 rfl rfl ?_
    refine jr_icmp_ne 82 77 dX10_signOf_74 rfl rfl (fun q74 => ?_) (fun q => absurd q (by decide))
    refine jr_aload_n 0 83 dX10_signOf_82 rfl rfl rfl ?_
    refine gf_X10_131 86 dX10_signOf_83 rfl rfl rfl rfl ?_
    refine jr_topi (y := (6 : Int32)) h3 ?_
    refine jr_bipush (42) 88 dX10_signOf_86 rfl rfl ?_
    refine jr_icmp_ne 96 91 dX10_signOf_88 rfl rfl (fun q88 => ?_) (fun q => absurd q (by decide))
    refine jr_iconst ((-1)) 97 dX10_signOf_96 rfl rfl ?_
    refine jr_ireturn dX10_signOf_97 rfl rfl ?_
    exact h
  · refine jr_enter (L := [some (.ref 46)]) (by decide) (Nat.le_of_ble_eq_true rfl) rfl ?_
    refine jr_aload_n 0 1 dX10_signOf_0 rfl rfl rfl ?_
    refine gf_X10_131 4 dX10_signOf_1 rfl rfl rfl rfl ?_
    refine jr_topi (y := (3 : Int32)) h3 ?_
    refine jr_iconst (4) 5 dX10_signOf_4 rfl rfl ?_
    refine jr_icmp_ne 13 8 dX10_signOf_5 rfl rfl (fun q5 => ?_) (fun q => absurd q (by decide))
    refine jr_aload_n 0 14 dX10_signOf_13 rfl rfl rfl ?_
    refine gf_X10_131 17 dX10_signOf_14 rfl rfl rfl rfl ?_
    refine jr_topi (y := (3 : Int32)) h3 ?_
    refine jr_iconst (5) 18 dX10_signOf_17 rfl rfl ?_
    refine jr_icmp_ne 26 21 dX10_signOf_18 rfl rfl (fun q18 => ?_) (fun q => absurd q (by decide))
    refine jr_aload_n 0 27 dX10_signOf_26 rfl rfl rfl ?_
    refine gf_X10_131 30 dX10_signOf_27 rfl rfl rfl rfl ?_
    refine jr_topi (y := (3 : Int32)) h3 ?_
    refine jr_bipush (60) 32 dX10_signOf_30 rfl rfl ?_
    refine jr_icmp_ne 40 35 dX10_signOf_32 rfl rfl (fun q32 => ?_) (fun q => absurd q (by decide))
    refine jr_aload_n 0 41 dX10_signOf_40 rfl rfl rfl ?_
    refine gf_X10_131 44 dX10_signOf_41 rfl rfl rfl rfl ?_
    refine jr_topi (y := (3 : Int32)) h3 ?_
    refine jr_bipush (61) 46 dX10_signOf_44 rfl rfl ?_
    refine jr_icmp_ne 54 49 dX10_signOf_46 rfl rfl (fun q46 => ?_) (fun q => absurd q (by decide))
    refine jr_aload_n 0 55 dX10_signOf_54 rfl rfl rfl ?_
    refine gf_X10_131 58 dX10_signOf_55 rfl rfl rfl rfl ?_
    refine jr_topi (y := (3 : Int32)) h3 ?_
    refine jr_bipush (43) 60 dX10_signOf_58 rfl rfl ?_
    refine jr_icmp_ne 68 63 dX10_signOf_60 rfl rfl (fun q60 => ?_) (fun q => absurd q (by decide))
    refine jr_aload_n 0 69 dX10_signOf_68 rfl rfl rfl ?_
    refine gf_X10_131 72 dX10_signOf_69 rfl rfl rfl rfl ?_
    refine jr_topi (y := (3 : Int32)) h3 ?_
    refine jr_bipush (45) 74 dX10_signOf_72 rfl rfl ?_
    refine jr_icmp_ne 82 77 dX10_signOf_74 rfl rfl (fun q74 => ?_) (fun q => absurd q (by decide))
    refine jr_aload_n 0 83 dX10_signOf_82 rfl rfl rfl ?_
    refine gf_X10_131 86 dX10_signOf_83 rfl rfl rfl rfl ?_
    refine jr_topi (y := (3 : Int32)) h3 ?_
    refine jr_bipush (42) 88 dX10_signOf_86 rfl rfl ?_
    refine jr_icmp_ne 96 91 dX10_signOf_88 rfl rfl (fun q88 => ?_) (fun q => absurd q (by decide))
    refine jr_iconst ((-1)) 97 dX10_signOf_96 rfl rfl ?_
    refine jr_ireturn dX10_signOf_97 rfl rfl ?_
    exact h
  · refine jr_enter (L := [some (.ref 46)]) (by decide) (Nat.le_of_ble_eq_true rfl) rfl ?_
    refine jr_aload_n 0 1 dX10_signOf_0 rfl rfl rfl ?_
    refine gf_X10_131 4 dX10_signOf_1 rfl rfl rfl rfl ?_
    refine jr_topi (y := (3 : Int32)) h3 ?_
    refine jr_iconst (4) 5 dX10_signOf_4 rfl rfl ?_
    refine jr_icmp_ne 13 8 dX10_signOf_5 rfl rfl (fun q5 => ?_) (fun q => absurd q (by decide))
    refine jr_aload_n 0 14 dX10_signOf_13 rfl rfl rfl ?_
    refine gf_X10_131 17 dX10_signOf_14 rfl rfl rfl rfl ?_
    refine jr_topi (y := (3 : Int32)) h3 ?_
    refine jr_iconst (5) 18 dX10_signOf_17 rfl rfl ?_
    refine jr_icmp_ne 26 21 dX10_signOf_18 rfl rfl (fun q18 => ?_) (fun q => absurd q (by decide))
    refine jr_aload_n 0 27 dX10_signOf_26 rfl rfl rfl ?_
    refine gf_X10_131 30 dX10_signOf_27 rfl rfl rfl rfl ?_
    refine jr_topi (y := (3 : Int32)) h3 ?_
    refine jr_bipush (60) 32 dX10_signOf_30 rfl rfl ?_
    refine jr_icmp_ne 40 35 dX10_signOf_32 rfl rfl (fun q32 => ?_) (fun q => absurd q (by decide))
    refine jr_aload_n 0 41 dX10_signOf_40 rfl rfl rfl ?_
    refine gf_X10_131 44 dX10_signOf_41 rfl rfl rfl rfl ?_
    refine jr_topi (y := (3 : Int32)) h3 ?_
    refine jr_bipush (61) 46 dX10_signOf_44 rfl rfl ?_
    refine jr_icmp_ne 54 49 dX10_signOf_46 rfl rfl (fun q46 => ?_) (fun q => absurd q (by decide))
    refine jr_aload_n 0 55 dX10_signOf_54 rfl rfl rfl ?_
    refine gf_X10_131 58 dX10_signOf_55 rfl rfl rfl rfl ?_
    refine jr_topi (y := (3 : Int32)) h3 ?_
    refine jr_bipush (43) 60 dX10_signOf_58 rfl rfl ?_
    refine jr_icmp_ne 68 63 dX10_signOf_60 rfl rfl (fun q60 => ?_) (fun q => absurd q (by decide))
    refine jr_aload_n 0 69 dX10_signOf_68 rfl rfl rfl ?_
    refine gf_X10_131 72 dX10_signOf_69 rfl rfl rfl rfl ?_
    refine jr_topi (y := (3 : Int32)) h3 ?_
    refine jr_bipush (45) 74 dX10_signOf_72 rfl rfl ?_
    refine jr_icmp_ne 82 77 dX10_signOf_74 rfl rfl (fun q74 => ?_) (fun q => absurd q (by decide))
    refine jr_aload_n 0 83 dX10_signOf_82 rfl rfl rfl ?_
    refine gf_X10_131 86 dX10_signOf_83 rfl rfl rfl rfl ?_
    refine jr_topi (y := (3 : Int32)) h3 ?_
    refine jr_bipush (42) 88 dX10_signOf_86 rfl rfl ?_
    refine jr_icmp_ne 96 91 dX10_signOf_88 rfl rfl (fun q88 => ?_) (fun q => absurd q (by decide))
    refine jr_iconst ((-1)) 97 dX10_signOf_96 rfl rfl ?_
    refine jr_ireturn dX10_signOf_97 rfl rfl ?_
    exact h
  · refine jr_enter (L := [some (.ref 46)]) (by decide) (Nat.le_of_ble_eq_true rfl) rfl ?_
    refine jr_aload_n 0 1 dX10_signOf_0 rfl rfl rfl ?_
    refine gf_X10_131 4 dX10_signOf_1 rfl rfl rfl rfl ?_
    refine jr_topi (y := (3 : Int32)) h3 ?_
    refine jr_iconst (4) 5 dX10_signOf_4 rfl rfl ?_
    refine jr_icmp_ne 13 8 dX10_signOf_5 rfl rfl (fun q5 => ?_) (fun q => absurd q (by decide))
    refine jr_aload_n 0 14 dX10_signOf_13 rfl rfl rfl ?_
    refine gf_X10_131 17 dX10_signOf_14 rfl rfl rfl rfl ?_
    refine jr_topi (y := (3 : Int32)) h3 ?_
    refine jr_iconst (5) 18 dX10_signOf_17 rfl rfl ?_
    refine jr_icmp_ne 26 21 dX10_signOf_18 rfl rfl (fun q18 => ?_) (fun q => absurd q (by decide))
    refine jr_aload_n 0 27 dX10_signOf_26 rfl rfl rfl ?_
    refine gf_X10_131 30 dX10_signOf_27 rfl rfl rfl rfl ?_
    refine jr_topi (y := (3 : Int32)) h3 ?_
    refine jr_bipush (60) 32 dX10_signOf_30 rfl rfl ?_
    refine jr_icmp_ne 40 35 dX10_signOf_32 rfl rfl (fun q32 => ?_) (fun q => absurd q (by decide))
    refine jr_aload_n 0 41 dX10_signOf_40 rfl rfl rfl ?_
    refine gf_X10_131 44 dX10_signOf_41 rfl rfl rfl rfl ?_
    refine jr_topi (y := (3 : Int32)) h3 ?_
    refine jr_bipush (61) 46 dX10_signOf_44 rfl rfl ?_
    refine jr_icmp_ne 54 49 dX10_signOf_46 rfl rfl (fun q46 => ?_) (fun q => absurd q (by decide))
    refine jr_aload_n 0 55 dX10_signOf_54 rfl rfl rfl ?_
    refine gf_X10_131 58 dX10_signOf_55 rfl rfl rfl rfl ?_
    refine jr_topi (y := (3 : Int32)) h3 ?_
    refine jr_bipush (43) 60 dX10_signOf_58 rfl rfl ?_
    refine jr_icmp_ne 68 63 dX10_signOf_60 rfl rfl (fun q60 => ?_) (fun q => absurd q (by decide))
    refine jr_aload_n 0 69 dX10_signOf_68 rfl rfl rfl ?_
    refine gf_X10_131 72 dX10_signOf_69 rfl rfl rfl rfl ?_
    refine jr_topi (y := (3 : Int32)) h3 ?_
    refine jr_bipush (45) 74 dX10_signOf_72 rfl rfl ?_
    refine jr_icmp_ne 82 77 dX10_signOf_74 rfl rfl (fun q74 => ?_) (fun q => absurd q (by decide))
    refine jr_aload_n 0 83 dX10_signOf_82 rfl rfl rfl ?_
    refine gf_X10_131 86 dX10_signOf_83 rfl rfl rfl rfl ?_
    refine jr_topi (y := (3 : Int32)) h3 ?_
    refine jr_bipush (42) 88 dX10_signOf_86 rfl rfl ?_
    refine jr_icmp_ne 96 91 dX10_signOf_88 rfl rfl (fun q88 => ?_) (fun q => absurd q (by decide))
    refine jr_iconst ((-1)) 97 dX10_signOf_96 rfl rfl ?_
    refine jr_ireturn dX10_signOf_97 rfl rfl ?_
    exact h
  · refine jr_enter (L := [some (.ref 46)]) (by decide) (Nat.le_of_ble_eq_true rfl) rfl ?_
    refine jr_aload_n 0 1 dX10_signOf_0 rfl rfl rfl ?_
    refine gf_X10_131 4 dX10_signOf_1 rfl rfl rfl rfl ?_
    refine jr_topi (y := (60 : Int32)) h3 ?_
    refine jr_iconst (4) 5 dX10_signOf_4 rfl rfl ?_
    refine jr_icmp_ne 13 8 dX10_signOf_5 rfl rfl (fun q5 => ?_) (fun q => absurd q (by decide))
    refine jr_aload_n 0 14 dX10_signOf_13 rfl rfl rfl ?_
    refine gf_X10_131 17 dX10_signOf_14 rfl rfl rfl rfl ?_
    refine jr_topi (y := (60 : Int32)) h3 ?_
    refine jr_iconst (5) 18 dX10_signOf_17 rfl rfl ?_
    refine jr_icmp_ne 26 21 dX10_signOf_18 rfl rfl (fun q18 => ?_) (fun q => absurd q (by decide))
    refine jr_aload_n 0 27 dX10_signOf_26 rfl rfl rfl ?_
    refine gf_X10_131 30 dX10_signOf_27 rfl rfl rfl rfl ?_
    refine jr_topi (y := (60 : Int32)) h3 ?_
    refine jr_bipush (60) 32 dX10_signOf_30 rfl rfl ?_
    refine jr_icmp_ne 40 35 dX10_signOf_32 rfl rfl (fun q => absurd (by decide) q) (fun q32 => ?_)
    refine jr_bipush (14) 37 dX10_signOf_35 rfl rfl ?_
    refine jr_goto 97 dX10_signOf_37 rfl ?_
    refine jr_ireturn dX10_signOf_97 rfl rfl ?_
    exact h
  · refine jr_enter (L := [some (.ref 46)]) (by decide) (Nat.le_of_ble_eq_true rfl) rfl ?_
    refine jr_aload_n 0 1 dX10_signOf_0 rfl rfl rfl ?_
    refine gf_X10_131 4 dX10_signOf_1 rfl rfl rfl rfl ?_
    refine jr_topi (y := (61 : Int32)) h3 ?_
    refine jr_iconst (4) 5 dX10_signOf_4 rfl rfl ?_
    refine jr_icmp_ne 13 8 dX10_signOf_5 rfl rfl (fun q5 => ?_) (fun q => absurd q (by decide))
    refine jr_aload_n 0 14 dX10_signOf_13 rfl rfl rfl ?_
    refine gf_X10_131 17 dX10_signOf_14 rfl rfl rfl rfl ?_
    refine jr_topi (y := (61 : Int32)) h3 ?_
    refine jr_iconst (5) 18 dX10_signOf_17 rfl rfl ?_
    refine jr_icmp_ne 26 21 dX10_signOf_18 rfl rfl (fun q18 => ?_) (fun q => absurd q (by decide))
    refine jr_aload_n 0 27 dX10_signOf_26 rfl rfl rfl ?_
    refine gf_X10_131 30 dX10_signOf_27 rfl rfl rfl rfl ?_
    refine jr_topi (y := (61 : Int32)) h3 ?_
    refine jr_bipush (60) 32 dX10_signOf_30 rfl rfl ?_
    refine jr_icmp_ne 40 35 dX10_signOf_32 rfl rfl (fun q32 => ?_) (fun q => absurd q (by decide))
    refine jr_aload_n 0 41 dX10_signOf_40 rfl rfl rfl ?_
    refine gf_X10_131 44 dX10_signOf_41 rfl rfl rfl rfl ?_
    refine jr_topi (y := (61 : Int32)) h3 ?_
    refine jr_bipush (61) 46 dX10_signOf_44 rfl rfl ?_
    refine jr_icmp_ne 54 49 dX10_signOf_46 rfl rfl (fun q => absurd (by decide) q) (fun q46 => ?_)
    refine jr_bipush (15) 51 dX10_signOf_49 rfl rfl ?_
    refine jr_goto 97 dX10_signOf_51 rfl ?_
    refine jr_ireturn dX10_signOf_97 rfl rfl ?_
    exact h
  · refine jr_enter (L := [some (.ref 46)]) (by decide) (Nat.le_of_ble_eq_true rfl) rfl ?_
    refine jr_aload_n 0 1 dX10_signOf_0 rfl rfl rfl ?_
    refine gf_X10_131 4 dX10_signOf_1 rfl rfl rfl rfl ?_
    refine jr_topi (y := (43 : Int32)) h3 ?_
    refine jr_iconst (4) 5 dX10_signOf_4 rfl rfl ?_
    refine jr_icmp_ne 13 8 dX10_signOf_5 rfl rfl (fun q5 => ?_) (fun q => absurd q (by decide))
    refine jr_aload_n 0 14 dX10_signOf_13 rfl rfl rfl ?_
    refine gf_X10_131 17 dX10_signOf_14 rfl rfl rfl rfl ?_
    refine jr_topi (y := (43 : Int32)) h3 ?_
    refine jr_iconst (5) 18 dX10_signOf_17 rfl rfl ?_
    refine jr_icmp_ne 26 21 dX10_signOf_18 rfl rfl (fun q18 => ?_) (fun q => absurd q (by decide))
    refine jr_aload_n 0 27 dX10_signOf_26 rfl rfl rfl ?_
    refine gf_X10_131 30 dX10_signOf_27 rfl rfl rfl rfl ?_
    refine jr_topi (y := (43 : Int32)) h3 ?_
    refine jr_bipush (60) 32 dX10_signOf_30 rfl rfl ?_
    refine jr_icmp_ne 40 35 dX10_signOf_32 rfl rfl (fun q32 => ?_) (fun q => absurd q (by decide))
    refine jr_aload_n 0 41 dX10_signOf_40 rfl rfl rfl ?_
    refine gf_X10_131 44 dX10_signOf_41 rfl rfl rfl rfl ?_
    refine jr_topi (y := (43 : Int32)) h3 ?_
    refine jr_bipush (61) 46 dX10_signOf_44 rfl rfl ?_
    refine jr_icmp_ne 54 49 dX10_signOf_46 rfl rfl (fun q46 => ?_) (fun q => absurd q (by decide))
    refine jr_aload_n 0 55 dX10_signOf_54 rfl rfl rfl ?_
    refine gf_X10_131 58 dX10_signOf_55 rfl rfl rfl rfl ?_
    refine jr_topi (y := (43 : Int32)) h3 ?_
    refine jr_bipush (43) 60 dX10_signOf_58 rfl rfl ?_
    refine jr_icmp_ne 68 63 dX10_signOf_60 rfl rfl (fun q => absurd (by decide) q) (fun q60 => ?_)
    refine jr_bipush (16) 65 dX10_signOf_63 rfl rfl ?_
    refine jr_goto 97 dX10_signOf_65 rfl ?_
    refine jr_ireturn dX10_signOf_97 rfl rfl ?_
    exact h
  · refine jr_enter (L := [some (.ref 46)]) (by decide) (Nat.le_of_ble_eq_true rfl) rfl ?_
    refine jr_aload_n 0 1 dX10_signOf_0 rfl rfl rfl ?_
    refine gf_X10_131 4 dX10_signOf_1 rfl rfl rfl rfl ?_
    refine jr_topi (y := (45 : Int32)) h3 ?_
    refine jr_iconst (4) 5 dX10_signOf_4 rfl rfl ?_
    refine jr_icmp_ne 13 8 dX10_signOf_5 rfl rfl (fun q5 => ?_) (fun q => absurd q (by decide))
    refine jr_aload_n 0 14 dX10_signOf_13 rfl rfl rfl ?_
    refine gf_X10_131 17 dX10_signOf_14 rfl rfl rfl rfl ?_
    refine jr_topi (y := (45 : Int32)) h3 ?_
    refine jr_iconst (5) 18 dX10_signOf_17 rfl rfl ?_
    refine jr_icmp_ne 26 21 dX10_signOf_18 rfl rfl (fun q18 => ?_) (fun q => absurd q (by decide))
    refine jr_aload_n 0 27 dX10_signOf_26 rfl rfl rfl ?_
    refine gf_X10_131 30 dX10_signOf_27 rfl rfl rfl rfl ?_
    refine jr_topi (y := (45 : Int32)) h3 ?_
    refine jr_bipush (60) 32 dX10_signOf_30 rfl rfl ?_
    refine jr_icmp_ne 40 35 dX10_signOf_32 rfl rfl (fun q32 => ?_) (fun q => absurd q (by decide))
    refine jr_aload_n 0 41 dX10_signOf_40 rfl rfl rfl ?_
    refine gf_X10_131 44 dX10_signOf_41 rfl rfl rfl rfl ?_
    refine jr_topi (y := (45 : Int32)) h3 ?_
    refine jr_bipush (61) 46 dX10_signOf_44 rfl rfl ?_
    refine jr_icmp_ne 54 49 dX10_signOf_46 rfl rfl (fun q46 => ?_) (fun q => absurd q (by decide))
    refine jr_aload_n 0 55 dX10_signOf_54 rfl rfl rfl ?_
    refine gf_X10_131 58 dX10_signOf_55 rfl rfl rfl rfl ?_
    refine jr_topi (y := (45 : Int32)) h3 ?_
    refine jr_bipush (43) 60 dX10_signOf_58 rfl rfl ?_
    refine jr_icmp_ne 68 63 dX10_signOf_60 rfl rfl (fun q60 => ?_) (fun q => absurd q (by decide))
    refine jr_aload_n 0 69 dX10_signOf_68 rfl rfl rfl ?_
    refine gf_X10_131 72 dX10_signOf_69 rfl rfl rfl rfl ?_
    refine jr_topi (y := (45 : Int32)) h3 ?_
    refine jr_bipush (45) 74 dX10_signOf_72 rfl rfl ?_
    refine jr_icmp_ne 82 77 dX10_signOf_74 rfl rfl (fun q => absurd (by decide) q) (fun q74 => ?_)
    refine jr_bipush (17) 79 dX10_signOf_77 rfl rfl ?_
    refine jr_goto 97 dX10_signOf_79 rfl ?_
    refine jr_ireturn dX10_signOf_97 rfl rfl ?_
    exact h
  · refine jr_enter (L := [some (.ref 46)]) (by decide) (Nat.le_of_ble_eq_true rfl) rfl ?_
    refine jr_aload_n 0 1 dX10_signOf_0 rfl rfl rfl ?_
    refine gf_X10_131 4 dX10_signOf_1 rfl rfl rfl rfl ?_
    refine jr_topi (y := (42 : Int32)) h3 ?_
    refine jr_iconst (4) 5 dX10_signOf_4 rfl rfl ?_
    refine jr_icmp_ne 13 8 dX10_signOf_5 rfl rfl (fun q5 => ?_) (fun q => absurd q (by decide))
    refine jr_aload_n 0 14 dX10_signOf_13 rfl rfl rfl ?_
    refine gf_X10_131 17 dX10_signOf_14 rfl rfl rfl rfl ?_
    refine jr_topi (y := (42 : Int32)) h3 ?_
    refine jr_iconst (5) 18 dX10_signOf_17 rfl rfl ?_
    refine jr_icmp_ne 26 21 dX10_signOf_18 rfl rfl (fun q18 => ?_) (fun q => absurd q (by decide))
    refine jr_aload_n 0 27 dX10_signOf_26 rfl rfl rfl ?_
    refine gf_X10_131 30 dX10_signOf_27 rfl rfl rfl rfl ?_
    refine jr_topi (y := (42 : Int32)) h3 ?_
    refine jr_bipush (60) 32 dX10_signOf_30 rfl rfl ?_
    refine jr_icmp_ne 40 35 dX10_signOf_32 rfl rfl (fun q32 => ?_) (fun q => absurd q (by decide))
    refine jr_aload_n 0 41 dX10_signOf_40 rfl rfl rfl ?_
    refine gf_X10_131 44 dX10_signOf_41 rfl rfl rfl rfl ?_
    refine jr_topi (y := (42 : Int32)) h3 ?_
    refine jr_bipush (61) 46 dX10_signOf_44 rfl rfl ?_
    refine jr_icmp_ne 54 49 dX10_signOf_46 rfl rfl (fun q46 => ?_) (fun q => absurd q (by decide))
    refine jr_aload_n 0 55 dX10_signOf_54 rfl rfl rfl ?_
    refine gf_X10_131 58 dX10_signOf_55 rfl rfl rfl rfl ?_
    refine jr_topi (y := (42 : Int32)) h3 ?_
    refine jr_bipush (43) 60 dX10_signOf_58 rfl rfl ?_
    refine jr_icmp_ne 68 63 dX10_signOf_60 rfl rfl (fun q60 => ?_) (fun q => absurd q (by decide))
    refine jr_aload_n 0 69 dX10_signOf_68 rfl rfl rfl ?_
    refine gf_X10_131 72 dX10_signOf_69 rfl rfl rfl rfl ?_
    refine jr_topi (y := (42 : Int32)) h3 ?_
    refine jr_bipush (45) 74 dX10_signOf_72 rfl rfl ?_
    refine jr_icmp_ne 82 77 dX10_signOf_74 rfl rfl (fun q74 => ?_) (fun q => absurd q (by decide))
    refine jr_aload_n 0 83 dX10_signOf_82 rfl rfl rfl ?_
    refine gf_X10_131 86 dX10_signOf_83 rfl rfl rfl rfl ?_
    refine jr_topi (y := (42 : Int32)) h3 ?_
    refine jr_bipush (42) 88 dX10_signOf_86 rfl rfl ?_
    refine jr_icmp_ne 96 91 dX10_signOf_88 rfl rfl (fun q => absurd (by decide) q) (fun q88 => ?_)
    refine jr_bipush (18) 93 dX10_signOf_91 rfl rfl ?_
    refine jr_goto 97 dX10_signOf_93 rfl ?_
    refine jr_ireturn dX10_signOf_97 rfl rfl ?_
    exact h
  · refine jr_enter (L := [some (.ref 46)]) (by decide) (Nat.le_of_ble_eq_true rfl) rfl ?_
    refine jr_aload_n 0 1 dX10_signOf_0 rfl rfl rfl ?_
    refine gf_X10_131 4 dX10_signOf_1 rfl rfl rfl rfl ?_
    refine jr_topi (y := (2 : Int32)) h3 ?_
    refine jr_iconst (4) 5 dX10_signOf_4 rfl rfl ?_
    refine jr_icmp_ne 13 8 dX10_signOf_5 rfl rfl (fun q5 => ?_) (fun q => absurd q (by decide))
    refine jr_aload_n 0 14 dX10_signOf_13 rfl rfl rfl ?_
    refine gf_X10_131 17 dX10_signOf_14 rfl rfl rfl rfl ?_
    refine jr_topi (y := (2 : Int32)) h3 ?_
    refine jr_iconst (5) 18 dX10_signOf_17 rfl rfl ?_
    refine jr_icmp_ne 26 21 dX10_signOf_18 rfl rfl (fun q18 => ?_) (fun q => absurd q (by decide))
    refine jr_aload_n 0 27 dX10_signOf_26 rfl rfl rfl ?_
    refine gf_X10_131 30 dX10_signOf_27 rfl rfl rfl rfl ?_
    refine jr_topi (y := (2 : Int32)) h3 ?_
    refine jr_bipush (60) 32 dX10_signOf_30 rfl rfl ?_
    refine jr_icmp_ne 40 35 dX10_signOf_32 rfl rfl (fun q32 => ?_) (fun q => absurd q (by decide))
    refine jr_aload_n 0 41 dX10_signOf_40 rfl rfl rfl ?_
    refine gf_X10_131 44 dX10_signOf_41 rfl rfl rfl rfl ?_
    refine jr_topi (y := (2 : Int32)) h3 ?_
    refine jr_bipush (61) 46 dX10_signOf_44 rfl rfl ?_
    refine jr_icmp_ne 54 49 dX10_signOf_46 rfl rfl (fun q46 => ?_) (fun q => absurd q (by decide))
    refine jr_aload_n 0 55 dX10_signOf_54 rfl rfl rfl ?_
    refine gf_X10_131 58 dX10_signOf_55 rfl rfl rfl rfl ?_
    refine jr_topi (y := (2 : Int32)) h3 ?_
    refine jr_bipush (43) 60 dX10_signOf_58 rfl rfl ?_
    refine jr_icmp_ne 68 63 dX10_signOf_60 rfl rfl (fun q60 => ?_) (fun q => absurd q (by decide))
    refine jr_aload_n 0 69 dX10_signOf_68 rfl rfl rfl ?_
    refine gf_X10_131 72 dX10_signOf_69 rfl rfl rfl rfl ?_
    refine jr_topi (y := (2 : Int32)) h3 ?_
    refine jr_bipush (45) 74 dX10_signOf_72 rfl rfl ?_
    refine jr_icmp_ne 82 77 dX10_signOf_74 rfl rfl (fun q74 => ?_) (fun q => absurd q (by decide))
    refine jr_aload_n 0 83 dX10_signOf_82 rfl rfl rfl ?_
    refine gf_X10_131 86 dX10_signOf_83 rfl rfl rfl rfl ?_
    refine jr_topi (y := (2 : Int32)) h3 ?_
    refine jr_bipush (42) 88 dX10_signOf_86 rfl rfl ?_
    refine jr_icmp_ne 96 91 dX10_signOf_88 rfl rfl (fun q88 => ?_) (fun q => absurd q (by decide))
    refine jr_iconst ((-1)) 97 dX10_signOf_96 rfl rfl ?_
    refine jr_ireturn dX10_signOf_97 rfl rfl ?_
    exact h
  · refine jr_enter (L := [some (.ref 46)]) (by decide) (Nat.le_of_ble_eq_true rfl) rfl ?_
    refine jr_aload_n 0 1 dX10_signOf_0 rfl rfl rfl ?_
    refine gf_X10_131 4 dX10_signOf_1 rfl rfl rfl rfl ?_
    refine jr_topi (y := (1 : Int32)) h3 ?_
    refine jr_iconst (4) 5 dX10_signOf_4 rfl rfl ?_
    refine jr_icmp_ne 13 8 dX10_signOf_5 rfl rfl (fun q5 => ?_) (fun q => absurd q (by decide))
    refine jr_aload_n 0 14 dX10_signOf_13 rfl rfl rfl ?_
    refine gf_X10_131 17 dX10_signOf_14 rfl rfl rfl rfl ?_
    refine jr_topi (y := (1 : Int32)) h3 ?_
    refine jr_iconst (5) 18 dX10_signOf_17 rfl rfl ?_
    refine jr_icmp_ne 26 21 dX10_signOf_18 rfl rfl (fun q18 => ?_) (fun q => absurd q (by decide))
    refine jr_aload_n 0 27 dX10_signOf_26 rfl rfl rfl ?_
    refine gf_X10_131 30 dX10_signOf_27 rfl rfl rfl rfl ?_
    refine jr_topi (y := (1 : Int32)) h3 ?_
    refine jr_bipush (60) 32 dX10_signOf_30 rfl rfl ?_
    refine jr_icmp_ne 40 35 dX10_signOf_32 rfl rfl (fun q32 => ?_) (fun q => absurd q (by decide))
    refine jr_aload_n 0 41 dX10_signOf_40 rfl rfl rfl ?_
    refine gf_X10_131 44 dX10_signOf_41 rfl rfl rfl rfl ?_
    refine jr_topi (y := (1 : Int32)) h3 ?_
    refine jr_bipush (61) 46 dX10_signOf_44 rfl rfl ?_
    refine jr_icmp_ne 54 49 dX10_signOf_46 rfl rfl (fun q46 => ?_) (fun q => absurd q (by decide))
    refine jr_aload_n 0 55 dX10_signOf_54 rfl rfl rfl ?_
    refine gf_X10_131 58 dX10_signOf_55 rfl rfl rfl rfl ?_
    refine jr_topi (y := (1 : Int32)) h3 ?_
    refine jr_bipush (43) 60 dX10_signOf_58 rfl rfl ?_
    refine jr_icmp_ne 68 63 dX10_signOf_60 rfl rfl (fun q60 => ?_) (fun q => absurd q (by decide))
    refine jr_aload_n 0 69 dX10_signOf_68 rfl rfl rfl ?_
    refine gf_X10_131 72 dX10_signOf_69 rfl rfl rfl rfl ?_
    refine jr_topi (y := (1 : Int32)) h3 ?_
    refine jr_bipush (45) 74 dX10_signOf_72 rfl rfl ?_
    refine jr_icmp_ne 82 77 dX10_signOf_74 rfl rfl (fun q74 => ?_) (fun q => absurd q (by decide))
    refine jr_aload_n 0 83 dX10_signOf_82 rfl rfl rfl ?_
    refine gf_X10_131 86 dX10_signOf_83 rfl rfl rfl rfl ?_
    refine jr_topi (y := (1 : Int32)) h3 ?_
    refine jr_bipush (42) 88 dX10_signOf_86 rfl rfl ?_
    refine jr_icmp_ne 96 91 dX10_signOf_88 rfl rfl (fun q88 => ?_) (fun q => absurd q (by decide))
    refine jr_iconst ((-1)) 97 dX10_signOf_96 rfl rfl ?_
    refine jr_ireturn dX10_signOf_97 rfl rfl ?_
    exact h
  · refine jr_enter (L := [some (.ref 46)]) (by decide) (Nat.le_of_ble_eq_true rfl) rfl ?_
    refine jr_aload_n 0 1 dX10_signOf_0 rfl rfl rfl ?_
    refine gf_X10_131 4 dX10_signOf_1 rfl rfl rfl rfl ?_
    refine jr_topi (y := (40 : Int32)) h3 ?_
    refine jr_iconst (4) 5 dX10_signOf_4 rfl rfl ?_
    refine jr_icmp_ne 13 8 dX10_signOf_5 rfl rfl (fun q5 => ?_) (fun q => absurd q (by decide))
    refine jr_aload_n 0 14 dX10_signOf_13 rfl rfl rfl ?_
    refine gf_X10_131 17 dX10_signOf_14 rfl rfl rfl rfl ?_
    refine jr_topi (y := (40 : Int32)) h3 ?_
    refine jr_iconst (5) 18 dX10_signOf_17 rfl rfl ?_
    refine jr_icmp_ne 26 21 dX10_signOf_18 rfl rfl (fun q18 => ?_) (fun q => absurd q (by decide))
    refine jr_aload_n 0 27 dX10_signOf_26 rfl rfl rfl ?_
    refine gf_X10_131 30 dX10_signOf_27 rfl rfl rfl rfl ?_
    refine jr_topi (y := (40 : Int32)) h3 ?_
    refine jr_bipush (60) 32 dX10_signOf_30 rfl rfl ?_
    refine jr_icmp_ne 40 35 dX10_signOf_32 rfl rfl (fun q32 => ?_) (fun q => absurd q (by decide))
    refine jr_aload_n 0 41 dX10_signOf_40 rfl rfl rfl ?_
    refine gf_X10_131 44 dX10_signOf_41 rfl rfl rfl rfl ?_
    refine jr_topi (y := (40 : Int32)) h3 ?_
    refine jr_bipush (61) 46 dX10_signOf_44 rfl rfl ?_
    refine jr_icmp_ne 54 49 dX10_signOf_46 rfl rfl (fun q46 => ?_) (fun q => absurd q (by decide))
    refine jr_aload_n 0 55 dX10_signOf_54 rfl rfl rfl ?_
    refine gf_X10_131 58 dX10_signOf_55 rfl rfl rfl rfl ?_
    refine jr_topi (y := (40 : Int32)) h3 ?_
    refine jr_bipush (43) 60 dX10_signOf_58 rfl rfl ?_
    refine jr_icmp_ne 68 63 dX10_signOf_60 rfl rfl (fun q60 => ?_) (fun q => absurd q (by decide))
    refine jr_aload_n 0 69 dX10_signOf_68 rfl rfl rfl ?_
    refine gf_X10_131 72 dX10_signOf_69 rfl rfl rfl rfl ?_
    refine jr_topi (y := (40 : Int32)) h3 ?_
    refine jr_bipush (45) 74 dX10_signOf_72 rfl rfl ?_
    refine jr_icmp_ne 82 77 dX10_signOf_74 rfl rfl (fun q74 => ?_) (fun q => absurd q (by decide))
    refine jr_aload_n 0 83 dX10_signOf_82 rfl rfl rfl ?_
    refine gf_X10_131 86 dX10_signOf_83 rfl rfl rfl rfl ?_
    refine jr_topi (y := (40 : Int32)) h3 ?_
    refine jr_bipush (42) 88 dX10_signOf_86 rfl rfl ?_
    refine jr_icmp_ne 96 91 dX10_signOf_88 rfl rfl (fun q88 => ?_) (fun q => absurd q (by decide))
    refine jr_iconst ((-1)) 97 dX10_signOf_96 rfl rfl ?_
    refine jr_ireturn dX10_signOf_97 rfl rfl ?_
    exact h
  · refine jr_enter (L := [some (.ref 46)]) (by decide) (Nat.le_of_ble_eq_true rfl) rfl ?_
    refine jr_aload_n 0 1 dX10_signOf_0 rfl rfl rfl ?_
    refine gf_X10_131 4 dX10_signOf_1 rfl rfl rfl rfl ?_
    refine jr_topi (y := (41 : Int32)) h3 ?_
    refine jr_iconst (4) 5 dX10_signOf_4 rfl rfl ?_
    refine jr_icmp_ne 13 8 dX10_signOf_5 rfl rfl (fun q5 => ?_) (fun q => absurd q (by decide))
    refine jr_aload_n 0 14 dX10_signOf_13 rfl rfl rfl ?_
    refine gf_X10_131 17 dX10_signOf_14 rfl rfl rfl rfl ?_
    refine jr_topi (y := (41 : Int32)) h3 ?_
    refine jr_iconst (5) 18 dX10_signOf_17 rfl rfl ?_
    refine jr_icmp_ne 26 21 dX10_signOf_18 rfl rfl (fun q18 => ?_) (fun q => absurd q (by decide))
    refine jr_aload_n 0 27 dX10_signOf_26 rfl rfl rfl ?_
    refine gf_X10_131 30 dX10_signOf_27 rfl rfl rfl rfl ?_
    refine jr_topi (y := (41 : Int32)) h3 ?_
    refine jr_bipush (60) 32 dX10_signOf_30 rfl rfl ?_
    refine jr_icmp_ne 40 35 dX10_signOf_32 rfl rfl (fun q32 => ?_) (fun q => absurd q (by decide))
    refine jr_aload_n 0 41 dX10_signOf_40 rfl rfl rfl ?_
    refine gf_X10_131 44 dX10_signOf_41 rfl rfl rfl rfl ?_
    refine jr_topi (y := (41 : Int32)) h3 ?_
    refine jr_bipush (61) 46 dX10_signOf_44 rfl rfl ?_
    refine jr_icmp_ne 54 49 dX10_signOf_46 rfl rfl (fun q46 => ?_) (fun q => absurd q (by decide))
    refine jr_aload_n 0 55 dX10_signOf_54 rfl rfl rfl ?_
    refine gf_X10_131 58 dX10_signOf_55 rfl rfl rfl rfl ?_
    refine jr_topi (y := (41 : Int32)) h3 ?_
    refine jr_bipush (43) 60 dX10_signOf_58 rfl rfl ?_
    refine jr_icmp_ne 68 63 dX10_signOf_60 rfl rfl (fun q60 => ?_) (fun q => absurd q (by decide))
    refine jr_aload_n 0 69 dX10_signOf_68 rfl rfl rfl ?_
    refine gf_X10_131 72 dX10_signOf_69 rfl rfl rfl rfl ?_
    refine jr_topi (y := (41 : Int32)) h3 ?_
    refine jr_bipush (45) 74 dX10_signOf_72 rfl rfl ?_
    refine jr_icmp_ne 82 77 dX10_signOf_74 rfl rfl (fun q74 => ?_) (fun q => absurd q (by decide))
    refine jr_aload_n 0 83 dX10_signOf_82 rfl rfl rfl ?_
    refine gf_X10_131 86 dX10_signOf_83 rfl rfl rfl rfl ?_
    refine jr_topi (y := (41 : Int32)) h3 ?_
    refine jr_bipush (42) 88 dX10_signOf_86 rfl rfl ?_
    refine jr_icmp_ne 96 91 dX10_signOf_88 rfl rfl (fun q88 => ?_) (fun q => absurd q (by decide))
    refine jr_iconst ((-1)) 97 dX10_signOf_96 rfl rfl ?_
    refine jr_ireturn dX10_signOf_97 rfl rfl ?_
    exact h
  · refine jr_enter (L := [some (.ref 46)]) (by decide) (Nat.le_of_ble_eq_true rfl) rfl ?_
    refine jr_aload_n 0 1 dX10_signOf_0 rfl rfl rfl ?_
    refine gf_X10_131 4 dX10_signOf_1 rfl rfl rfl rfl ?_
    refine jr_topi (y := (59 : Int32)) h3 ?_
    refine jr_iconst (4) 5 dX10_signOf_4 rfl rfl ?_
    refine jr_icmp_ne 13 8 dX10_signOf_5 rfl rfl (fun q5 => ?_) (fun q => absurd q (by decide))
    refine jr_aload_n 0 14 dX10_signOf_13 rfl rfl rfl ?_
    refine gf_X10_131 17 dX10_signOf_14 rfl rfl rfl rfl ?_
    refine jr_topi (y := (59 : Int32)) h3 ?_
    refine jr_iconst (5) 18 dX10_signOf_17 rfl rfl ?_
    refine jr_icmp_ne 26 21 dX10_signOf_18 rfl rfl (fun q18 => ?_) (fun q => absurd q (by decide))
    refine jr_aload_n 0 27 dX10_signOf_26 rfl rfl rfl ?_
    refine gf_X10_131 30 dX10_signOf_27 rfl rfl rfl rfl ?_
    refine jr_topi (y := (59 : Int32)) h3 ?_
    refine jr_bipush (60) 32 dX10_signOf_30 rfl rfl ?_
    refine jr_icmp_ne 40 35 dX10_signOf_32 rfl rfl (fun q32 => ?_) (fun q => absurd q (by decide))
    refine jr_aload_n 0 41 dX10_signOf_40 rfl rfl rfl ?_
    refine gf_X10_131 44 dX10_signOf_41 rfl rfl rfl rfl ?_
    refine jr_topi (y := (59 : Int32)) h3 ?_
    refine jr_bipush (61) 46 dX10_signOf_44 rfl rfl ?_
    refine jr_icmp_ne 54 49 dX10_signOf_46 rfl rfl (fun q46 => ?_) (fun q => absurd q (by decide))
    refine jr_aload_n 0 55 dX10_signOf_54 rfl rfl rfl ?_
    refine gf_X10_131 58 dX10_signOf_55 rfl rfl rfl rfl ?_
    refine jr_topi (y := (59 : Int32)) h3 ?_
    refine jr_bipush (43) 60 dX10_signOf_58 rfl rfl ?_
    refine jr_icmp_ne 68 63 dX10_signOf_60 rfl rfl (fun q60 => ?_) (fun q => absurd q (by decide))
    refine jr_aload_n 0 69 dX10_signOf_68 rfl rfl rfl ?_
    refine gf_X10_131 72 dX10_signOf_69 rfl rfl rfl rfl ?_
    refine jr_topi (y := (59 : Int32)) h3 ?_
    refine jr_bipush (45) 74 dX10_signOf_72 rfl rfl ?_
    refine jr_icmp_ne 82 77 dX10_signOf_74 rfl rfl (fun q74 => ?_) (fun q => absurd q (by decide))
    refine jr_aload_n 0 83 dX10_signOf_82 rfl rfl rfl ?_
    refine gf_X10_131 86 dX10_signOf_83 rfl rfl rfl rfl ?_
    refine jr_topi (y := (59 : Int32)) h3 ?_
    refine jr_bipush (42) 88 dX10_signOf_86 rfl rfl ?_
    refine jr_icmp_ne 96 91 dX10_signOf_88 rfl rfl (fun q88 => ?_) (fun q => absurd q (by decide))
    refine jr_iconst ((-1)) 97 dX10_signOf_96 rfl rfl ?_
    refine jr_ireturn dX10_signOf_97 rfl rfl ?_
    exact h
  · refine jr_enter (L := [some (.ref 46)]) (by decide) (Nat.le_of_ble_eq_true rfl) rfl ?_
    refine jr_aload_n 0 1 dX10_signOf_0 rfl rfl rfl ?_
    refine gf_X10_131 4 dX10_signOf_1 rfl rfl rfl rfl ?_
    refine jr_topi (y := (0 : Int32)) h3 ?_
    refine jr_iconst (4) 5 dX10_signOf_4 rfl rfl ?_
    refine jr_icmp_ne 13 8 dX10_signOf_5 rfl rfl (fun q5 => ?_) (fun q => absurd q (by decide))
    refine jr_aload_n 0 14 dX10_signOf_13 rfl rfl rfl ?_
    refine gf_X10_131 17 dX10_signOf_14 rfl rfl rfl rfl ?_
    refine jr_topi (y := (0 : Int32)) h3 ?_
    refine jr_iconst (5) 18 dX10_signOf_17 rfl rfl ?_
    refine jr_icmp_ne 26 21 dX10_signOf_18 rfl rfl (fun q18 => ?_) (fun q => absurd q (by decide))
    refine jr_aload_n 0 27 dX10_signOf_26 rfl rfl rfl ?_
    refine gf_X10_131 30 dX10_signOf_27 rfl rfl rfl rfl ?_
    refine jr_topi (y := (0 : Int32)) h3 ?_
    refine jr_bipush (60) 32 dX10_signOf_30 rfl rfl ?_
    refine jr_icmp_ne 40 35 dX10_signOf_32 rfl rfl (fun q32 => ?_) (fun q => absurd q (by decide))
    refine jr_aload_n 0 41 dX10_signOf_40 rfl rfl rfl ?_
    refine gf_X10_131 44 dX10_signOf_41 rfl rfl rfl rfl ?_
    refine jr_topi (y := (0 : Int32)) h3 ?_
    refine jr_bipush (61) 46 dX10_signOf_44 rfl rfl ?_
    refine jr_icmp_ne 54 49 dX10_signOf_46 rfl rfl (fun q46 => ?_) (fun q => absurd q (by decide))
    refine jr_aload_n 0 55 dX10_signOf_54 rfl rfl rfl ?_
    refine gf_X10_131 58 dX10_signOf_55 rfl rfl rfl rfl ?_
    refine jr_topi (y := (0 : Int32)) h3 ?_
    refine jr_bipush (43) 60 dX10_signOf_58 rfl rfl ?_
    refine jr_icmp_ne 68 63 dX10_signOf_60 rfl rfl (fun q60 => ?_) (fun q => absurd q (by decide))
    refine jr_aload_n 0 69 dX10_signOf_68 rfl rfl rfl ?_
    refine gf_X10_131 72 dX10_signOf_69 rfl rfl rfl rfl ?_
    refine jr_topi (y := (0 : Int32)) h3 ?_
    refine jr_bipush (45) 74 dX10_signOf_72 rfl rfl ?_
    refine jr_icmp_ne 82 77 dX10_signOf_74 rfl rfl (fun q74 => ?_) (fun q => absurd q (by decide))
    refine jr_aload_n 0 83 dX10_signOf_82 rfl rfl rfl ?_
    refine gf_X10_131 86 dX10_signOf_83 rfl rfl rfl rfl ?_
    refine jr_topi (y := (0 : Int32)) h3 ?_
    refine jr_bipush (42) 88 dX10_signOf_86 rfl rfl ?_
    refine jr_icmp_ne 96 91 dX10_signOf_88 rfl rfl (fun q88 => ?_) (fun q => absurd q (by decide))
    refine jr_iconst ((-1)) 97 dX10_signOf_96 rfl rfl ?_
    refine jr_ireturn dX10_signOf_97 rfl rfl ?_
    exact h
  · refine jr_enter (L := [some (.ref 46)]) (by decide) (Nat.le_of_ble_eq_true rfl) rfl ?_
    refine jr_aload_n 0 1 dX10_signOf_0 rfl rfl rfl ?_
    refine gf_X10_131 4 dX10_signOf_1 rfl rfl rfl rfl ?_
    refine jr_topi (y := (-1 : Int32)) h3 ?_
    refine jr_iconst (4) 5 dX10_signOf_4 rfl rfl ?_
    refine jr_icmp_ne 13 8 dX10_signOf_5 rfl rfl (fun q5 => ?_) (fun q => absurd q (by decide))
    refine jr_aload_n 0 14 dX10_signOf_13 rfl rfl rfl ?_
    refine gf_X10_131 17 dX10_signOf_14 rfl rfl rfl rfl ?_
    refine jr_topi (y := (-1 : Int32)) h3 ?_
    refine jr_iconst (5) 18 dX10_signOf_17 rfl rfl ?_
    refine jr_icmp_ne 26 21 dX10_signOf_18 rfl rfl (fun q18 => ?_) (fun q => absurd q (by decide))
    refine jr_aload_n 0 27 dX10_signOf_26 rfl rfl rfl ?_
    refine gf_X10_131 30 dX10_signOf_27 rfl rfl rfl rfl ?_
    refine jr_topi (y := (-1 : Int32)) h3 ?_
    refine jr_bipush (60) 32 dX10_signOf_30 rfl rfl ?_
    refine jr_icmp_ne 40 35 dX10_signOf_32 rfl rfl (fun q32 => ?_) (fun q => absurd q (by decide))
    refine jr_aload_n 0 41 dX10_signOf_40 rfl rfl rfl ?_
    refine gf_X10_131 44 dX10_signOf_41 rfl rfl rfl rfl ?_
    refine jr_topi (y := (-1 : Int32)) h3 ?_
    refine jr_bipush (61) 46 dX10_signOf_44 rfl rfl ?_
    refine jr_icmp_ne 54 49 dX10_signOf_46 rfl rfl (fun q46 => ?_) (fun q => absurd q (by decide))
    refine jr_aload_n 0 55 dX10_signOf_54 rfl rfl rfl ?_
    refine gf_X10_131 58 dX10_signOf_55 rfl rfl rfl rfl ?_
    refine jr_topi (y := (-1 : Int32)) h3 ?_
    refine jr_bipush (43) 60 dX10_signOf_58 rfl rfl ?_
    refine jr_icmp_ne 68 63 dX10_signOf_60 rfl rfl (fun q60 => ?_) (fun q => absurd q (by decide))
    refine jr_aload_n 0 69 dX10_signOf_68 rfl rfl rfl ?_
    refine gf_X10_131 72 dX10_signOf_69 rfl rfl rfl rfl ?_
    refine jr_topi (y := (-1 : Int32)) h3 ?_
    refine jr_bipush (45) 74 dX10_signOf_72 rfl rfl ?_
    refine jr_icmp_ne 82 77 dX10_signOf_74 rfl rfl (fun q74 => ?_) (fun q => absurd q (by decide))
    refine jr_aload_n 0 83 dX10_signOf_82 rfl rfl rfl ?_
    refine gf_X10_131 86 dX10_signOf_83 rfl rfl rfl rfl ?_
    refine jr_topi (y := (-1 : Int32)) h3 ?_
    refine jr_bipush (42) 88 dX10_signOf_86 rfl rfl ?_
    refine jr_icmp_ne 96 91 dX10_signOf_88 rfl rfl (fun q88 => ?_) (fun q => absurd q (by decide))
    refine jr_iconst ((-1)) 97 dX10_signOf_96 rfl rfl ?_
    refine jr_ireturn dX10_signOf_97 rfl rfl ?_
    exact h

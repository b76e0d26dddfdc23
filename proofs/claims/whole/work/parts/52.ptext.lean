theorem iv_text {T T' : Nat → Nat → List Nat} {n n' nf nc : Nat} {kd se : Nat → Nat} {lw tp : Nat} {σ σ' : jr_Sg} (h : iv T n nf nc kd se lw tp σ) (hc : ∀ a, a ∈ [0, 6, 15, 16, 17, 18, 19, 20, 21, 22, 23, 33, 34, 35, 36, 37, 38, 39, 40, 41, 43, 44, 45, 47, 48, 49, 50, 51, 52, 53, 56, 57, 58, 59, 61, 70, 71] → σ' a = σ a) (hf : ∀ j, j ∈ [1, 6, 13, 14, 15, 16, 17, 39, 42, 45, 46] → σ' 46 j = σ 46 j) (hn : n ≤ n') (hC : ti_C T' n' σ') (hR : ti_R T' n' σ') (t1 : σ' 5 2 = 0) (t2 : σ' 46 9 = 0) : iv T' n' nf nc kd se lw 0 σ' := by
  obtain ⟨-, -, h3, -, h5, h6, h7, h8⟩ := h
  have c0 : σ' 0 = σ 0 := hc 0 (by decide)
  have c6 : σ' 6 = σ 6 := hc 6 (by decide)
  have c15 : σ' 15 = σ 15 := hc 15 (by decide)
  have c16 : σ' 16 = σ 16 := hc 16 (by decide)
  have c17 : σ' 17 = σ 17 := hc 17 (by decide)
  have c18 : σ' 18 = σ 18 := hc 18 (by decide)
  have c19 : σ' 19 = σ 19 := hc 19 (by decide)
  have c20 : σ' 20 = σ 20 := hc 20 (by decide)
  have c21 : σ' 21 = σ 21 := hc 21 (by decide)
  have c22 : σ' 22 = σ 22 := hc 22 (by decide)
  have c23 : σ' 23 = σ 23 := hc 23 (by decide)
  have c33 : σ' 33 = σ 33 := hc 33 (by decide)
  have c34 : σ' 34 = σ 34 := hc 34 (by decide)
  have c35 : σ' 35 = σ 35 := hc 35 (by decide)
  have c36 : σ' 36 = σ 36 := hc 36 (by decide)
  have c37 : σ' 37 = σ 37 := hc 37 (by decide)
  have c38 : σ' 38 = σ 38 := hc 38 (by decide)
  have c39 : σ' 39 = σ 39 := hc 39 (by decide)
  have c40 : σ' 40 = σ 40 := hc 40 (by decide)
  have c41 : σ' 41 = σ 41 := hc 41 (by decide)
  have c43 : σ' 43 = σ 43 := hc 43 (by decide)
  have c44 : σ' 44 = σ 44 := hc 44 (by decide)
  have c45 : σ' 45 = σ 45 := hc 45 (by decide)
  have c47 : σ' 47 = σ 47 := hc 47 (by decide)
  have c48 : σ' 48 = σ 48 := hc 48 (by decide)
  have c49 : σ' 49 = σ 49 := hc 49 (by decide)
  have c50 : σ' 50 = σ 50 := hc 50 (by decide)
  have c51 : σ' 51 = σ 51 := hc 51 (by decide)
  have c52 : σ' 52 = σ 52 := hc 52 (by decide)
  have c53 : σ' 53 = σ 53 := hc 53 (by decide)
  have c56 : σ' 56 = σ 56 := hc 56 (by decide)
  have c57 : σ' 57 = σ 57 := hc 57 (by decide)
  have c58 : σ' 58 = σ 58 := hc 58 (by decide)
  have c59 : σ' 59 = σ 59 := hc 59 (by decide)
  have c61 : σ' 61 = σ 61 := hc 61 (by decide)
  have c70 : σ' 70 = σ 70 := hc 70 (by decide)
  have c71 : σ' 71 = σ 71 := hc 71 (by decide)
  have f1 : σ' 46 1 = σ 46 1 := hf 1 (by decide)
  have f6 : σ' 46 6 = σ 46 6 := hf 6 (by decide)
  have f13 : σ' 46 13 = σ 46 13 := hf 13 (by decide)
  have f14 : σ' 46 14 = σ 46 14 := hf 14 (by decide)
  have f15 : σ' 46 15 = σ 46 15 := hf 15 (by decide)
  have f16 : σ' 46 16 = σ 46 16 := hf 16 (by decide)
  have f17 : σ' 46 17 = σ 46 17 := hf 17 (by decide)
  have f39 : σ' 46 39 = σ 46 39 := hf 39 (by decide)
  have f42 : σ' 46 42 = σ 46 42 := hf 42 (by decide)
  have f45 : σ' 46 45 = σ 46 45 := hf 45 (by decide)
  have f46 : σ' 46 46 = σ 46 46 := hf 46 (by decide)
  refine ⟨hC, hR, ?_, ⟨t1, t2, Nat.zero_le _, fun i hi => absurd hi (Nat.not_lt_zero i)⟩, ?_, ?_, ?_, ?_⟩
  · unfold iv_sc sc_ok sr_ok at h3 ⊢
    simp only [Nat.reduceAdd, c0, c6, c15, c16, c17, c18, c19, c20, c21, c22, c23, c33, c34, c35, c36, c37, c38, c39, c40, c41, c43, c44, c45, c47, c48, c49, c50, c51, c52, c53, c56, c57, c58, c59, c61, c70, c71, f1, f6, f13, f14, f15, f16, f17, f39, f42, f45, f46] at h3 ⊢
    exact ⟨h3.1, h3.2.1, h3.2.2.1, h3.2.2.2.1, Nat.lt_of_lt_of_le h3.2.2.2.2.1 hn, h3.2.2.2.2.2⟩
  · unfold iv_img at h5 ⊢
    simp only [c0, c6, c15, c16, c17, c18, c19, c20, c21, c22, c23, c33, c34, c35, c36, c37, c38, c39, c40, c41, c43, c44, c45, c47, c48, c49, c50, c51, c52, c53, c56, c57, c58, c59, c61, c70, c71, f1, f6, f13, f14, f15, f16, f17, f39, f42, f45, f46]
    rcases h5 with h5 | ⟨g1, g2, inf, inc, il, g3, g4, g5, g6, g7⟩
    · exact Or.inl h5
    · exact Or.inr ⟨g1, g2, inf, inc, il, g3, g4, g5, Nat.lt_of_lt_of_le g6 hn, g7⟩
  · unfold iv_sh at h6 ⊢
    simp only [c0, c6, c15, c16, c17, c18, c19, c20, c21, c22, c23, c33, c34, c35, c36, c37, c38, c39, c40, c41, c43, c44, c45, c47, c48, c49, c50, c51, c52, c53, c56, c57, c58, c59, c61, c70, c71, f1, f6, f13, f14, f15, f16, f17, f39, f42, f45, f46]
    exact h6
  · unfold iv_rest at h7 ⊢
    simp only [c0, c6, c15, c16, c17, c18, c19, c20, c21, c22, c23, c33, c34, c35, c36, c37, c38, c39, c40, c41, c43, c44, c45, c47, c48, c49, c50, c51, c52, c53, c56, c57, c58, c59, c61, c70, c71, f1, f6, f13, f14, f15, f16, f17, f39, f42, f45, f46]
    exact h7
  · unfold iv_wd at h8 ⊢
    simp only [c0, c6, c15, c16, c17, c18, c19, c20, c21, c22, c23, c33, c34, c35, c36, c37, c38, c39, c40, c41, c43, c44, c45, c47, c48, c49, c50, c51, c52, c53, c56, c57, c58, c59, c61, c70, c71, f1, f6, f13, f14, f15, f16, f17, f39, f42, f45, f46]
    exact h8
def tx_T (T : Nat → Nat → List Nat) (n : Nat) (w0 w1 w2 : List Nat) : Nat → Nat → List Nat := fun t p => if t = n then (if p = 0 then w0 else if p = 1 then w1 else w2) else T t p
theorem tx_o {T : Nat → Nat → List Nat} {n t : Nat} {w0 w1 w2 : List Nat} (h : t ≠ n) (p : Nat) : ti_o (tx_T T n w0 w1 w2) t p = ti_o T t p := by
  have e : ∀ q, tx_T T n w0 w1 w2 t q = T t q := fun q => by
    unfold tx_T
    rw [if_neg h]
  unfold ti_o
  split <;> simp only [e]
theorem tx_n {T : Nat → Nat → List Nat} {n : Nat} {w0 w1 w2 : List Nat} : tx_T T n w0 w1 w2 n 0 = w0 ∧ tx_T T n w0 w1 w2 n 1 = w1 ∧ tx_T T n w0 w1 w2 n 2 = w2 := by
  refine ⟨?_, ?_, ?_⟩ <;> (unfold tx_T; rw [if_pos rfl]; rfl)
theorem tx_on {T : Nat → Nat → List Nat} {n : Nat} {w0 w1 w2 : List Nat} : ti_o (tx_T T n w0 w1 w2) n 0 = 0 ∧ ti_o (tx_T T n w0 w1 w2) n 1 = w0.length ∧ ti_o (tx_T T n w0 w1 w2) n 2 = w0.length + w1.length ∧ ti_o (tx_T T n w0 w1 w2) n 3 = w0.length + w1.length + w2.length := by
  obtain ⟨e0, e1, e2⟩ := tx_n (T := T) (n := n) (w0 := w0) (w1 := w1) (w2 := w2)
  refine ⟨rfl, ?_, ?_, ?_⟩
  · show (tx_T T n w0 w1 w2 n 0).length = _
    rw [e0]
  · show (tx_T T n w0 w1 w2 n 0).length + (tx_T T n w0 w1 w2 n 1).length = _
    rw [e0, e1]
  · show (tx_T T n w0 w1 w2 n 0).length + (tx_T T n w0 w1 w2 n 1).length + (tx_T T n w0 w1 w2 n 2).length = _
    rw [e0, e1, e2]
theorem cat_0 {w0 w1 w2 : List Nat} {i : Nat} (h : i < w0.length) : (w0 ++ w1 ++ w2).getD i 0 = w0.getD i 0 := by
  simp only [List.getD_eq_getElem?_getD]
  rw [List.getElem?_append_left (by rw [List.length_append]; omega), List.getElem?_append_left h]
theorem cat_1 {w0 w1 w2 : List Nat} {i : Nat} (h : i < w1.length) : (w0 ++ w1 ++ w2).getD (w0.length + i) 0 = w1.getD i 0 := by
  simp only [List.getD_eq_getElem?_getD]
  rw [List.getElem?_append_left (by rw [List.length_append]; omega), List.getElem?_append_right (by omega), Nat.add_sub_cancel_left]
theorem cat_2 {w0 w1 w2 : List Nat} {i : Nat} : (w0 ++ w1 ++ w2).getD (w0.length + w1.length + i) 0 = w2.getD i 0 := by
  simp only [List.getD_eq_getElem?_getD]
  rw [List.getElem?_append_right (by rw [List.length_append]; omega), List.length_append, Nat.add_sub_cancel_left]
theorem tx_C {T : Nat → Nat → List Nat} {n : Nat} {σ σ' : jr_Sg} {w0 w1 w2 : List Nat} (h : ti_C T n σ) (hn6 : n < 6) (h4 : σ' 1 4 = nI (n + 1)) (h2 : ∀ j, j < 160 * n → σ' 2 j = σ 2 j) (h3 : ∀ j, j < 3 * n → σ' 3 j = σ 3 j) (hl : w0.length + w1.length + w2.length ≤ 160) (g0 : ev_wf 0 w0) (g1 : ev_wf 0 w1) (g2 : ev_wf 0 w2) (hw : ∀ i, i < (w0 ++ w1 ++ w2).length → σ' 2 (160 * n + i) = ev_cc ((w0 ++ w1 ++ w2).getD i 0)) (e0 : σ' 3 (3 * n) = nI (160 * n + w0.length)) (e1 : σ' 3 (3 * n + 1) = nI (160 * n + (w0.length + w1.length))) (e2 : σ' 3 (3 * n + 2) = nI (160 * n + (w0.length + w1.length + w2.length))) : ti_C (tx_T T n w0 w1 w2) (n + 1) σ' := by
  obtain ⟨k0, k1, k2, k3⟩ := tx_on (T := T) (n := n) (w0 := w0) (w1 := w1) (w2 := w2)
  obtain ⟨t0, t1, t2⟩ := tx_n (T := T) (n := n) (w0 := w0) (w1 := w1) (w2 := w2)
  have hlen : (w0 ++ w1 ++ w2).length = w0.length + w1.length + w2.length := by simp [Nat.add_assoc]
  refine ⟨h4, by omega, fun t ht => ?_⟩
  by_cases z : t = n
  · subst z
    refine ⟨by rw [k3]; exact hl, fun p hp => ?_⟩
    rcases (by omega : p = 0 ∨ p = 1 ∨ p = 2) with rfl | rfl | rfl
    · rw [t0, k0, k1]
      exact ⟨g0, e0, fun i hi => by rw [Nat.add_zero, hw i (by omega), cat_0 hi]⟩
    · rw [t1, k1, k2]
      exact ⟨g1, e1, fun i hi => by rw [Nat.add_assoc, hw _ (by omega), cat_1 hi]⟩
    · rw [t2, k2, k3]
      exact ⟨g2, e2, fun i hi => by rw [Nat.add_assoc, hw _ (by omega), cat_2]⟩
  · obtain ⟨a1, a2⟩ := h.2.2 t (by omega)
    have ee : ∀ q, tx_T T n w0 w1 w2 t q = T t q := fun q => by
      unfold tx_T
      rw [if_neg z]
    refine ⟨by rw [tx_o z]; exact a1, fun p hp => ?_⟩
    obtain ⟨b1, b2, b3⟩ := a2 p hp
    have o1 := ti_o_succ T t p hp
    have o2 := ti_o_le T t (p + 1) (by omega)
    rw [ee, tx_o z, tx_o z]
    exact ⟨b1, by rw [h3 _ (by omega)]; exact b2, fun i hi => by rw [h2 _ (by omega)]; exact b3 i hi⟩
theorem tx_R {T : Nat → Nat → List Nat} {n : Nat} {σ σ' : jr_Sg} {w0 w1 w2 : List Nat} (h : ti_R T n σ) (hn6 : n < 6) (h4 : σ' 46 12 = nI (n + 1)) (h2 : ∀ j, j < 200 * n → σ' 54 j = σ 54 j) (h3 : ∀ j, j < 4 * n → σ' 55 j = σ 55 j) (hl : w0.length + w1.length + w2.length ≤ 160) (g0 : ev_wf 0 w0) (g1 : ev_wf 0 w1) (g2 : ev_wf 0 w2) (hw : ∀ i, i < (w0 ++ w1 ++ w2).length → σ' 54 (200 * n + i) = nI ((w0 ++ w1 ++ w2).getD i 0)) (es : σ' 55 (4 * n) = 0) (e0 : σ' 55 (4 * n + 1) = nI w0.length) (e1 : σ' 55 (4 * n + 2) = nI (w0.length + w1.length)) (e2 : σ' 55 (4 * n + 3) = nI (w0.length + w1.length + w2.length)) : ti_R (tx_T T n w0 w1 w2) (n + 1) σ' := by
  obtain ⟨k0, k1, k2, k3⟩ := tx_on (T := T) (n := n) (w0 := w0) (w1 := w1) (w2 := w2)
  obtain ⟨t0, t1, t2⟩ := tx_n (T := T) (n := n) (w0 := w0) (w1 := w1) (w2 := w2)
  have hlen : (w0 ++ w1 ++ w2).length = w0.length + w1.length + w2.length := by simp [Nat.add_assoc]
  refine ⟨h4, by omega, fun t ht => ?_⟩
  by_cases z : t = n
  · subst z
    refine ⟨by rw [k3]; exact hl, fun p hp => ?_, fun p hp => ?_⟩
    · rcases (by omega : p = 0 ∨ p = 1 ∨ p = 2 ∨ p = 3) with rfl | rfl | rfl | rfl
      · rw [k0]
        exact es
      · rw [k1]
        exact e0
      · rw [k2]
        exact e1
      · rw [k3]
        exact e2
    · rcases (by omega : p = 0 ∨ p = 1 ∨ p = 2) with rfl | rfl | rfl
      · rw [t0, k0]
        exact ⟨g0, fun i hi => by rw [Nat.add_zero, hw i (by omega), cat_0 hi]⟩
      · rw [t1, k1]
        exact ⟨g1, fun i hi => by rw [Nat.add_assoc, hw _ (by omega), cat_1 hi]⟩
      · rw [t2, k2]
        exact ⟨g2, fun i hi => by rw [Nat.add_assoc, hw _ (by omega), cat_2]⟩
  · obtain ⟨a1, a3, a2⟩ := h.2.2 t (by omega)
    have ee : ∀ q, tx_T T n w0 w1 w2 t q = T t q := fun q => by
      unfold tx_T
      rw [if_neg z]
    refine ⟨by rw [tx_o z]; exact a1, fun p hp => by rw [tx_o z, h3 _ (by omega)]; exact a3 p hp, fun p hp => ?_⟩
    obtain ⟨b1, b3⟩ := a2 p hp
    have o1 := ti_o_succ T t p hp
    have o2 := ti_o_le T t (p + 1) (by omega)
    rw [ee, tx_o z]
    exact ⟨b1, fun i hi => by rw [h2 _ (by omega)]; exact b3 i hi⟩
theorem tx_C0 {T : Nat → Nat → List Nat} {n : Nat} {σ σ' : jr_Sg} (h : ti_C T n σ) (h4 : σ' 1 4 = nI n) (h2 : ∀ j, j < 160 * n → σ' 2 j = σ 2 j) (h3 : ∀ j, j < 3 * n → σ' 3 j = σ 3 j) : ti_C T n σ' := by
  refine ⟨h4, h.2.1, fun t ht => ?_⟩
  obtain ⟨a1, a2⟩ := h.2.2 t ht
  refine ⟨a1, fun p hp => ?_⟩
  obtain ⟨b1, b2, b3⟩ := a2 p hp
  have o1 := ti_o_succ T t p hp
  have o2 := ti_o_le T t (p + 1) (by omega)
  exact ⟨b1, by rw [h3 _ (by omega)]; exact b2, fun i hi => by rw [h2 _ (by omega)]; exact b3 i hi⟩
theorem tx_R0 {T : Nat → Nat → List Nat} {n : Nat} {σ σ' : jr_Sg} (h : ti_R T n σ) (h4 : σ' 46 12 = nI n) (h2 : ∀ j, j < 200 * n → σ' 54 j = σ 54 j) (h3 : ∀ j, j < 4 * n → σ' 55 j = σ 55 j) : ti_R T n σ' := by
  refine ⟨h4, h.2.1, fun t ht => ?_⟩
  obtain ⟨a1, a3, a2⟩ := h.2.2 t ht
  refine ⟨a1, fun p hp => by rw [h3 _ (by omega)]; exact a3 p hp, fun p hp => ?_⟩
  obtain ⟨b1, b3⟩ := a2 p hp
  have o1 := ti_o_succ T t p hp
  have o2 := ti_o_le T t (p + 1) (by omega)
  exact ⟨b1, fun i hi => by rw [h2 _ (by omega)]; exact b3 i hi⟩
theorem pp_text {G : jr_G} {d : Nat} {σ : jr_Sg} (h : IV σ) : jr_pair G (d + 90) mi_X9_text mi_X10_text [] σ := by
  obtain ⟨T, n, nf, nc, kd, se, lw, tp, h⟩ := h
  have hh := h
  obtain ⟨hTC, hTR, ⟨hsc, hsr, hl1, hl2, hlw, hfc, hli, hca⟩, htp, himg, hsh, hrest, hwd⟩ := hh
  have hnf := hsc.1
  have h5 := hsc.2.1
  have hnc := hsc.2.2.1
  have h8 := hsc.2.2.2.1
  have rnf := hsr.1
  have rnc := hsr.2.2.1
  have hlm := hrest.2.2.2.1
  unfold jr_pair
  by_cases h6 : n = 6
  · subst h6
    refine jr_enter (L := [some (.ref 0), none]) (by decide) (Nat.le_of_ble_eq_true rfl) rfl ?_
    refine jr_aload_n 0 1 dX9_text_0 rfl rfl rfl ?_
    refine gf_X9_10 4 dX9_text_1 rfl rfl rfl rfl ?_
    refine gf_X9_91 7 dX9_text_4 rfl rfl rfl rfl ?_
    refine jr_topi (y := nI 6) hTC.1 ?_
    refine jr_bipush (6) 9 dX9_text_7 rfl rfl ?_
    refine jr_icmp_lt 15 12 dX9_text_9 rfl rfl (fun q => absurd q (by decide)) (fun q9 => ?_)
    refine jr_bipush ((-4)) 14 dX9_text_12 rfl rfl ?_
    refine jr_ireturn dX9_text_14 rfl rfl ?_
    refine jr_enter (L := [some (.ref 46), none, none]) (by decide) (Nat.le_of_ble_eq_true rfl) rfl ?_
    refine jr_aload_n 0 1 dX10_text_0 rfl rfl rfl ?_
    refine gf_X10_115 4 dX10_text_1 rfl rfl rfl rfl ?_
    refine jr_topi (y := nI 6) hTR.1 ?_
    refine jr_bipush (6) 6 dX10_text_4 rfl rfl ?_
    refine jr_icmp_ne 12 9 dX10_text_6 rfl rfl (fun q => absurd (by decide) q) (fun q6 => ?_)
    refine jr_bipush ((-4)) 11 dX10_text_9 rfl rfl ?_
    refine jr_ireturn dX10_text_11 rfl rfl ?_
    exact ⟨rfl, IV_mov (iv_same_x (jr_eqx_rf [] _) (by decide)) h⟩
  · have hn6 : n < 6 := by
      have := hTC.2.1
      omega
    have h160 := htp.2.2.1
    have hb : ∀ i, i < tp → σ 53 i = nI (σ 53 i).toNatClampNeg ∧ (σ 53 i).toNatClampNeg ≤ 255 := fun i hi => by
      obtain ⟨v, hv, e⟩ := (htp.2.2.2 i hi).2
      rw [e, nI_clamp (by omega)]
      exact ⟨rfl, hv⟩
    have htC : tC (fun i => (σ 53 i).toNatClampNeg) tp σ := ⟨htp.1, h160, fun i hi => ⟨(htp.2.2.2 i hi).1.trans (hb i hi).1, (hb i hi).2⟩⟩
    have htR : tR (fun i => (σ 53 i).toNatClampNeg) tp σ := ⟨htp.2.1, h160, hb, hwd⟩
    refine jr_enter (L := [some (.ref 0), none]) (by decide) (Nat.le_of_ble_eq_true rfl) rfl ?_
    refine jr_aload_n 0 1 dX9_text_0 rfl rfl rfl ?_
    refine gf_X9_10 4 dX9_text_1 rfl rfl rfl rfl ?_
    refine gf_X9_91 7 dX9_text_4 rfl rfl rfl rfl ?_
    refine jr_topi (y := nI n) hTC.1 ?_
    refine jr_bipush ((nI 6)) 9 dX9_text_7 rfl rfl ?_
    refine jr_icmp_lt 15 12 dX9_text_9 rfl rfl (fun q9 => ?_) (fun z => absurd (nI_lt hn6 (by decide)) z)
    refine jr_aload_n 0 16 dX9_text_15 rfl rfl rfl ?_
    refine gf_X9_21 19 dX9_text_16 rfl rfl rfl rfl ?_
    refine cs_X9_81 22 dX9_text_19 rfl rfl rfl (Nat.le_of_ble_eq_true rfl) (jq_to (wq_readTape (d := d + 8) htC hTC.1 hn6 (fun σ1 q ht hq f1 f2 f5 f6 f4 => ?_) (fun σ1 w0 w1 w2 ht f1 f2 f5 f6 f4 hl u0 u1 u2 p1 p2 p3 p4 => ?_)))
    · refine jr_istore_n 1 (L' := [_, _]) 23 dX9_text_22 rfl rfl (by decide) rfl ?_
      refine jr_iload_n 1 24 dX9_text_23 rfl rfl rfl ?_
      refine jr_if_lt 34 27 dX9_text_24 rfl rfl (fun z => absurd z (nI_pos (by omega))) (fun q24 => ?_)
      refine jr_bipush ((-100)) 29 dX9_text_27 rfl rfl ?_
      refine jr_iload_n 1 30 dX9_text_29 rfl rfl rfl ?_
      refine jr_isub 31 dX9_text_30 rfl ?_
      refine jr_goto 43 dX9_text_31 rfl ?_
      refine jr_ireturn dX9_text_43 rfl rfl ?_
      have htR1 : tR (fun i => (σ 53 i).toNatClampNeg) tp σ1 := by
        unfold tR iv_wd
        rw [f1 46 (by decide), f1 53 (by decide), f1 61 (by decide)]
        exact htR
      refine jr_M_mono (fun v σ h => h) (wp_rtext (d := d + 84) htR1 (by rw [f1 46 (by decide)]; exact hTR.1) hn6 ht (fun σ2 q2 eq s1 s2 s3 s4 s5 s6 => ?_) (fun σ2 w0 w1 w2 eq s1 s2 s3 s4 s5 s6 g1 g2 g3 g4 g5 => ?_))
      · have e : q = q2 := Sum.inl.inj eq
        subst e
        have cc : ∀ a, a ∈ [0, 6, 15, 16, 17, 18, 19, 20, 21, 22, 23, 33, 34, 35, 36, 37, 38, 39, 40, 41, 43, 44, 45, 47, 48, 49, 50, 51, 52, 53, 56, 57, 58, 59, 61, 70, 71] → σ2 a = σ a := fun a ha => by
          have k1 : ∀ a, a ∈ [0, 6, 15, 16, 17, 18, 19, 20, 21, 22, 23, 33, 34, 35, 36, 37, 38, 39, 40, 41, 43, 44, 45, 47, 48, 49, 50, 51, 52, 53, 56, 57, 58, 59, 61, 70, 71] → a ∉ [1, 2, 3, 5] ∧ a ∉ [46, 54, 55, 62] := by decide
          exact (s1 a (k1 a ha).2).trans (f1 a (k1 a ha).1)
        have cf : ∀ j, j ∈ [1, 6, 13, 14, 15, 16, 17, 39, 42, 45, 46] → σ2 46 j = σ 46 j := fun j hj => by
          have k1 : ∀ j, j ∈ [1, 6, 13, 14, 15, 16, 17, 39, 42, 45, 46] → j ∉ [9, 12, 23, 24, 25, 26, 29, 30, 31] := by decide
          exact (s2 j (k1 j hj)).trans (congrFun (f1 46 (by decide)) j)
        refine ⟨rfl, T, n, nf, nc, kd, se, lw, 0, iv_text h cc cf (Nat.le_refl _) ?_ ?_ ?_ s3⟩
        · exact tx_C0 hTC (by rw [s1 1 (by decide)]; exact f4) (fun j hj => by rw [s1 2 (by decide)]; exact f5 j hj) (fun j hj => by rw [s1 3 (by decide)]; exact f6 j hj)
        · exact tx_R0 hTR s6 (fun j hj => by rw [s4 j hj, f1 54 (by decide)]) (fun j hj => by rw [s5 j hj, f1 55 (by decide)])
        · rw [s1 5 (by decide)]
          exact f2
      · cases eq
    · refine jr_istore_n 1 (L' := [_, _]) 23 dX9_text_22 rfl rfl (by decide) rfl ?_
      refine jr_iload_n 1 24 dX9_text_23 rfl rfl rfl ?_
      refine jr_if_lt 34 27 dX9_text_24 rfl rfl (fun q24 => ?_) (fun z => absurd (by decide) z)
      refine jr_aload_n 0 35 dX9_text_34 rfl rfl rfl ?_
      refine gf_X9_10 38 dX9_text_35 rfl rfl rfl rfl ?_
      refine gf_X9_91 41 dX9_text_38 rfl rfl rfl rfl ?_
      refine jr_topi (y := nI (n + 1)) f4 ?_
      refine jr_iconst (1) 42 dX9_text_41 rfl rfl ?_
      refine jr_isub 43 dX9_text_42 rfl ?_
      rw [show (1 : Int32) = nI 1 from rfl, pk_sub (by omega), Nat.add_sub_cancel]
      refine jr_ireturn dX9_text_43 rfl rfl ?_
      have htR1 : tR (fun i => (σ 53 i).toNatClampNeg) tp σ1 := by
        unfold tR iv_wd
        rw [f1 46 (by decide), f1 53 (by decide), f1 61 (by decide)]
        exact htR
      refine jr_M_mono (fun v σ h => h) (wp_rtext (d := d + 84) htR1 (by rw [f1 46 (by decide)]; exact hTR.1) hn6 ht (fun σ2 q2 eq s1 s2 s3 s4 s5 s6 => ?_) (fun σ2 v0 v1 v2 eq s1 s2 s3 s4 s5 s6 g1 g2 g3 g4 g5 => ?_))
      · cases eq
      · have e := Sum.inr.inj eq
        have e0 : w0 = v0 := (List.cons.inj e).1
        have e1 : w1 = v1 := (List.cons.inj (List.cons.inj e).2).1
        have e2 : w2 = v2 := (List.cons.inj (List.cons.inj (List.cons.inj e).2).2).1
        subst e0
        subst e1
        subst e2
        have cc : ∀ a, a ∈ [0, 6, 15, 16, 17, 18, 19, 20, 21, 22, 23, 33, 34, 35, 36, 37, 38, 39, 40, 41, 43, 44, 45, 47, 48, 49, 50, 51, 52, 53, 56, 57, 58, 59, 61, 70, 71] → σ2 a = σ a := fun a ha => by
          have k1 : ∀ a, a ∈ [0, 6, 15, 16, 17, 18, 19, 20, 21, 22, 23, 33, 34, 35, 36, 37, 38, 39, 40, 41, 43, 44, 45, 47, 48, 49, 50, 51, 52, 53, 56, 57, 58, 59, 61, 70, 71] → a ∉ [1, 2, 3, 5] ∧ a ∉ [46, 54, 55, 62] := by decide
          exact (s1 a (k1 a ha).2).trans (f1 a (k1 a ha).1)
        have cf : ∀ j, j ∈ [1, 6, 13, 14, 15, 16, 17, 39, 42, 45, 46] → σ2 46 j = σ 46 j := fun j hj => by
          have k1 : ∀ j, j ∈ [1, 6, 13, 14, 15, 16, 17, 39, 42, 45, 46] → j ∉ [9, 12, 23, 24, 25, 26, 29, 30, 31] := by decide
          exact (s2 j (k1 j hj)).trans (congrFun (f1 46 (by decide)) j)
        refine ⟨rfl, tx_T T n w0 w1 w2, n + 1, nf, nc, kd, se, lw, 0, iv_text h cc cf (by omega) ?_ ?_ ?_ s3⟩
        · exact tx_C hTC hn6 (by rw [s1 1 (by decide)]; exact f4) (fun j hj => by rw [s1 2 (by decide)]; exact f5 j hj) (fun j hj => by rw [s1 3 (by decide)]; exact f6 j hj) hl u0 u1 u2 (fun i hi => by rw [s1 2 (by decide)]; exact p1 i hi) (by rw [s1 3 (by decide)]; exact p2) (by rw [s1 3 (by decide)]; exact p3) (by rw [s1 3 (by decide)]; exact p4)
        · exact tx_R hTR hn6 s6 (fun j hj => by rw [s4 j hj, f1 54 (by decide)]) (fun j hj => by rw [s5 j hj, f1 55 (by decide)]) hl u0 u1 u2 g1 g2 g3 g4 g5
        · rw [s1 5 (by decide)]
          exact f2

theorem wq_write {G : jq_G} {d : Nat} {σ : jr_Sg} {k : jr_Sg → Prop} {n x : Nat} {c : Int32} (hn : σ 1 4 = nI n) (hn6 : n < 6) (hx : σ 1 3 = nI x) (hx2 : x < 160) (h : k (jr_up (jr_up σ 2 (160 * n + x) c) 1 3 (nI (x + 1)))) : jq_M G d mi_X6_write [.ref 1, .int c] σ (jr_kv k) := by
  refine jq_enter (L := [some (.ref 1), some (.int c), none]) (by decide) (Nat.le_of_ble_eq_true rfl) rfl ?_
  refine jq_aload_n 0 1 dX6_write_0 rfl rfl rfl ?_
  refine qf_X6_25 4 dX6_write_1 rfl rfl rfl rfl ?_
  refine jq_topi (y := nI n) hn ?_
  refine jq_sipush (nI 160) 7 dX6_write_4 rfl rfl ?_
  refine jq_imul 8 dX6_write_7 rfl ?_
  rw [pk_mul]
  refine jq_aload_n 0 9 dX6_write_8 rfl rfl rfl ?_
  refine qf_X6_21 12 dX6_write_9 rfl rfl rfl rfl ?_
  refine jq_topi (y := nI x) hx ?_
  refine jq_iadd 13 dX6_write_12 rfl ?_
  rw [nI_add]
  refine jq_istore_n 2 (L' := [_, _, _]) 14 dX6_write_13 rfl rfl (by decide) rfl ?_
  refine jq_aload_n 0 15 dX6_write_14 rfl rfl rfl ?_
  refine qf_X6_25 18 dX6_write_15 rfl rfl rfl rfl ?_
  refine jq_topi (y := nI n) hn ?_
  refine jq_if_lt 64 21 dX6_write_18 rfl rfl (fun z => absurd z (nI_pos (by omega))) (fun q18 => ?_)
  refine jq_aload_n 0 22 dX6_write_21 rfl rfl rfl ?_
  refine qf_X6_25 25 dX6_write_22 rfl rfl rfl rfl ?_
  refine jq_topi (y := nI n) hn ?_
  refine jq_bipush (nI 6) 27 dX6_write_25 rfl rfl ?_
  refine jq_icmp_ge 64 30 dX6_write_27 rfl rfl (fun z => absurd z (nI_ge (b := 6) hn6 (by omega))) (fun q27 => ?_)
  refine jq_aload_n 0 31 dX6_write_30 rfl rfl rfl ?_
  refine qf_X6_21 34 dX6_write_31 rfl rfl rfl rfl ?_
  refine jq_topi (y := nI x) hx ?_
  refine jq_if_lt 64 37 dX6_write_34 rfl rfl (fun z => absurd z (nI_pos (by omega))) (fun q34 => ?_)
  refine jq_aload_n 0 38 dX6_write_37 rfl rfl rfl ?_
  refine qf_X6_21 41 dX6_write_38 rfl rfl rfl rfl ?_
  refine jq_topi (y := nI x) hx ?_
  refine jq_sipush (nI 160) 44 dX6_write_41 rfl rfl ?_
  refine jq_icmp_ge 64 47 dX6_write_44 rfl rfl (fun z => absurd z (nI_ge (b := 160) hx2 (by omega))) (fun q44 => ?_)
  refine jq_aload_n 0 48 dX6_write_47 rfl rfl rfl ?_
  refine qf_X6_9 51 dX6_write_48 rfl rfl rfl rfl ?_
  refine jq_iload_n 2 52 dX6_write_51 rfl rfl rfl ?_
  refine jq_iload_n 1 53 dX6_write_52 rfl rfl rfl ?_
  refine jq_iast rfl (k := 160 * n + x) (by rw [Nat.mul_comm]) (by omega) 54 dX6_write_53 rfl ?_
  refine jq_aload_n 0 55 dX6_write_54 rfl rfl rfl ?_
  refine jq_dup 56 dX6_write_55 rfl rfl ?_
  refine qf_X6_21 59 dX6_write_56 rfl rfl rfl rfl ?_
  refine jq_topi (y := nI x) hx ?_
  refine jq_iconst (nI 1) 60 dX6_write_59 rfl rfl ?_
  refine jq_iadd 61 dX6_write_60 rfl ?_
  rw [nI_add]
  refine qp_X6_21 64 dX6_write_61 rfl rfl rfl rfl ?_
  refine jq_return dX6_write_64 rfl ?_
  exact h
theorem wq_write0 {G : jq_G} {d : Nat} {σ : jr_Sg} {k : jr_Sg → Prop} {n : Nat} {c : Int32} (hn : σ 1 4 = nI n) (hn6 : n < 6) (hx : σ 1 3 = nI 160) (h : k σ) : jq_M G d mi_X6_write [.ref 1, .int c] σ (jr_kv k) := by
  refine jq_enter (L := [some (.ref 1), some (.int c), none]) (by decide) (Nat.le_of_ble_eq_true rfl) rfl ?_
  refine jq_aload_n 0 1 dX6_write_0 rfl rfl rfl ?_
  refine qf_X6_25 4 dX6_write_1 rfl rfl rfl rfl ?_
  refine jq_topi (y := nI n) hn ?_
  refine jq_sipush (nI 160) 7 dX6_write_4 rfl rfl ?_
  refine jq_imul 8 dX6_write_7 rfl ?_
  rw [pk_mul]
  refine jq_aload_n 0 9 dX6_write_8 rfl rfl rfl ?_
  refine qf_X6_21 12 dX6_write_9 rfl rfl rfl rfl ?_
  refine jq_topi (y := nI 160) hx ?_
  refine jq_iadd 13 dX6_write_12 rfl ?_
  rw [nI_add]
  refine jq_istore_n 2 (L' := [_, _, _]) 14 dX6_write_13 rfl rfl (by decide) rfl ?_
  refine jq_aload_n 0 15 dX6_write_14 rfl rfl rfl ?_
  refine qf_X6_25 18 dX6_write_15 rfl rfl rfl rfl ?_
  refine jq_topi (y := nI n) hn ?_
  refine jq_if_lt 64 21 dX6_write_18 rfl rfl (fun z => absurd z (nI_pos (by omega))) (fun q18 => ?_)
  refine jq_aload_n 0 22 dX6_write_21 rfl rfl rfl ?_
  refine qf_X6_25 25 dX6_write_22 rfl rfl rfl rfl ?_
  refine jq_topi (y := nI n) hn ?_
  refine jq_bipush (nI 6) 27 dX6_write_25 rfl rfl ?_
  refine jq_icmp_ge 64 30 dX6_write_27 rfl rfl (fun z => absurd z (nI_ge (b := 6) hn6 (by omega))) (fun q27 => ?_)
  refine jq_aload_n 0 31 dX6_write_30 rfl rfl rfl ?_
  refine qf_X6_21 34 dX6_write_31 rfl rfl rfl rfl ?_
  refine jq_topi (y := nI 160) hx ?_
  refine jq_if_lt 64 37 dX6_write_34 rfl rfl (fun z => absurd z (by decide)) (fun q34 => ?_)
  refine jq_aload_n 0 38 dX6_write_37 rfl rfl rfl ?_
  refine qf_X6_21 41 dX6_write_38 rfl rfl rfl rfl ?_
  refine jq_topi (y := nI 160) hx ?_
  refine jq_sipush (nI 160) 44 dX6_write_41 rfl rfl ?_
  refine jq_icmp_ge 64 47 dX6_write_44 rfl rfl (fun q44 => ?_) (fun z => absurd (by decide) z)
  refine jq_return dX6_write_64 rfl ?_
  exact h
theorem wq_wrA {G : jq_G} {d : Nat} {σ0 σ : jr_Sg} {k : jr_Sg → Prop} {b : Nat → Nat} {tp n p o : Nat} {O : List Nat} {c : Int32} (hA : cA b tp n σ0 σ p O) (hO : O.length < 160) (hc : c = ev_cc o) (h : ∀ σ', cA b tp n σ0 σ' p (O ++ [o]) → k σ') : jq_M G d mi_X6_write [.ref 1, .int c] σ (jr_kv k) :=
  wq_write hA.2.2.1.1 hA.2.2.1.2 hA.2.2.2.2.2.2.1 hO (h _ (cA_wr hA hc))
theorem wq_wrF {G : jq_G} {d : Nat} {σ0 σ : jr_Sg} {k : jr_Sg → Prop} {n q : Nat} {c : Int32} (hF : cF n σ0 σ q) (h : ∀ σ', cF n σ0 σ' q → k σ') : jq_M G d mi_X6_write [.ref 1, .int c] σ (jr_kv k) := by
  obtain ⟨x, hx, e⟩ := hF.2.2.2.2.2.1
  rcases Nat.lt_or_eq_of_le hx with z | rfl
  · exact wq_write hF.2.1.1 hF.2.1.2 e z (h _ (cF_wr hF z))
  · exact wq_write0 hF.2.1.1 hF.2.1.2 e (h _ hF)
theorem wq_next {G : jq_G} {d : Nat} {σ0 σ : jr_Sg} {k : jr_Sg → Prop} {b : Nat → Nat} {tp n p : Nat} {O : List Nat} (hA : cA b tp n σ0 σ p O) (h : ∀ σ', cA b tp n σ0 σ' (lx_n b tp p) O → k σ') : jq_M G (d + 6) mi_X2_step [.ref 5] σ (jr_kv k) :=
  wq_step hA.2.1 (lx_n_le hA.2.2.2.2.2.1) hA.2.2.2.2.1.2.2.2 (fun σ' f l => h σ' (cA_q5 hA f l (lx_n_le hA.2.2.2.2.2.1)))
theorem sg_same {σ : jr_Sg} {i j : Nat} {v : Int32} (h : σ i j = v) : jr_up σ i j v = σ := by
  funext a
  unfold jr_up
  split
  · next e =>
    rw [e]
    funext x
    unfold upd
    split
    · next e2 => rw [e2, h]
    · rfl
  · rfl
theorem wq_failA {G : jq_G} {d : Nat} {σ0 σ : jr_Sg} {k : jr_Sg → Prop} {b : Nat → Nat} {tp n p : Nat} {O : List Nat} (hA : cA b tp n σ0 σ p O) (hO : O.length ≤ 160) (h : ∀ σ', cF n σ0 σ' (lx_b b tp p) → k σ') : jq_M G d mi_X2_fail [.ref 5] σ (jr_kv k) := by
  refine jq_enter (L := [some (.ref 5)]) (by decide) (Nat.le_of_ble_eq_true rfl) rfl ?_
  refine jq_aload_n 0 1 dX2_fail_0 rfl rfl rfl ?_
  refine qf_X2_33 4 dX2_fail_1 rfl rfl rfl rfl ?_
  refine jq_topi (y := -1) hA.2.2.2.1 ?_
  refine jq_iconst ((-1)) 5 dX2_fail_4 rfl rfl ?_
  refine jq_icmp_ne 16 8 dX2_fail_5 rfl rfl (fun q => absurd (by decide) q) (fun q5 => ?_)
  refine jq_aload_n 0 9 dX2_fail_8 rfl rfl rfl ?_
  refine jq_aload_n 0 10 dX2_fail_9 rfl rfl rfl ?_
  refine qf_X2_27 13 dX2_fail_10 rfl rfl rfl rfl ?_
  refine jq_topi (y := nI (lx_b b tp p)) hA.2.2.2.2.1.2.2.1 ?_
  refine qp_X2_33 16 dX2_fail_13 rfl rfl rfl rfl ?_
  refine jq_aload_n 0 17 dX2_fail_16 rfl rfl rfl ?_
  refine jq_bipush ((-24)) 19 dX2_fail_17 rfl rfl ?_
  refine qp_X2_21 22 dX2_fail_19 rfl rfl rfl rfl ?_
  refine jq_return dX2_fail_22 rfl ?_
  exact h _ (cA_fl hA hO (fr5_up (fr5_up (fr5_rf _ _) (by decide)) (by decide)) rfl rfl)
theorem wq_failF {G : jq_G} {d : Nat} {σ0 σ : jr_Sg} {k : jr_Sg → Prop} {n q : Nat} (hF : cF n σ0 σ q) (h : k σ) : jq_M G d mi_X2_fail [.ref 5] σ (jr_kv k) := by
  have hq := hF.2.2.2.1
  refine jq_enter (L := [some (.ref 5)]) (by decide) (Nat.le_of_ble_eq_true rfl) rfl ?_
  refine jq_aload_n 0 1 dX2_fail_0 rfl rfl rfl ?_
  refine qf_X2_33 4 dX2_fail_1 rfl rfl rfl rfl ?_
  refine jq_topi (y := nI q) hF.2.2.1 ?_
  refine jq_iconst ((-1)) 5 dX2_fail_4 rfl rfl ?_
  refine jq_icmp_ne 16 8 dX2_fail_5 rfl rfl (fun q5 => ?_) (fun z => absurd z.symm (jr_m1 (by omega)))
  refine jq_aload_n 0 17 dX2_fail_16 rfl rfl rfl ?_
  refine jq_bipush ((-24)) 19 dX2_fail_17 rfl rfl ?_
  refine qp_X2_21 22 dX2_fail_19 rfl rfl rfl rfl ?_
  refine jq_return dX2_fail_22 rfl ?_
  rw [sg_same (v := -24) hF.2.2.2.2.1]
  exact h
theorem wq_expT {G : jq_G} {d : Nat} {σ0 σ : jr_Sg} {k : jr_Sg → Prop} {b : Nat → Nat} {tp n p c : Nat} {O : List Nat} (hA : cA b tp n σ0 σ p O) (ht : lx_t b tp p = c) (h : ∀ σ', cA b tp n σ0 σ' (lx_n b tp p) O → k σ') : jq_M G (d + 7) mi_X2_expect [.ref 5, .int (tk c)] σ (jr_kv k) := by
  refine jq_enter (L := [some (.ref 5), some (.int (tk c))]) (by decide) (Nat.le_of_ble_eq_true rfl) rfl ?_
  refine jq_aload_n 0 1 dX2_expect_0 rfl rfl rfl ?_
  refine qf_X2_21 4 dX2_expect_1 rfl rfl rfl rfl ?_
  refine jq_topi (y := tk c) (hA.2.2.2.2.1.1.trans (congrArg tk ht)) ?_
  refine jq_iload_n 1 5 dX2_expect_4 rfl rfl rfl ?_
  refine jq_icmp_ne 15 8 dX2_expect_5 rfl rfl (fun z => absurd rfl z) (fun q5 => ?_)
  refine jq_aload_n 0 9 dX2_expect_8 rfl rfl rfl ?_
  refine qs_X2_45 12 dX2_expect_9 rfl rfl rfl (Nat.le_of_ble_eq_true rfl) (wq_next hA (fun σ1 hA1 => ?_))
  refine jq_goto 19 dX2_expect_12 rfl ?_
  refine jq_return dX2_expect_19 rfl ?_
  exact h σ1 hA1
theorem wq_expN {G : jq_G} {d : Nat} {σ0 σ : jr_Sg} {k : jr_Sg → Prop} {b : Nat → Nat} {tp n p c : Nat} {O : List Nat} (hA : cA b tp n σ0 σ p O) (hO : O.length ≤ 160) (hc : c ≤ 24) (ht : lx_t b tp p ≠ c) (h : ∀ σ', cF n σ0 σ' (lx_b b tp p) → k σ') : jq_M G (d + 7) mi_X2_expect [.ref 5, .int (tk c)] σ (jr_kv k) := by
  refine jq_enter (L := [some (.ref 5), some (.int (tk c))]) (by decide) (Nat.le_of_ble_eq_true rfl) rfl ?_
  refine jq_aload_n 0 1 dX2_expect_0 rfl rfl rfl ?_
  refine qf_X2_21 4 dX2_expect_1 rfl rfl rfl rfl ?_
  refine jq_topi (y := tk (lx_t b tp p)) hA.2.2.2.2.1.1 ?_
  refine jq_iload_n 1 5 dX2_expect_4 rfl rfl rfl ?_
  refine jq_icmp_ne 15 8 dX2_expect_5 rfl rfl (fun q5 => ?_) (fun z => absurd z (tk_ne (lx_t_le b tp p).2.1 hc ht))
  refine jq_aload_n 0 16 dX2_expect_15 rfl rfl rfl ?_
  refine qs_X2_62 19 dX2_expect_16 rfl rfl rfl (Nat.le_of_ble_eq_true rfl) (wq_failA hA hO (fun σ1 hF => ?_))
  refine jq_return dX2_expect_19 rfl ?_
  exact h σ1 hF
theorem wq_expF {G : jq_G} {d : Nat} {σ0 σ : jr_Sg} {k : jr_Sg → Prop} {n q c : Nat} (hF : cF n σ0 σ q) (hc : c < 24) (h : k σ) : jq_M G (d + 7) mi_X2_expect [.ref 5, .int (tk c)] σ (jr_kv k) := by
  refine jq_enter (L := [some (.ref 5), some (.int (tk c))]) (by decide) (Nat.le_of_ble_eq_true rfl) rfl ?_
  refine jq_aload_n 0 1 dX2_expect_0 rfl rfl rfl ?_
  refine qf_X2_21 4 dX2_expect_1 rfl rfl rfl rfl ?_
  refine jq_topi (y := tk 24) hF.2.2.2.2.1 ?_
  refine jq_iload_n 1 5 dX2_expect_4 rfl rfl rfl ?_
  refine jq_icmp_ne 15 8 dX2_expect_5 rfl rfl (fun q5 => ?_) (fun z => absurd z (tk_ne (by decide) (by omega) (by omega)))
  refine jq_aload_n 0 16 dX2_expect_15 rfl rfl rfl ?_
  refine qs_X2_62 19 dX2_expect_16 rfl rfl rfl (Nat.le_of_ble_eq_true rfl) (wq_failF hF ?_)
  refine jq_return dX2_expect_19 rfl ?_
  exact h
theorem tk_nm : ∀ x : Fin 25, 1 ≤ x.val → (¬ 0 ≤ tk x.val) ∧ (x.val ≤ 6 → ¬ tk x.val < -6) ∧ (¬ x.val ≤ 6 → tk x.val < -6) := by decide +kernel
theorem wq_isNameT {G : jq_G} {d : Nat} {σ : jr_Sg} {k : Value → jr_Sg → Prop} {t : Nat} (h1 : 1 ≤ t) (h6 : t ≤ 6) (h : k (.int 1) σ) : jq_M G d mi_X8_isName [.int (tk t)] σ (jr_k k) := by
  have kk := tk_nm ⟨t, by omega⟩ h1
  refine jq_enter (L := [some (.int (tk t))]) (by decide) (Nat.le_of_ble_eq_true rfl) rfl ?_
  refine jq_iload_n 0 1 dX8_isName_0 rfl rfl rfl ?_
  refine jq_if_ge 14 4 dX8_isName_1 rfl rfl (fun z => absurd z kk.1) (fun q1 => ?_)
  refine jq_iload_n 0 5 dX8_isName_4 rfl rfl rfl ?_
  refine jq_bipush ((-6)) 7 dX8_isName_5 rfl rfl ?_
  refine jq_icmp_lt 14 10 dX8_isName_7 rfl rfl (fun z => absurd z (kk.2.1 h6)) (fun q7 => ?_)
  refine jq_iconst (1) 11 dX8_isName_10 rfl rfl ?_
  refine jq_goto 15 dX8_isName_11 rfl ?_
  refine jq_ireturn dX8_isName_15 rfl rfl ?_
  exact h
theorem wq_isNameF {G : jq_G} {d : Nat} {σ : jr_Sg} {k : Value → jr_Sg → Prop} {t : Nat} (h1 : 1 ≤ t) (h24 : t ≤ 24) (h6 : ¬ t ≤ 6) (h : k (.int 0) σ) : jq_M G d mi_X8_isName [.int (tk t)] σ (jr_k k) := by
  have kk := tk_nm ⟨t, by omega⟩ h1
  refine jq_enter (L := [some (.int (tk t))]) (by decide) (Nat.le_of_ble_eq_true rfl) rfl ?_
  refine jq_iload_n 0 1 dX8_isName_0 rfl rfl rfl ?_
  refine jq_if_ge 14 4 dX8_isName_1 rfl rfl (fun z => absurd z kk.1) (fun q1 => ?_)
  refine jq_iload_n 0 5 dX8_isName_4 rfl rfl rfl ?_
  refine jq_bipush ((-6)) 7 dX8_isName_5 rfl rfl ?_
  refine jq_icmp_lt 14 10 dX8_isName_7 rfl rfl (fun q7 => ?_) (fun z => absurd (kk.2.2 h6) z)
  refine jq_iconst (0) 15 dX8_isName_14 rfl rfl ?_
  refine jq_ireturn dX8_isName_15 rfl rfl ?_
  exact h
theorem st_num {b : Nat → Nat} {tp p m : Nat} {H O : List Nat} (hm : m ≠ 2) (ht : lx_t b tp p = 19) : au_st b tp p m H O = .inl (lx_n b tp p, (2, au_uw 7 H (O ++ [100000 + lx_v b tp p]))) := by
  unfold au_st
  rw [if_neg hm, if_pos ht]
theorem st_nam {b : Nat → Nat} {tp p m : Nat} {H O : List Nat} (hm : m ≠ 2) (ht : lx_t b tp p ≤ 6) : au_st b tp p m H O = .inl (lx_n b tp p, (2, au_uw 7 H (O ++ [lx_t b tp p - 1]))) := by
  unfold au_st
  rw [if_neg hm, if_neg (by omega), if_pos ht]
theorem st_not5 {b : Nat → Nat} {tp p m : Nat} {H O : List Nat} (hm : m = 1) (ht : lx_t b tp p = 9) (ho : au_op H = 5) : au_st b tp p m H O = .inr (.inl (lx_b b tp p)) := by
  unfold au_st
  rw [if_neg (by omega), if_neg (by omega), if_neg (by omega), if_pos ⟨ht, hm⟩, if_pos ho]
theorem st_not {b : Nat → Nat} {tp p m : Nat} {H O : List Nat} (hm : m = 1) (ht : lx_t b tp p = 9) (ho : au_op H ≠ 5) : au_st b tp p m H O = .inl (lx_n b tp p, (1, (13 :: H, O))) := by
  unfold au_st
  rw [if_neg (by omega), if_neg (by omega), if_neg (by omega), if_pos ⟨ht, hm⟩, if_neg ho]
theorem st_neg5 {b : Nat → Nat} {tp p m : Nat} {H O : List Nat} (hm : m ≠ 2) (ht : lx_t b tp p = 16) (ho : au_op H = 5) : au_st b tp p m H O = .inr (.inl (lx_b b tp p)) := by
  unfold au_st
  rw [if_neg hm, if_neg (by omega), if_neg (by omega), if_neg (by omega), if_pos ht, if_pos ho]
theorem st_neg {b : Nat → Nat} {tp p m : Nat} {H O : List Nat} (hm : m ≠ 2) (ht : lx_t b tp p = 16) (ho : au_op H ≠ 5) : au_st b tp p m H O = .inl (lx_n b tp p, (0, (19 :: H, O))) := by
  unfold au_st
  rw [if_neg hm, if_neg (by omega), if_neg (by omega), if_neg (by omega), if_pos ht, if_neg ho]
theorem st_opn5 {b : Nat → Nat} {tp p m : Nat} {H O : List Nat} (hm : m ≠ 2) (ht : lx_t b tp p = 20) (ho : au_op H = 5) : au_st b tp p m H O = .inr (.inl (lx_b b tp p)) := by
  unfold au_st
  rw [if_neg hm, if_neg (by omega), if_neg (by omega), if_neg (by omega), if_neg (by omega), if_pos ht, if_pos ho]
theorem st_opn {b : Nat → Nat} {tp p m : Nat} {H O : List Nat} (hm : m ≠ 2) (ht : lx_t b tp p = 20) (ho : au_op H ≠ 5) : au_st b tp p m H O = .inl (lx_n b tp p, (1, (0 :: H, O))) := by
  unfold au_st
  rw [if_neg hm, if_neg (by omega), if_neg (by omega), if_neg (by omega), if_neg (by omega), if_pos ht, if_neg ho]
theorem st_F {b : Nat → Nat} {tp p m : Nat} {H O : List Nat} (hm : m ≠ 2) (h19 : lx_t b tp p ≠ 19) (h6 : ¬ lx_t b tp p ≤ 6) (h9 : ¬ (lx_t b tp p = 9 ∧ m = 1)) (h16 : lx_t b tp p ≠ 16) (h20 : lx_t b tp p ≠ 20) : au_st b tp p m H O = .inr (.inl (lx_b b tp p)) := by
  unfold au_st
  rw [if_neg hm, if_neg h19, if_neg h6, if_neg h9, if_neg h16, if_neg h20]
theorem st_semi {b : Nat → Nat} {tp p : Nat} {H O H1 O1 : List Nat} (ht : lx_t b tp p = 22) (hu : au_uw 1 H O = ([], O1)) : au_st b tp p 2 H O = .inr (.inr (lx_n b tp p, O1)) := by
  unfold au_st
  rw [if_pos rfl, if_pos ht, hu, if_pos rfl]
theorem st_semiF {b : Nat → Nat} {tp p : Nat} {H O H1 O1 : List Nat} {s : Nat} (ht : lx_t b tp p = 22) (hu : au_uw 1 H O = (s :: H1, O1)) : au_st b tp p 2 H O = .inr (.inl (lx_b b tp p)) := by
  unfold au_st
  rw [if_pos rfl, if_pos ht, hu, if_neg (by simp)]
theorem st_cls {b : Nat → Nat} {tp p : Nat} {H O H1 O1 : List Nat} {s : Nat} (ht : lx_t b tp p = 21) (hu : au_uw 1 H O = (s :: H1, O1)) : au_st b tp p 2 H O = .inl (lx_n b tp p, (2, au_uw 7 H1 O1)) := by
  unfold au_st
  rw [if_pos rfl, if_neg (by omega), if_pos ht, hu]
  rfl
theorem st_clsF {b : Nat → Nat} {tp p : Nat} {H O H1 O1 : List Nat} (ht : lx_t b tp p = 21) (hu : au_uw 1 H O = ([], O1)) : au_st b tp p 2 H O = .inr (.inl (lx_b b tp p)) := by
  unfold au_st
  rw [if_pos rfl, if_neg (by omega), if_pos ht, hu]
  rfl
theorem st_bF {b : Nat → Nat} {tp p : Nat} {H O : List Nat} (h22 : lx_t b tp p ≠ 22) (h21 : lx_t b tp p ≠ 21) (hs : au_sg (lx_t b tp p) = 0) : au_st b tp p 2 H O = .inr (.inl (lx_b b tp p)) := by
  unfold au_st
  rw [if_pos rfl, if_neg h22, if_neg h21, if_pos hs]
theorem st_b4 {b : Nat → Nat} {tp p : Nat} {H O H1 O1 : List Nat} {t s : Nat} (ht : lx_t b tp p = t) (h : (t = 13 ∧ s = 14) ∨ (t = 14 ∧ s = 15)) (hu : au_uw 5 H O = (H1, O1)) (h4 : au_t4 H1 = false) : au_st b tp p 2 H O = .inl (lx_n b tp p, (0, (s :: H1, O1))) := by
  unfold au_st
  rcases h with ⟨rfl, rfl⟩ | ⟨rfl, rfl⟩
  · rw [ht, if_pos rfl, if_neg (by decide), if_neg (by decide), if_neg (by decide), if_pos (by decide), hu, if_neg (by rw [h4]; decide)]
    rfl
  · rw [ht, if_pos rfl, if_neg (by decide), if_neg (by decide), if_neg (by decide), if_pos (by decide), hu, if_neg (by rw [h4]; decide)]
    rfl
theorem st_b4F {b : Nat → Nat} {tp p : Nat} {H O : List Nat} (hs : au_sg (lx_t b tp p) ≠ 0) (hr : au_rk (au_sg (lx_t b tp p)) = 4) (h4 : au_t4 (au_uw 5 H O).1 = true) : au_st b tp p 2 H O = .inr (.inl (lx_b b tp p)) := by
  have e := au_sg_rk (lx_t b tp p)
  unfold au_st
  rw [if_pos rfl, if_neg (by omega), if_neg (by omega), if_neg hs, if_pos hr, if_pos h4]
theorem st_b {b : Nat → Nat} {tp p : Nat} {H O H1 O1 : List Nat} {t s r m' : Nat} (ht : lx_t b tp p = t) (h : (t = 7 ∧ s = 11 ∧ r = 1 ∧ m' = 1) ∨ (t = 8 ∧ s = 12 ∧ r = 2 ∧ m' = 1) ∨ (t = 15 ∧ s = 16 ∧ r = 5 ∧ m' = 0) ∨ (t = 16 ∧ s = 17 ∧ r = 5 ∧ m' = 0) ∨ (t = 17 ∧ s = 18 ∧ r = 6 ∧ m' = 0)) (hu : au_uw r H O = (H1, O1)) : au_st b tp p 2 H O = .inl (lx_n b tp p, (m', (s :: H1, O1))) := by
  unfold au_st
  rcases h with ⟨rfl, rfl, rfl, rfl⟩ | ⟨rfl, rfl, rfl, rfl⟩ | ⟨rfl, rfl, rfl, rfl⟩ | ⟨rfl, rfl, rfl, rfl⟩ | ⟨rfl, rfl, rfl, rfl⟩ <;>
  · rw [ht, if_pos rfl, if_neg (by decide), if_neg (by decide), if_neg (by decide), if_neg (by decide)]
    rw [show ∀ (X : Nat × (Nat × (List Nat × List Nat))) (Y : Nat × (Nat × (List Nat × List Nat))), X = Y → (Sum.inl X : au_S ⊕ au_R) = .inl Y from fun X Y e => by rw [e]]
    first
      | (rw [show au_rk (au_sg 7) = 1 from rfl, hu]; rfl)
      | (rw [show au_rk (au_sg 8) = 2 from rfl, hu]; rfl)
      | (rw [show au_rk (au_sg 15) = 5 from rfl, hu]; rfl)
      | (rw [show au_rk (au_sg 16) = 5 from rfl, hu]; rfl)
      | (rw [show au_rk (au_sg 17) = 6 from rfl, hu]; rfl)
def cX (G : jq_G) (b : Nat → Nat) (tp n : Nat) (σ0 : jr_Sg) (mi : jr_MI) (lo lv j g : Nat) (M : Nat → Nat → Prop) (e : Nat) : Prop :=
  ∀ (D op p m : Nat) (H O : List Nat) (σ : jr_Sg) (k : jr_Sg → Prop), op = au_op H → 8 * e + g ≤ D → au_lo lo H → au_op H + e = 5 → M m (lx_t b tp p) → cA b tp n σ0 σ p O → O.length + H.length ≤ p →
  (∀ σ' q, cF n σ0 σ' q → au b tp (p, (m, (H, O))) (.inl q) → k σ') →
  (∀ (σ' : jr_Sg) (p' : Nat) (H' O' w : List Nat), cA b tp n σ0 σ' p' (O ++ w) → (∀ R, au b tp (p', (2, (H', O'))) R → au b tp (p, (m, (H, O))) R) → au_uw lv H' O' = au_uw lv H (O ++ w) → O'.length + H'.length ≤ p' → p + 1 ≤ p' → au_sp b tp lv p' H' O' → (∀ h, h ≤ 5 * au_op H + j → ev_ok h w (h + 1)) → k σ') →
  jq_M G D mi [.ref 5, .int (nI op)] σ (jr_kv k)
def cY (G : jq_G) (n : Nat) (σ0 : jr_Sg) (mi : jr_MI) (g : Nat) : Prop := ∀ (D : Nat) (x : Int32) (q : Nat) (σ : jr_Sg) (k : jr_Sg → Prop), g ≤ D → cF n σ0 σ q → k σ → jq_M G D mi [.ref 5, .int x] σ (jr_kv k)
theorem ct_One {G : jq_G} {b : Nat → Nat} {tp n e : Nat} {σ0 : jr_Sg} (hE : ∀ e', e = e' + 1 → cX G b tp n σ0 mi_X2_readOne 8 7 5 20 M0 e' ∧ cX G b tp n σ0 mi_X2_readOr 1 1 0 26 M1 e') : cX G b tp n σ0 mi_X2_readOne 8 7 5 20 M0 e := by
  intro D op p m H O σ k eop hD hlo hop hM hA hsz kF kO
  obtain ⟨D, rfl⟩ : ∃ D', D = D' + 8 := ⟨D - 8, by omega⟩
  subst eop
  have h160 := hA.2.1.2.1
  have hp := hA.2.2.2.2.2.1
  have hT := lx_t_le b tp p
  have hO : O.length ≤ 160 := by omega
  have hlt : lx_t b tp p ≠ 23 → p < tp := fun z => by
    have h1 : ¬ tp ≤ lx_b b tp p := fun q => z (lx_t_end.mpr q)
    have h2 := lx_b_ge (b := b) (tp := tp) (p := p)
    omega
  have hgt : lx_t b tp p ≠ 23 → p + 1 ≤ lx_n b tp p := lx_n_gt
  have hm : m ≠ 2 := hM.1
  by_cases t19 : lx_t b tp p = 19
  · refine jq_enter (L := [some (.ref 5), some (.int (nI (au_op H)))]) (by decide) (Nat.le_of_ble_eq_true rfl) rfl ?_
    refine jq_aload_n 0 1 dX2_readOne_0 rfl rfl rfl ?_
    refine qf_X2_21 4 dX2_readOne_1 rfl rfl rfl rfl ?_
    refine jq_topi (y := tk 19) (hA.2.2.2.2.1.1.trans (congrArg tk t19)) ?_
    refine jq_bipush ((-19)) 6 dX2_readOne_4 rfl rfl ?_
    refine jq_icmp_ne 27 9 dX2_readOne_6 rfl rfl (fun q => absurd (by decide) q) (fun q6 => ?_)
    refine jq_aload_n 0 10 dX2_readOne_9 rfl rfl rfl ?_
    refine qf_X2_36 13 dX2_readOne_10 rfl rfl rfl rfl ?_
    refine jq_aload_n 0 14 dX2_readOne_13 rfl rfl rfl ?_
    refine qf_X2_24 17 dX2_readOne_14 rfl rfl rfl rfl ?_
    refine jq_topi (y := nI (lx_v b tp p)) (hA.2.2.2.2.1.2.1 t19) ?_
    refine qs_X2_71 20 dX2_readOne_17 rfl rfl rfl (Nat.le_of_ble_eq_true rfl) (wq_wrA (o := 100000 + lx_v b tp p) hA (by have := hlt (by omega); omega) (by unfold ev_cc; rw [if_neg (by omega), if_pos (by omega), Nat.add_sub_cancel_left]) (fun σ1 hA1 => ?_))
    refine jq_aload_n 0 21 dX2_readOne_20 rfl rfl rfl ?_
    refine qs_X2_45 24 dX2_readOne_21 rfl rfl rfl (Nat.le_of_ble_eq_true rfl) (wq_next hA1 (fun σ2 hA2 => ?_))
    refine jq_goto 130 dX2_readOne_24 rfl ?_
    refine jq_return dX2_readOne_130 rfl ?_
    refine kO σ2 _ (au_uw 7 H (O ++ [100000 + lx_v b tp p])).1 (au_uw 7 H (O ++ [100000 + lx_v b tp p])).2 [100000 + lx_v b tp p] hA2 (fun R hR => au_go (st_num hm t19) hR) (au_uw_le (Nat.le_refl _) _ _) ?_ (hgt (by omega)) au_sp7 (fun h hh => ev_ok_v (lx_v_le t19) (by omega))
    rw [au_uw_len, List.length_append]
    have := hgt (by omega)
    show O.length + 1 + H.length ≤ _
    omega
  by_cases t6 : lx_t b tp p ≤ 6
  · refine jq_enter (L := [some (.ref 5), some (.int (nI (au_op H)))]) (by decide) (Nat.le_of_ble_eq_true rfl) rfl ?_
    refine jq_aload_n 0 1 dX2_readOne_0 rfl rfl rfl ?_
    refine qf_X2_21 4 dX2_readOne_1 rfl rfl rfl rfl ?_
    refine jq_topi (y := tk (lx_t b tp p)) hA.2.2.2.2.1.1 ?_
    refine jq_bipush ((-19)) 6 dX2_readOne_4 rfl rfl ?_
    refine jq_icmp_ne 27 9 dX2_readOne_6 rfl rfl (fun q6 => ?_) (fun z => absurd z (tk_ne hT.2.1 (by decide) (by omega)))
    refine jq_aload_n 0 28 dX2_readOne_27 rfl rfl rfl ?_
    refine qf_X2_21 31 dX2_readOne_28 rfl rfl rfl rfl ?_
    refine jq_topi (y := tk (lx_t b tp p)) hA.2.2.2.2.1.1 ?_
    refine qs_X2_89 34 dX2_readOne_31 rfl rfl (Nat.le_of_ble_eq_true rfl) (wq_isNameT hT.1 t6 ?_)
    refine jq_if_eq 55 37 dX2_readOne_34 rfl rfl (fun q => absurd q (by decide)) (fun q34 => ?_)
    refine jq_aload_n 0 38 dX2_readOne_37 rfl rfl rfl ?_
    refine qf_X2_36 41 dX2_readOne_38 rfl rfl rfl rfl ?_
    refine jq_aload_n 0 42 dX2_readOne_41 rfl rfl rfl ?_
    refine qf_X2_21 45 dX2_readOne_42 rfl rfl rfl rfl ?_
    refine jq_topi (y := tk (lx_t b tp p)) hA.2.2.2.2.1.1 ?_
    refine qs_X2_71 48 dX2_readOne_45 rfl rfl rfl (Nat.le_of_ble_eq_true rfl) (wq_wrA (o := lx_t b tp p - 1) hA (by have := hlt (by omega); omega) (by unfold ev_cc tk; rw [if_pos (by omega), show lx_t b tp p = (lx_t b tp p - 1) + 1 by omega, nI_succ, Nat.add_sub_cancel]; generalize nI (lx_t b tp p - 1) = y; grind) (fun σ1 hA1 => ?_))
    refine jq_aload_n 0 49 dX2_readOne_48 rfl rfl rfl ?_
    refine qs_X2_45 52 dX2_readOne_49 rfl rfl rfl (Nat.le_of_ble_eq_true rfl) (wq_next hA1 (fun σ2 hA2 => ?_))
    refine jq_goto 130 dX2_readOne_52 rfl ?_
    refine jq_return dX2_readOne_130 rfl ?_
    refine kO σ2 _ (au_uw 7 H (O ++ [lx_t b tp p - 1])).1 (au_uw 7 H (O ++ [lx_t b tp p - 1])).2 [lx_t b tp p - 1] hA2 (fun R hR => au_go (st_nam hm t6) hR) (au_uw_le (Nat.le_refl _) _ _) ?_ (hgt (by omega)) au_sp7 (fun h hh => ev_ok_n (by omega) (by omega))
    rw [au_uw_len, List.length_append]
    have := hgt (by omega)
    show O.length + 1 + H.length ≤ _
    omega
  by_cases t16 : lx_t b tp p = 16
  · cases e with
    | zero =>
      refine jq_enter (L := [some (.ref 5), some (.int (nI (au_op H)))]) (by decide) (Nat.le_of_ble_eq_true rfl) rfl ?_
      refine jq_aload_n 0 1 dX2_readOne_0 rfl rfl rfl ?_
      refine qf_X2_21 4 dX2_readOne_1 rfl rfl rfl rfl ?_
      refine jq_topi (y := tk (lx_t b tp p)) hA.2.2.2.2.1.1 ?_
      refine jq_bipush ((-19)) 6 dX2_readOne_4 rfl rfl ?_
      refine jq_icmp_ne 27 9 dX2_readOne_6 rfl rfl (fun q6 => ?_) (fun z => absurd z (tk_ne hT.2.1 (by decide) (by omega)))
      refine jq_aload_n 0 28 dX2_readOne_27 rfl rfl rfl ?_
      refine qf_X2_21 31 dX2_readOne_28 rfl rfl rfl rfl ?_
      refine jq_topi (y := tk (lx_t b tp p)) hA.2.2.2.2.1.1 ?_
      refine qs_X2_89 34 dX2_readOne_31 rfl rfl (Nat.le_of_ble_eq_true rfl) (wq_isNameF hT.1 hT.2.1 t6 ?_)
      refine jq_if_eq 55 37 dX2_readOne_34 rfl rfl (fun q34 => ?_) (fun q => absurd (by decide) q)
      refine jq_aload_n 0 56 dX2_readOne_55 rfl rfl rfl ?_
      refine qf_X2_21 59 dX2_readOne_56 rfl rfl rfl rfl ?_
      refine jq_topi (y := tk 16) (hA.2.2.2.2.1.1.trans (congrArg tk t16)) ?_
      refine jq_bipush ((-16)) 61 dX2_readOne_59 rfl rfl ?_
      refine jq_icmp_ne 92 64 dX2_readOne_61 rfl rfl (fun q => absurd (by decide) q) (fun q61 => ?_)
      refine jq_iload_n 1 65 dX2_readOne_64 rfl rfl rfl ?_
      refine jq_iconst (5) 66 dX2_readOne_65 rfl rfl ?_
      refine jq_icmp_ge 92 69 dX2_readOne_66 rfl rfl (fun q66 => ?_) (fun z => absurd (nI_le (a := 5) (by omega) (by omega)) z)
      refine jq_aload_n 0 93 dX2_readOne_92 rfl rfl rfl ?_
      refine qf_X2_21 96 dX2_readOne_93 rfl rfl rfl rfl ?_
      refine jq_topi (y := tk 16) (hA.2.2.2.2.1.1.trans (congrArg tk t16)) ?_
      refine jq_bipush ((-20)) 98 dX2_readOne_96 rfl rfl ?_
      refine jq_icmp_ne 126 101 dX2_readOne_98 rfl rfl (fun q98 => ?_) (fun q => absurd q (by decide))
      refine jq_aload_n 0 127 dX2_readOne_126 rfl rfl rfl ?_
      refine qs_X2_62 130 dX2_readOne_127 rfl rfl rfl (Nat.le_of_ble_eq_true rfl) (wq_failA hA hO (fun σ1 hF => ?_))
      refine jq_return dX2_readOne_130 rfl ?_
      exact kF σ1 _ hF (au_end (st_neg5 hm t16 (by omega)))
    | succ e' =>
      obtain ⟨hOne, -⟩ := hE e' rfl
      refine jq_enter (L := [some (.ref 5), some (.int (nI (au_op H)))]) (by decide) (Nat.le_of_ble_eq_true rfl) rfl ?_
      refine jq_aload_n 0 1 dX2_readOne_0 rfl rfl rfl ?_
      refine qf_X2_21 4 dX2_readOne_1 rfl rfl rfl rfl ?_
      refine jq_topi (y := tk (lx_t b tp p)) hA.2.2.2.2.1.1 ?_
      refine jq_bipush ((-19)) 6 dX2_readOne_4 rfl rfl ?_
      refine jq_icmp_ne 27 9 dX2_readOne_6 rfl rfl (fun q6 => ?_) (fun z => absurd z (tk_ne hT.2.1 (by decide) (by omega)))
      refine jq_aload_n 0 28 dX2_readOne_27 rfl rfl rfl ?_
      refine qf_X2_21 31 dX2_readOne_28 rfl rfl rfl rfl ?_
      refine jq_topi (y := tk (lx_t b tp p)) hA.2.2.2.2.1.1 ?_
      refine qs_X2_89 34 dX2_readOne_31 rfl rfl (Nat.le_of_ble_eq_true rfl) (wq_isNameF hT.1 hT.2.1 t6 ?_)
      refine jq_if_eq 55 37 dX2_readOne_34 rfl rfl (fun q34 => ?_) (fun q => absurd (by decide) q)
      refine jq_aload_n 0 56 dX2_readOne_55 rfl rfl rfl ?_
      refine qf_X2_21 59 dX2_readOne_56 rfl rfl rfl rfl ?_
      refine jq_topi (y := tk 16) (hA.2.2.2.2.1.1.trans (congrArg tk t16)) ?_
      refine jq_bipush ((-16)) 61 dX2_readOne_59 rfl rfl ?_
      refine jq_icmp_ne 92 64 dX2_readOne_61 rfl rfl (fun q => absurd (by decide) q) (fun q61 => ?_)
      refine jq_iload_n 1 65 dX2_readOne_64 rfl rfl rfl ?_
      refine jq_iconst (5) 66 dX2_readOne_65 rfl rfl ?_
      refine jq_icmp_ge 92 69 dX2_readOne_66 rfl rfl (fun z => absurd z (nI_ge (b := 5) (by omega) (by decide))) (fun q66 => ?_)
      refine jq_aload_n 0 70 dX2_readOne_69 rfl rfl rfl ?_
      refine qs_X2_45 73 dX2_readOne_70 rfl rfl rfl (Nat.le_of_ble_eq_true rfl) (wq_next hA (fun σ1 hA1 => ?_))
      refine jq_aload_n 0 74 dX2_readOne_73 rfl rfl rfl ?_
      refine jq_iload_n 1 75 dX2_readOne_74 rfl rfl rfl ?_
      refine jq_iconst (1) 76 dX2_readOne_75 rfl rfl ?_
      refine jq_iadd 77 dX2_readOne_76 rfl ?_
      rw [show (1 : Int32) = nI 1 from rfl, nI_add]
      refine qs_X2_86 80 dX2_readOne_77 rfl rfl rfl (Nat.le_of_ble_eq_true rfl) (hOne _ _ _ 0 (19 :: H) O σ1 _ (au_op_c19 H).symm (by omega) (au_lo8 _) (by rw [au_op_c19]; omega) ⟨by decide, fun z => absurd z (by decide)⟩ hA1 (by have := hgt (by omega); show O.length + (H.length + 1) ≤ _; omega) (fun σ2 q hF hz => ?_) (fun σ2 p2 H2 O2 w hA2 hz hu hl hgt2 hsp hev => ?_))
      · refine jq_aload_n 0 81 dX2_readOne_80 rfl rfl rfl ?_
        refine qf_X2_36 84 dX2_readOne_81 rfl rfl rfl rfl ?_
        refine jq_bipush ((-18)) 86 dX2_readOne_84 rfl rfl ?_
        refine qs_X2_71 89 dX2_readOne_86 rfl rfl rfl (Nat.le_of_ble_eq_true rfl) (wq_wrF hF (fun σ3 hF3 => ?_))
        refine jq_goto 130 dX2_readOne_89 rfl ?_
        refine jq_return dX2_readOne_130 rfl ?_
        exact kF σ3 _ hF3 (au_go (st_neg hm t16 (by omega)) hz)
      · refine jq_aload_n 0 81 dX2_readOne_80 rfl rfl rfl ?_
        refine qf_X2_36 84 dX2_readOne_81 rfl rfl rfl rfl ?_
        refine jq_bipush ((-18)) 86 dX2_readOne_84 rfl rfl ?_
        refine qs_X2_71 89 dX2_readOne_86 rfl rfl rfl (Nat.le_of_ble_eq_true rfl) (wq_wrA (o := 19) hA2 (by have := au_uw_ln hu; have := hA2.2.2.2.2.2.1; simp only [List.length_append, List.length_cons] at *; omega) rfl (fun σ3 hA3 => ?_))
        refine jq_goto 130 dX2_readOne_89 rfl ?_
        refine jq_return dX2_readOne_130 rfl ?_
        rw [List.append_assoc] at hA3
        refine kO σ3 p2 H2 O2 (w ++ [19]) hA3 (fun R hR => au_go (st_neg hm t16 (by omega)) (hz R hR)) (by rw [hu, au_uw_c (by decide), List.append_assoc]) hl (by have := hgt (by omega); omega) hsp (fun h hh => ev_ok_app w (hev h (by rw [au_op_c19]; omega)) (ev_ok_1 (Or.inr rfl)))
  by_cases t20 : lx_t b tp p = 20
  · cases e with
    | zero =>
      refine jq_enter (L := [some (.ref 5), some (.int (nI (au_op H)))]) (by decide) (Nat.le_of_ble_eq_true rfl) rfl ?_
      refine jq_aload_n 0 1 dX2_readOne_0 rfl rfl rfl ?_
      refine qf_X2_21 4 dX2_readOne_1 rfl rfl rfl rfl ?_
      refine jq_topi (y := tk (lx_t b tp p)) hA.2.2.2.2.1.1 ?_
      refine jq_bipush ((-19)) 6 dX2_readOne_4 rfl rfl ?_
      refine jq_icmp_ne 27 9 dX2_readOne_6 rfl rfl (fun q6 => ?_) (fun z => absurd z (tk_ne hT.2.1 (by decide) (by omega)))
      refine jq_aload_n 0 28 dX2_readOne_27 rfl rfl rfl ?_
      refine qf_X2_21 31 dX2_readOne_28 rfl rfl rfl rfl ?_
      refine jq_topi (y := tk (lx_t b tp p)) hA.2.2.2.2.1.1 ?_
      refine qs_X2_89 34 dX2_readOne_31 rfl rfl (Nat.le_of_ble_eq_true rfl) (wq_isNameF hT.1 hT.2.1 t6 ?_)
      refine jq_if_eq 55 37 dX2_readOne_34 rfl rfl (fun q34 => ?_) (fun q => absurd (by decide) q)
      refine jq_aload_n 0 56 dX2_readOne_55 rfl rfl rfl ?_
      refine qf_X2_21 59 dX2_readOne_56 rfl rfl rfl rfl ?_
      refine jq_topi (y := tk (lx_t b tp p)) hA.2.2.2.2.1.1 ?_
      refine jq_bipush ((-16)) 61 dX2_readOne_59 rfl rfl ?_
      refine jq_icmp_ne 92 64 dX2_readOne_61 rfl rfl (fun q61 => ?_) (fun z => absurd z (tk_ne hT.2.1 (by decide) (by omega)))
      refine jq_aload_n 0 93 dX2_readOne_92 rfl rfl rfl ?_
      refine qf_X2_21 96 dX2_readOne_93 rfl rfl rfl rfl ?_
      refine jq_topi (y := tk 20) (hA.2.2.2.2.1.1.trans (congrArg tk t20)) ?_
      refine jq_bipush ((-20)) 98 dX2_readOne_96 rfl rfl ?_
      refine jq_icmp_ne 126 101 dX2_readOne_98 rfl rfl (fun q => absurd (by decide) q) (fun q98 => ?_)
      refine jq_iload_n 1 102 dX2_readOne_101 rfl rfl rfl ?_
      refine jq_iconst (5) 103 dX2_readOne_102 rfl rfl ?_
      refine jq_icmp_ge 126 106 dX2_readOne_103 rfl rfl (fun q103 => ?_) (fun z => absurd (nI_le (a := 5) (by omega) (by omega)) z)
      refine jq_aload_n 0 127 dX2_readOne_126 rfl rfl rfl ?_
      refine qs_X2_62 130 dX2_readOne_127 rfl rfl rfl (Nat.le_of_ble_eq_true rfl) (wq_failA hA hO (fun σ1 hF => ?_))
      refine jq_return dX2_readOne_130 rfl ?_
      exact kF σ1 _ hF (au_end (st_opn5 hm t20 (by omega)))
    | succ e' =>
      obtain ⟨-, hOr⟩ := hE e' rfl
      refine jq_enter (L := [some (.ref 5), some (.int (nI (au_op H)))]) (by decide) (Nat.le_of_ble_eq_true rfl) rfl ?_
      refine jq_aload_n 0 1 dX2_readOne_0 rfl rfl rfl ?_
      refine qf_X2_21 4 dX2_readOne_1 rfl rfl rfl rfl ?_
      refine jq_topi (y := tk (lx_t b tp p)) hA.2.2.2.2.1.1 ?_
      refine jq_bipush ((-19)) 6 dX2_readOne_4 rfl rfl ?_
      refine jq_icmp_ne 27 9 dX2_readOne_6 rfl rfl (fun q6 => ?_) (fun z => absurd z (tk_ne hT.2.1 (by decide) (by omega)))
      refine jq_aload_n 0 28 dX2_readOne_27 rfl rfl rfl ?_
      refine qf_X2_21 31 dX2_readOne_28 rfl rfl rfl rfl ?_
      refine jq_topi (y := tk (lx_t b tp p)) hA.2.2.2.2.1.1 ?_
      refine qs_X2_89 34 dX2_readOne_31 rfl rfl (Nat.le_of_ble_eq_true rfl) (wq_isNameF hT.1 hT.2.1 t6 ?_)
      refine jq_if_eq 55 37 dX2_readOne_34 rfl rfl (fun q34 => ?_) (fun q => absurd (by decide) q)
      refine jq_aload_n 0 56 dX2_readOne_55 rfl rfl rfl ?_
      refine qf_X2_21 59 dX2_readOne_56 rfl rfl rfl rfl ?_
      refine jq_topi (y := tk (lx_t b tp p)) hA.2.2.2.2.1.1 ?_
      refine jq_bipush ((-16)) 61 dX2_readOne_59 rfl rfl ?_
      refine jq_icmp_ne 92 64 dX2_readOne_61 rfl rfl (fun q61 => ?_) (fun z => absurd z (tk_ne hT.2.1 (by decide) (by omega)))
      refine jq_aload_n 0 93 dX2_readOne_92 rfl rfl rfl ?_
      refine qf_X2_21 96 dX2_readOne_93 rfl rfl rfl rfl ?_
      refine jq_topi (y := tk 20) (hA.2.2.2.2.1.1.trans (congrArg tk t20)) ?_
      refine jq_bipush ((-20)) 98 dX2_readOne_96 rfl rfl ?_
      refine jq_icmp_ne 126 101 dX2_readOne_98 rfl rfl (fun q => absurd (by decide) q) (fun q98 => ?_)
      refine jq_iload_n 1 102 dX2_readOne_101 rfl rfl rfl ?_
      refine jq_iconst (5) 103 dX2_readOne_102 rfl rfl ?_
      refine jq_icmp_ge 126 106 dX2_readOne_103 rfl rfl (fun z => absurd z (nI_ge (b := 5) (by omega) (by decide))) (fun q103 => ?_)
      refine jq_aload_n 0 107 dX2_readOne_106 rfl rfl rfl ?_
      refine qs_X2_45 110 dX2_readOne_107 rfl rfl rfl (Nat.le_of_ble_eq_true rfl) (wq_next hA (fun σ1 hA1 => ?_))
      refine jq_aload_n 0 111 dX2_readOne_110 rfl rfl rfl ?_
      refine jq_iload_n 1 112 dX2_readOne_111 rfl rfl rfl ?_
      refine jq_iconst (1) 113 dX2_readOne_112 rfl rfl ?_
      refine jq_iadd 114 dX2_readOne_113 rfl ?_
      rw [show (1 : Int32) = nI 1 from rfl, nI_add]
      refine qs_X2_56 117 dX2_readOne_114 rfl rfl rfl (Nat.le_of_ble_eq_true rfl) (hOr _ _ _ 1 (0 :: H) O σ1 _ (au_op_c0 H).symm (by omega) (au_lo_c (by decide)) (by rw [au_op_c0]; omega) rfl hA1 (by have := hgt (by omega); show O.length + (H.length + 1) ≤ _; omega) (fun σ2 q hF hz => ?_) (fun σ2 p2 H2 O2 w hA2 hz hu hl hgt2 hsp hev => ?_))
      · refine jq_aload_n 0 118 dX2_readOne_117 rfl rfl rfl ?_
        refine jq_bipush ((tk 21)) 120 dX2_readOne_118 rfl rfl ?_
        refine qs_X2_52 123 dX2_readOne_120 rfl rfl rfl (Nat.le_of_ble_eq_true rfl) (wq_expF hF (by decide) ?_)
        refine jq_goto 130 dX2_readOne_123 rfl ?_
        refine jq_return dX2_readOne_130 rfl ?_
        exact kF σ2 _ hF (au_go (st_opn hm t20 (by omega)) hz)
      · refine jq_aload_n 0 118 dX2_readOne_117 rfl rfl rfl ?_
        refine jq_bipush ((tk 21)) 120 dX2_readOne_118 rfl rfl ?_
        have hu2 : au_uw 1 H2 O2 = (0 :: H, O ++ w) := by rw [hu, au_uw_lo (au_lo_c (by decide))]
        have hln : (O ++ w).length + (0 :: H).length ≤ p2 := by
          have := au_uw_ln hu
          omega
        have hp2 := hA2.2.2.2.2.2.1
        by_cases t21 : lx_t b tp p2 = 21
        · refine qs_X2_52 123 dX2_readOne_120 rfl rfl rfl (Nat.le_of_ble_eq_true rfl) (wq_expT hA2 t21 (fun σ3 hA3 => ?_))
          refine jq_goto 130 dX2_readOne_123 rfl ?_
          refine jq_return dX2_readOne_130 rfl ?_
          refine kO σ3 _ (au_uw 7 H (O ++ w)).1 (au_uw 7 H (O ++ w)).2 w hA3 (fun R hR => au_go (st_opn hm t20 (by omega)) (hz R (au_go (st_cls t21 hu2) hR))) (au_uw_le (Nat.le_refl _) _ _) ?_ (by have := hgt (by omega); have := lx_n_ge (b := b) (tp := tp) (p := p2); omega) au_sp7 (fun h hh => hev h (by rw [au_op_c0]; omega))
          rw [au_uw_len]
          have := lx_n_ge (b := b) (tp := tp) (p := p2)
          simp only [List.length_cons] at hln
          omega
        · refine qs_X2_52 123 dX2_readOne_120 rfl rfl rfl (Nat.le_of_ble_eq_true rfl) (wq_expN hA2 (by omega) (by decide) t21 (fun σ3 hF3 => ?_))
          refine jq_goto 130 dX2_readOne_123 rfl ?_
          refine jq_return dX2_readOne_130 rfl ?_
          refine kF σ3 _ hF3 (au_go (st_opn hm t20 (by omega)) (hz _ (au_end ?_)))
          by_cases t22 : lx_t b tp p2 = 22
          · exact st_semiF t22 hu2
          · by_cases hs : au_sg (lx_t b tp p2) = 0
            · exact st_bF t22 t21 hs
            · exact hsp hs (by rcases au_sg_rk (lx_t b tp p2) with z | z | z | z | z | z | z | z <;> first | exact absurd z hs | (rw [z.1]; decide))
  · refine jq_enter (L := [some (.ref 5), some (.int (nI (au_op H)))]) (by decide) (Nat.le_of_ble_eq_true rfl) rfl ?_
    refine jq_aload_n 0 1 dX2_readOne_0 rfl rfl rfl ?_
    refine qf_X2_21 4 dX2_readOne_1 rfl rfl rfl rfl ?_
    refine jq_topi (y := tk (lx_t b tp p)) hA.2.2.2.2.1.1 ?_
    refine jq_bipush ((-19)) 6 dX2_readOne_4 rfl rfl ?_
    refine jq_icmp_ne 27 9 dX2_readOne_6 rfl rfl (fun q6 => ?_) (fun z => absurd z (tk_ne hT.2.1 (by decide) (by omega)))
    refine jq_aload_n 0 28 dX2_readOne_27 rfl rfl rfl ?_
    refine qf_X2_21 31 dX2_readOne_28 rfl rfl rfl rfl ?_
    refine jq_topi (y := tk (lx_t b tp p)) hA.2.2.2.2.1.1 ?_
    refine qs_X2_89 34 dX2_readOne_31 rfl rfl (Nat.le_of_ble_eq_true rfl) (wq_isNameF hT.1 hT.2.1 t6 ?_)
    refine jq_if_eq 55 37 dX2_readOne_34 rfl rfl (fun q34 => ?_) (fun q => absurd (by decide) q)
    refine jq_aload_n 0 56 dX2_readOne_55 rfl rfl rfl ?_
    refine qf_X2_21 59 dX2_readOne_56 rfl rfl rfl rfl ?_
    refine jq_topi (y := tk (lx_t b tp p)) hA.2.2.2.2.1.1 ?_
    refine jq_bipush ((-16)) 61 dX2_readOne_59 rfl rfl ?_
    refine jq_icmp_ne 92 64 dX2_readOne_61 rfl rfl (fun q61 => ?_) (fun z => absurd z (tk_ne hT.2.1 (by decide) (by omega)))
    refine jq_aload_n 0 93 dX2_readOne_92 rfl rfl rfl ?_
    refine qf_X2_21 96 dX2_readOne_93 rfl rfl rfl rfl ?_
    refine jq_topi (y := tk (lx_t b tp p)) hA.2.2.2.2.1.1 ?_
    refine jq_bipush ((-20)) 98 dX2_readOne_96 rfl rfl ?_
    refine jq_icmp_ne 126 101 dX2_readOne_98 rfl rfl (fun q98 => ?_) (fun z => absurd z (tk_ne hT.2.1 (by decide) (by omega)))
    refine jq_aload_n 0 127 dX2_readOne_126 rfl rfl rfl ?_
    refine qs_X2_62 130 dX2_readOne_127 rfl rfl rfl (Nat.le_of_ble_eq_true rfl) (wq_failA hA hO (fun σ1 hF => ?_))
    refine jq_return dX2_readOne_130 rfl ?_
    exact kF σ1 _ hF (au_end (st_F hm t19 t6 (fun z => hM.2 z.2 z.1) t16 t20))
theorem cf_One {G : jq_G} {n : Nat} {σ0 : jr_Sg} : cY G n σ0 mi_X2_readOne 8 := by
  intro D x q σ k hD hF h
  obtain ⟨D, rfl⟩ : ∃ D', D = D' + 1 := ⟨D - 1, by omega⟩
  refine jq_enter (L := [some (.ref 5), some (.int x)]) (by decide) (Nat.le_of_ble_eq_true rfl) rfl ?_
  refine jq_aload_n 0 1 dX2_readOne_0 rfl rfl rfl ?_
  refine qf_X2_21 4 dX2_readOne_1 rfl rfl rfl rfl ?_
  refine jq_topi (y := tk 24) hF.2.2.2.2.1 ?_
  refine jq_bipush ((-19)) 6 dX2_readOne_4 rfl rfl ?_
  refine jq_icmp_ne 27 9 dX2_readOne_6 rfl rfl (fun q6 => ?_) (fun q => absurd q (by decide))
  refine jq_aload_n 0 28 dX2_readOne_27 rfl rfl rfl ?_
  refine qf_X2_21 31 dX2_readOne_28 rfl rfl rfl rfl ?_
  refine jq_topi (y := tk 24) hF.2.2.2.2.1 ?_
  refine qs_X2_89 34 dX2_readOne_31 rfl rfl (Nat.le_of_ble_eq_true rfl) (wq_isNameF (by decide) (by decide) (by decide) ?_)
  refine jq_if_eq 55 37 dX2_readOne_34 rfl rfl (fun q34 => ?_) (fun q => absurd (by decide) q)
  refine jq_aload_n 0 56 dX2_readOne_55 rfl rfl rfl ?_
  refine qf_X2_21 59 dX2_readOne_56 rfl rfl rfl rfl ?_
  refine jq_topi (y := tk 24) hF.2.2.2.2.1 ?_
  refine jq_bipush ((-16)) 61 dX2_readOne_59 rfl rfl ?_
  refine jq_icmp_ne 92 64 dX2_readOne_61 rfl rfl (fun q61 => ?_) (fun q => absurd q (by decide))
  refine jq_aload_n 0 93 dX2_readOne_92 rfl rfl rfl ?_
  refine qf_X2_21 96 dX2_readOne_93 rfl rfl rfl rfl ?_
  refine jq_topi (y := tk 24) hF.2.2.2.2.1 ?_
  refine jq_bipush ((-20)) 98 dX2_readOne_96 rfl rfl ?_
  refine jq_icmp_ne 126 101 dX2_readOne_98 rfl rfl (fun q98 => ?_) (fun q => absurd q (by decide))
  refine jq_aload_n 0 127 dX2_readOne_126 rfl rfl rfl ?_
  refine qs_X2_62 130 dX2_readOne_127 rfl rfl rfl (Nat.le_of_ble_eq_true rfl) (wq_failF hF ?_)
  refine jq_return dX2_readOne_130 rfl ?_
  exact h
theorem cf_Term {G : jq_G} {n : Nat} {σ0 : jr_Sg} : cY G n σ0 mi_X2_readTerm 9 := by
  intro D x q σ k hD hF h
  obtain ⟨D, rfl⟩ : ∃ D', D = D' + 1 := ⟨D - 1, by omega⟩
  refine jq_enter (L := [some (.ref 5), some (.int x), none]) (by decide) (Nat.le_of_ble_eq_true rfl) rfl ?_
  refine jq_aload_n 0 1 dX2_readTerm_0 rfl rfl rfl ?_
  refine jq_iload_n 1 2 dX2_readTerm_1 rfl rfl rfl ?_
  refine qs_X2_86 5 dX2_readTerm_2 rfl rfl rfl (Nat.le_of_ble_eq_true rfl) (cf_One _ _ _ _ _ (by omega) hF ?_)
  refine jq_iconst (0) 6 dX2_readTerm_5 rfl rfl ?_
  refine jq_istore_n 2 (L' := [_, _, _]) 7 dX2_readTerm_6 rfl rfl (by decide) rfl ?_
  refine jq_iload_n 2 8 dX2_readTerm_7 rfl rfl rfl ?_
  refine jq_sipush (160) 11 dX2_readTerm_8 rfl rfl ?_
  refine jq_icmp_ge 47 14 dX2_readTerm_11 rfl rfl (fun q => absurd q (by decide)) (fun q11 => ?_)
  refine jq_aload_n 0 15 dX2_readTerm_14 rfl rfl rfl ?_
  refine qf_X2_21 18 dX2_readTerm_15 rfl rfl rfl rfl ?_
  refine jq_topi (y := tk 24) hF.2.2.2.2.1 ?_
  refine jq_bipush ((-17)) 20 dX2_readTerm_18 rfl rfl ?_
  refine jq_icmp_ne 47 23 dX2_readTerm_20 rfl rfl (fun q20 => ?_) (fun q => absurd q (by decide))
  refine jq_return dX2_readTerm_47 rfl ?_
  exact h
theorem cf_Sum {G : jq_G} {n : Nat} {σ0 : jr_Sg} : cY G n σ0 mi_X2_readSum 10 := by
  intro D x q σ k hD hF h
  obtain ⟨D, rfl⟩ : ∃ D', D = D' + 1 := ⟨D - 1, by omega⟩
  refine jq_enter (L := [some (.ref 5), some (.int x), none, none]) (by decide) (Nat.le_of_ble_eq_true rfl) rfl ?_
  refine jq_aload_n 0 1 dX2_readSum_0 rfl rfl rfl ?_
  refine jq_iload_n 1 2 dX2_readSum_1 rfl rfl rfl ?_
  refine qs_X2_83 5 dX2_readSum_2 rfl rfl rfl (Nat.le_of_ble_eq_true rfl) (cf_Term _ _ _ _ _ (by omega) hF ?_)
  refine jq_iconst (0) 6 dX2_readSum_5 rfl rfl ?_
  refine jq_istore_n 2 (L' := [_, _, _, _]) 7 dX2_readSum_6 rfl rfl (by decide) rfl ?_
  refine jq_iload_n 2 8 dX2_readSum_7 rfl rfl rfl ?_
  refine jq_sipush (160) 11 dX2_readSum_8 rfl rfl ?_
  refine jq_icmp_ge 60 14 dX2_readSum_11 rfl rfl (fun q => absurd q (by decide)) (fun q11 => ?_)
  refine jq_aload_n 0 15 dX2_readSum_14 rfl rfl rfl ?_
  refine qf_X2_21 18 dX2_readSum_15 rfl rfl rfl rfl ?_
  refine jq_topi (y := tk 24) hF.2.2.2.2.1 ?_
  refine jq_bipush ((-15)) 20 dX2_readSum_18 rfl rfl ?_
  refine jq_icmp_eq 32 23 dX2_readSum_20 rfl rfl (fun q => absurd q (by decide)) (fun q20 => ?_)
  refine jq_aload_n 0 24 dX2_readSum_23 rfl rfl rfl ?_
  refine qf_X2_21 27 dX2_readSum_24 rfl rfl rfl rfl ?_
  refine jq_topi (y := tk 24) hF.2.2.2.2.1 ?_
  refine jq_bipush ((-16)) 29 dX2_readSum_27 rfl rfl ?_
  refine jq_icmp_ne 60 32 dX2_readSum_29 rfl rfl (fun q29 => ?_) (fun q => absurd q (by decide))
  refine jq_return dX2_readSum_60 rfl ?_
  exact h
theorem cf_Compared {G : jq_G} {n : Nat} {σ0 : jr_Sg} : cY G n σ0 mi_X2_readCompared 11 := by
  intro D x q σ k hD hF h
  obtain ⟨D, rfl⟩ : ∃ D', D = D' + 1 := ⟨D - 1, by omega⟩
  refine jq_enter (L := [some (.ref 5), some (.int x), none]) (by decide) (Nat.le_of_ble_eq_true rfl) rfl ?_
  refine jq_aload_n 0 1 dX2_readCompared_0 rfl rfl rfl ?_
  refine jq_iload_n 1 2 dX2_readCompared_1 rfl rfl rfl ?_
  refine qs_X2_80 5 dX2_readCompared_2 rfl rfl rfl (Nat.le_of_ble_eq_true rfl) (cf_Sum _ _ _ _ _ (by omega) hF ?_)
  refine jq_aload_n 0 6 dX2_readCompared_5 rfl rfl rfl ?_
  refine qf_X2_21 9 dX2_readCompared_6 rfl rfl rfl rfl ?_
  refine jq_topi (y := tk 24) hF.2.2.2.2.1 ?_
  refine jq_bipush ((-13)) 11 dX2_readCompared_9 rfl rfl ?_
  refine jq_icmp_eq 23 14 dX2_readCompared_11 rfl rfl (fun q => absurd q (by decide)) (fun q11 => ?_)
  refine jq_aload_n 0 15 dX2_readCompared_14 rfl rfl rfl ?_
  refine qf_X2_21 18 dX2_readCompared_15 rfl rfl rfl rfl ?_
  refine jq_topi (y := tk 24) hF.2.2.2.2.1 ?_
  refine jq_bipush ((-14)) 20 dX2_readCompared_18 rfl rfl ?_
  refine jq_icmp_ne 45 23 dX2_readCompared_20 rfl rfl (fun q20 => ?_) (fun q => absurd q (by decide))
  refine jq_return dX2_readCompared_45 rfl ?_
  exact h
theorem cf_Not {G : jq_G} {n : Nat} {σ0 : jr_Sg} : cY G n σ0 mi_X2_readNot 12 := by
  intro D x q σ k hD hF h
  obtain ⟨D, rfl⟩ : ∃ D', D = D' + 1 := ⟨D - 1, by omega⟩
  refine jq_enter (L := [some (.ref 5), some (.int x)]) (by decide) (Nat.le_of_ble_eq_true rfl) rfl ?_
  refine jq_aload_n 0 1 dX2_readNot_0 rfl rfl rfl ?_
  refine qf_X2_21 4 dX2_readNot_1 rfl rfl rfl rfl ?_
  refine jq_topi (y := tk 24) hF.2.2.2.2.1 ?_
  refine jq_bipush ((-9)) 6 dX2_readNot_4 rfl rfl ?_
  refine jq_icmp_eq 17 9 dX2_readNot_6 rfl rfl (fun q => absurd q (by decide)) (fun q6 => ?_)
  refine jq_aload_n 0 10 dX2_readNot_9 rfl rfl rfl ?_
  refine jq_iload_n 1 11 dX2_readNot_10 rfl rfl rfl ?_
  refine qs_X2_77 14 dX2_readNot_11 rfl rfl rfl (Nat.le_of_ble_eq_true rfl) (cf_Compared _ _ _ _ _ (by omega) hF ?_)
  refine jq_goto 49 dX2_readNot_14 rfl ?_
  refine jq_return dX2_readNot_49 rfl ?_
  exact h
theorem cf_And {G : jq_G} {n : Nat} {σ0 : jr_Sg} : cY G n σ0 mi_X2_readAnd 13 := by
  intro D x q σ k hD hF h
  obtain ⟨D, rfl⟩ : ∃ D', D = D' + 1 := ⟨D - 1, by omega⟩
  refine jq_enter (L := [some (.ref 5), some (.int x), none]) (by decide) (Nat.le_of_ble_eq_true rfl) rfl ?_
  refine jq_aload_n 0 1 dX2_readAnd_0 rfl rfl rfl ?_
  refine jq_iload_n 1 2 dX2_readAnd_1 rfl rfl rfl ?_
  refine qs_X2_74 5 dX2_readAnd_2 rfl rfl rfl (Nat.le_of_ble_eq_true rfl) (cf_Not _ _ _ _ _ (by omega) hF ?_)
  refine jq_iconst (0) 6 dX2_readAnd_5 rfl rfl ?_
  refine jq_istore_n 2 (L' := [_, _, _]) 7 dX2_readAnd_6 rfl rfl (by decide) rfl ?_
  refine jq_iload_n 2 8 dX2_readAnd_7 rfl rfl rfl ?_
  refine jq_sipush (160) 11 dX2_readAnd_8 rfl rfl ?_
  refine jq_icmp_ge 47 14 dX2_readAnd_11 rfl rfl (fun q => absurd q (by decide)) (fun q11 => ?_)
  refine jq_aload_n 0 15 dX2_readAnd_14 rfl rfl rfl ?_
  refine qf_X2_21 18 dX2_readAnd_15 rfl rfl rfl rfl ?_
  refine jq_topi (y := tk 24) hF.2.2.2.2.1 ?_
  refine jq_bipush ((-8)) 20 dX2_readAnd_18 rfl rfl ?_
  refine jq_icmp_ne 47 23 dX2_readAnd_20 rfl rfl (fun q20 => ?_) (fun q => absurd q (by decide))
  refine jq_return dX2_readAnd_47 rfl ?_
  exact h
theorem cf_Or {G : jq_G} {n : Nat} {σ0 : jr_Sg} : cY G n σ0 mi_X2_readOr 14 := by
  intro D x q σ k hD hF h
  obtain ⟨D, rfl⟩ : ∃ D', D = D' + 1 := ⟨D - 1, by omega⟩
  refine jq_enter (L := [some (.ref 5), some (.int x), none]) (by decide) (Nat.le_of_ble_eq_true rfl) rfl ?_
  refine jq_aload_n 0 1 dX2_readOr_0 rfl rfl rfl ?_
  refine jq_iload_n 1 2 dX2_readOr_1 rfl rfl rfl ?_
  refine qs_X2_68 5 dX2_readOr_2 rfl rfl rfl (Nat.le_of_ble_eq_true rfl) (cf_And _ _ _ _ _ (by omega) hF ?_)
  refine jq_iconst (0) 6 dX2_readOr_5 rfl rfl ?_
  refine jq_istore_n 2 (L' := [_, _, _]) 7 dX2_readOr_6 rfl rfl (by decide) rfl ?_
  refine jq_iload_n 2 8 dX2_readOr_7 rfl rfl rfl ?_
  refine jq_sipush (160) 11 dX2_readOr_8 rfl rfl ?_
  refine jq_icmp_ge 47 14 dX2_readOr_11 rfl rfl (fun q => absurd q (by decide)) (fun q11 => ?_)
  refine jq_aload_n 0 15 dX2_readOr_14 rfl rfl rfl ?_
  refine qf_X2_21 18 dX2_readOr_15 rfl rfl rfl rfl ?_
  refine jq_topi (y := tk 24) hF.2.2.2.2.1 ?_
  refine jq_bipush ((-7)) 20 dX2_readOr_18 rfl rfl ?_
  refine jq_icmp_ne 47 23 dX2_readOr_20 rfl rfl (fun q20 => ?_) (fun q => absurd q (by decide))
  refine jq_return dX2_readOr_47 rfl ?_
  exact h
theorem lf_Term {G : jq_G} {n q D : Nat} {σ0 σ : jr_Sg} {k : jr_Sg → Prop} {x y : Int32} (hF : cF n σ0 σ q) (h : k σ) : jq_R G D mi_X2_readTerm (jr_kv k) 7 [some (.ref 5), some (.int x), some (.int y)] [] σ := by
  refine jq_iload_n 2 8 dX2_readTerm_7 rfl rfl rfl ?_
  refine jq_sipush (160) 11 dX2_readTerm_8 rfl rfl ?_
  refine jq_icmp_ge 47 14 dX2_readTerm_11 rfl rfl (fun q11 => ?_) (fun q11 => ?_)
  · refine jq_return dX2_readTerm_47 rfl ?_
    exact h
  · refine jq_aload_n 0 15 dX2_readTerm_14 rfl rfl rfl ?_
    refine qf_X2_21 18 dX2_readTerm_15 rfl rfl rfl rfl ?_
    refine jq_topi (y := tk 24) hF.2.2.2.2.1 ?_
    refine jq_bipush ((-17)) 20 dX2_readTerm_18 rfl rfl ?_
    refine jq_icmp_ne 47 23 dX2_readTerm_20 rfl rfl (fun q20 => ?_) (fun q => absurd q (by decide))
    refine jq_return dX2_readTerm_47 rfl ?_
    exact h
theorem lp_Term {G : jq_G} {b : Nat → Nat} {tp n e : Nat} {σ0 : jr_Sg} {D p m : Nat} {H O : List Nat} {k : jr_Sg → Prop} (hsub : cX G b tp n σ0 mi_X2_readOne 8 7 5 20 M0 e) (hD : 8 * e + 21 ≤ D + 8) (hlo : au_lo 6 H) (hop : au_op H + e = 5)
  (kF : ∀ σ' q, cF n σ0 σ' q → au b tp (p, (m, (H, O))) (.inl q) → k σ')
  (kO : ∀ (σ' : jr_Sg) (p' : Nat) (H' O' w : List Nat), cA b tp n σ0 σ' p' (O ++ w) → (∀ R, au b tp (p', (2, (H', O'))) R → au b tp (p, (m, (H, O))) R) → au_uw 6 H' O' = au_uw 6 H (O ++ w) → O'.length + H'.length ≤ p' → p + 1 ≤ p' → au_sp b tp 6 p' H' O' → (∀ h, h ≤ 5 * au_op H + 4 → ev_ok h w (h + 1)) → k σ') :
  ∀ (N p1 i : Nat) (H1 O1 w : List Nat) (σ : jr_Sg), tp < p1 + N → i ≤ p1 → p + 1 ≤ p1 → cA b tp n σ0 σ p1 (O ++ w) → (∀ R, au b tp (p1, (2, (H1, O1))) R → au b tp (p, (m, (H, O))) R) → au_uw 6 H1 O1 = (H, O ++ w) → O1.length + H1.length ≤ p1 → au_sp b tp 7 p1 H1 O1 → (∀ h, h ≤ 5 * au_op H + 4 → ev_ok h w (h + 1)) → jq_R G (D + 8) mi_X2_readTerm (jr_kv k) 7 [some (.ref 5), some (.int (nI (au_op H))), some (.int (nI i))] [] σ := by
  intro N
  induction N with
  | zero =>
    intro p1 i H1 O1 w σ hN hi hp1 hA hz hu hl1 hsp hev
    exact absurd hA.2.2.2.2.2.1 (by omega)
  | succ N ih =>
    intro p1 i H1 O1 w σ hN hi hp1 hA hz hu hl1 hsp hev
    have h160 := hA.2.1.2.1
    have hp := hA.2.2.2.2.2.1
    have hT := lx_t_le b tp p1
    have hlt : lx_t b tp p1 ≠ 23 → p1 < tp := fun z => by
      have h1 : ¬ tp ≤ lx_b b tp p1 := fun q => z (lx_t_end.mpr q)
      have h2 := lx_b_ge (b := b) (tp := tp) (p := p1)
      omega
    have hgt : lx_t b tp p1 ≠ 23 → p1 + 1 ≤ lx_n b tp p1 := lx_n_gt
    have hlen := au_uw_len 6 H1 O1
    rw [hu] at hlen
    simp only at hlen
    by_cases tt17 : lx_t b tp p1 = 17
    · refine jq_iload_n 2 8 dX2_readTerm_7 rfl rfl rfl ?_
      refine jq_sipush ((nI 160)) 11 dX2_readTerm_8 rfl rfl ?_
      refine jq_icmp_ge 47 14 dX2_readTerm_11 rfl rfl (fun z => absurd z (nI_ge (b := 160) (by have := hlt (by omega); omega) (by decide))) (fun q11 => ?_)
      refine jq_aload_n 0 15 dX2_readTerm_14 rfl rfl rfl ?_
      refine qf_X2_21 18 dX2_readTerm_15 rfl rfl rfl rfl ?_
      refine jq_topi (y := tk 17) (hA.2.2.2.2.1.1.trans (congrArg tk tt17)) ?_
      refine jq_bipush ((-17)) 20 dX2_readTerm_18 rfl rfl ?_
      refine jq_icmp_ne 47 23 dX2_readTerm_20 rfl rfl (fun q => absurd (by decide) q) (fun q20 => ?_)
      refine jq_aload_n 0 24 dX2_readTerm_23 rfl rfl rfl ?_
      refine qs_X2_45 27 dX2_readTerm_24 rfl rfl rfl (Nat.le_of_ble_eq_true rfl) (wq_next hA (fun σ1 hA1 => ?_))
      refine jq_aload_n 0 28 dX2_readTerm_27 rfl rfl rfl ?_
      refine jq_iload_n 1 29 dX2_readTerm_28 rfl rfl rfl ?_
      refine qs_X2_86 32 dX2_readTerm_29 rfl rfl rfl (Nat.le_of_ble_eq_true rfl) (hsub _ _ _ 0 (18 :: H) (O ++ w) σ1 _ (au_op_c H (by decide) (by decide) (by decide)).symm (by omega) (au_lo_c (by decide)) (by rw [au_op_c H (by decide) (by decide) (by decide)]; omega) ⟨by decide, fun z => absurd z (by decide)⟩ hA1 (by have := hgt (by omega); show _ + (H.length + 1) ≤ _; omega) (fun σ2 q hF hz2 => ?_) (fun σ2 p3 H3 O3 w2 hA2 hz2 hu2 hl2 hgt2 hsp2 hev2 => ?_))
      · refine jq_aload_n 0 33 dX2_readTerm_32 rfl rfl rfl ?_
        refine qf_X2_36 36 dX2_readTerm_33 rfl rfl rfl rfl ?_
        refine jq_bipush ((-17)) 38 dX2_readTerm_36 rfl rfl ?_
        refine qs_X2_71 41 dX2_readTerm_38 rfl rfl rfl (Nat.le_of_ble_eq_true rfl) (wq_wrF hF (fun σ3 hF3 => ?_))
        refine jq_iinc (v := _ + 1) (L' := [_, _, _]) 44 dX2_readTerm_41 rfl rfl rfl (by decide) rfl ?_
        refine jq_goto 7 dX2_readTerm_44 rfl ?_
        exact lf_Term hF3 (kF σ3 _ hF3 (hz _ (au_go (st_b tt17 (by omega) hu) hz2)))
      · refine jq_aload_n 0 33 dX2_readTerm_32 rfl rfl rfl ?_
        refine qf_X2_36 36 dX2_readTerm_33 rfl rfl rfl rfl ?_
        refine jq_bipush ((-17)) 38 dX2_readTerm_36 rfl rfl ?_
        refine qs_X2_71 41 dX2_readTerm_38 rfl rfl rfl (Nat.le_of_ble_eq_true rfl) (wq_wrA (o := 18) hA2 (by have := au_uw_ln hu2; have := hA2.2.2.2.2.2.1; simp only [List.length_append, List.length_cons] at *; omega) rfl (fun σ3 hA3 => ?_))
        refine jq_iinc (v := nI (i + 1)) (L' := [_, _, _]) 44 dX2_readTerm_41 rfl rfl (nI_1 i) (by decide) rfl ?_
        refine jq_goto 7 dX2_readTerm_44 rfl ?_
        rw [List.append_assoc, List.append_assoc] at hA3
        refine ih p3 (i + 1) H3 O3 (w ++ (w2 ++ [18])) σ3 (by have := hgt (by omega); omega) (by have := hgt (by omega); omega) (by have := hgt (by omega); omega) hA3 (fun R hR => hz R (au_go (st_b tt17 (by omega) hu) (hz2 R hR))) ?_ hl2 (au_sp_w hsp2 (fun t _ _ h => h)) (fun h hh => ev_ok_app w (hev h hh) (ev_ok_app w2 (hev2 (h + 1) (by rw [au_op_c H (by decide) (by decide) (by decide)]; omega)) (ev_ok_2 (by omega))))
        rw [au_uw_tr (by decide : 6 ≤ 7) hu2, au_uw_c (by decide), au_uw_lo (by exact au_lo_w hlo (by decide)), List.append_assoc, List.append_assoc]
    have hend : k σ := kO σ p1 H1 O1 w hA hz (by rw [hu, au_uw_lo (au_lo_w hlo (by decide))]) hl1 hp1 (au_sp_w hsp (fun t ht hs hr => by
        subst ht
        have e := au_sg_rk (lx_t b tp p1)
        rcases e with z | z | z | z | z | z | z | z <;> first | exact absurd z hs | omega | (rw [z.1] at hr ⊢; revert hr; decide))) hev
    refine jq_iload_n 2 8 dX2_readTerm_7 rfl rfl rfl ?_
    refine jq_sipush ((nI 160)) 11 dX2_readTerm_8 rfl rfl ?_
    refine jq_icmp_ge 47 14 dX2_readTerm_11 rfl rfl (fun q11 => ?_) (fun q11 => ?_)
    · refine jq_return dX2_readTerm_47 rfl ?_
      exact hend
    · refine jq_aload_n 0 15 dX2_readTerm_14 rfl rfl rfl ?_
      refine qf_X2_21 18 dX2_readTerm_15 rfl rfl rfl rfl ?_
      refine jq_topi (y := tk (lx_t b tp p1)) hA.2.2.2.2.1.1 ?_
      refine jq_bipush ((-17)) 20 dX2_readTerm_18 rfl rfl ?_
      refine jq_icmp_ne 47 23 dX2_readTerm_20 rfl rfl (fun q20 => ?_) (fun z => absurd z (tk_ne hT.2.1 (by decide) (by omega)))
      refine jq_return dX2_readTerm_47 rfl ?_
      exact hend
theorem ct_Term {G : jq_G} {b : Nat → Nat} {tp n e : Nat} {σ0 : jr_Sg} (hsub : cX G b tp n σ0 mi_X2_readOne 8 7 5 20 M0 e) : cX G b tp n σ0 mi_X2_readTerm 6 6 4 21 M0 e := by
  intro D op p m H O σ k eop hD hlo hop hM hA hsz kF kO
  obtain ⟨D, rfl⟩ : ∃ D', D = D' + 8 := ⟨D - 8, by omega⟩
  subst eop
  have h160 := hA.2.1.2.1
  have hp := hA.2.2.2.2.2.1
  have hT := lx_t_le b tp p
  have hO : O.length ≤ 160 := by omega
  have hlt : lx_t b tp p ≠ 23 → p < tp := fun z => by
    have h1 : ¬ tp ≤ lx_b b tp p := fun q => z (lx_t_end.mpr q)
    have h2 := lx_b_ge (b := b) (tp := tp) (p := p)
    omega
  have hgt : lx_t b tp p ≠ 23 → p + 1 ≤ lx_n b tp p := lx_n_gt
  refine jq_enter (L := [some (.ref 5), some (.int (nI (au_op H))), none]) (by decide) (Nat.le_of_ble_eq_true rfl) rfl ?_
  refine jq_aload_n 0 1 dX2_readTerm_0 rfl rfl rfl ?_
  refine jq_iload_n 1 2 dX2_readTerm_1 rfl rfl rfl ?_
  refine qs_X2_86 5 dX2_readTerm_2 rfl rfl rfl (Nat.le_of_ble_eq_true rfl) (hsub _ _ _ m H O σ _ rfl (by omega) (au_lo_w hlo (by decide)) hop hM hA hsz (fun σ1 q hF hz => ?_) (fun σ1 p1 H1 O1 w hA1 hz hu hl1 hgt1 hsp hev => ?_))
  · refine jq_iconst ((nI 0)) 6 dX2_readTerm_5 rfl rfl ?_
    refine jq_istore_n 2 (L' := [_, _, _]) 7 dX2_readTerm_6 rfl rfl (by decide) rfl ?_
    exact lf_Term hF (kF σ1 _ hF hz)
  · refine jq_iconst ((nI 0)) 6 dX2_readTerm_5 rfl rfl ?_
    refine jq_istore_n 2 (L' := [_, _, _]) 7 dX2_readTerm_6 rfl rfl (by decide) rfl ?_
    exact lp_Term hsub (by omega) hlo hop kF kO (tp + 1) p1 0 H1 O1 w σ1 (by omega) (by omega) hgt1 hA1 hz (by rw [au_uw_tr (by decide : 6 ≤ 7) hu, au_uw_lo hlo]) hl1 hsp (fun h hh => hev h (by omega))
theorem lf_Sum {G : jq_G} {n q D : Nat} {σ0 σ : jr_Sg} {k : jr_Sg → Prop} {x y : Int32} (x3 : Option Value) (hF : cF n σ0 σ q) (h : k σ) : jq_R G D mi_X2_readSum (jr_kv k) 7 [some (.ref 5), some (.int x), some (.int y), x3] [] σ := by
  refine jq_iload_n 2 8 dX2_readSum_7 rfl rfl rfl ?_
  refine jq_sipush (160) 11 dX2_readSum_8 rfl rfl ?_
  refine jq_icmp_ge 60 14 dX2_readSum_11 rfl rfl (fun q11 => ?_) (fun q11 => ?_)
  · refine jq_return dX2_readSum_60 rfl ?_
    exact h
  · refine jq_aload_n 0 15 dX2_readSum_14 rfl rfl rfl ?_
    refine qf_X2_21 18 dX2_readSum_15 rfl rfl rfl rfl ?_
    refine jq_topi (y := tk 24) hF.2.2.2.2.1 ?_
    refine jq_bipush ((-15)) 20 dX2_readSum_18 rfl rfl ?_
    refine jq_icmp_eq 32 23 dX2_readSum_20 rfl rfl (fun q => absurd q (by decide)) (fun q20 => ?_)
    refine jq_aload_n 0 24 dX2_readSum_23 rfl rfl rfl ?_
    refine qf_X2_21 27 dX2_readSum_24 rfl rfl rfl rfl ?_
    refine jq_topi (y := tk 24) hF.2.2.2.2.1 ?_
    refine jq_bipush ((-16)) 29 dX2_readSum_27 rfl rfl ?_
    refine jq_icmp_ne 60 32 dX2_readSum_29 rfl rfl (fun q29 => ?_) (fun q => absurd q (by decide))
    refine jq_return dX2_readSum_60 rfl ?_
    exact h
theorem lp_Sum {G : jq_G} {b : Nat → Nat} {tp n e : Nat} {σ0 : jr_Sg} {D p m : Nat} {H O : List Nat} {k : jr_Sg → Prop} (hsub : cX G b tp n σ0 mi_X2_readTerm 6 6 4 21 M0 e) (hD : 8 * e + 22 ≤ D + 8) (hlo : au_lo 5 H) (hop : au_op H + e = 5)
  (kF : ∀ σ' q, cF n σ0 σ' q → au b tp (p, (m, (H, O))) (.inl q) → k σ')
  (kO : ∀ (σ' : jr_Sg) (p' : Nat) (H' O' w : List Nat), cA b tp n σ0 σ' p' (O ++ w) → (∀ R, au b tp (p', (2, (H', O'))) R → au b tp (p, (m, (H, O))) R) → au_uw 5 H' O' = au_uw 5 H (O ++ w) → O'.length + H'.length ≤ p' → p + 1 ≤ p' → au_sp b tp 5 p' H' O' → (∀ h, h ≤ 5 * au_op H + 3 → ev_ok h w (h + 1)) → k σ') :
  ∀ (N p1 i : Nat) (H1 O1 w : List Nat) (σ : jr_Sg) (x3 : Option Value), tp < p1 + N → i ≤ p1 → p + 1 ≤ p1 → cA b tp n σ0 σ p1 (O ++ w) → (∀ R, au b tp (p1, (2, (H1, O1))) R → au b tp (p, (m, (H, O))) R) → au_uw 5 H1 O1 = (H, O ++ w) → O1.length + H1.length ≤ p1 → au_sp b tp 6 p1 H1 O1 → (∀ h, h ≤ 5 * au_op H + 3 → ev_ok h w (h + 1)) → jq_R G (D + 8) mi_X2_readSum (jr_kv k) 7 [some (.ref 5), some (.int (nI (au_op H))), some (.int (nI i)), x3] [] σ := by
  intro N
  induction N with
  | zero =>
    intro p1 i H1 O1 w σ x3 hN hi hp1 hA hz hu hl1 hsp hev
    exact absurd hA.2.2.2.2.2.1 (by omega)
  | succ N ih =>
    intro p1 i H1 O1 w σ x3 hN hi hp1 hA hz hu hl1 hsp hev
    have h160 := hA.2.1.2.1
    have hp := hA.2.2.2.2.2.1
    have hT := lx_t_le b tp p1
    have hlt : lx_t b tp p1 ≠ 23 → p1 < tp := fun z => by
      have h1 : ¬ tp ≤ lx_b b tp p1 := fun q => z (lx_t_end.mpr q)
      have h2 := lx_b_ge (b := b) (tp := tp) (p := p1)
      omega
    have hgt : lx_t b tp p1 ≠ 23 → p1 + 1 ≤ lx_n b tp p1 := lx_n_gt
    have hlen := au_uw_len 5 H1 O1
    rw [hu] at hlen
    simp only at hlen
    by_cases tt15 : lx_t b tp p1 = 15
    · refine jq_iload_n 2 8 dX2_readSum_7 rfl rfl rfl ?_
      refine jq_sipush ((nI 160)) 11 dX2_readSum_8 rfl rfl ?_
      refine jq_icmp_ge 60 14 dX2_readSum_11 rfl rfl (fun z => absurd z (nI_ge (b := 160) (by have := hlt (by omega); omega) (by decide))) (fun q11 => ?_)
      refine jq_aload_n 0 15 dX2_readSum_14 rfl rfl rfl ?_
      refine qf_X2_21 18 dX2_readSum_15 rfl rfl rfl rfl ?_
      refine jq_topi (y := tk 15) (hA.2.2.2.2.1.1.trans (congrArg tk tt15)) ?_
      refine jq_bipush ((-15)) 20 dX2_readSum_18 rfl rfl ?_
      refine jq_icmp_eq 32 23 dX2_readSum_20 rfl rfl (fun q20 => ?_) (fun q => absurd (by decide) q)
      refine jq_aload_n 0 33 dX2_readSum_32 rfl rfl rfl ?_
      refine qf_X2_21 36 dX2_readSum_33 rfl rfl rfl rfl ?_
      refine jq_topi (y := tk 15) (hA.2.2.2.2.1.1.trans (congrArg tk tt15)) ?_
      refine jq_istore_n 3 (L' := [_, _, _, _]) 37 dX2_readSum_36 rfl rfl (by decide) rfl ?_
      refine jq_aload_n 0 38 dX2_readSum_37 rfl rfl rfl ?_
      refine qs_X2_45 41 dX2_readSum_38 rfl rfl rfl (Nat.le_of_ble_eq_true rfl) (wq_next hA (fun σ1 hA1 => ?_))
      refine jq_aload_n 0 42 dX2_readSum_41 rfl rfl rfl ?_
      refine jq_iload_n 1 43 dX2_readSum_42 rfl rfl rfl ?_
      refine qs_X2_83 46 dX2_readSum_43 rfl rfl rfl (Nat.le_of_ble_eq_true rfl) (hsub _ _ _ 0 (16 :: H) (O ++ w) σ1 _ (au_op_c H (by decide) (by decide) (by decide)).symm (by omega) (au_lo_c (by decide)) (by rw [au_op_c H (by decide) (by decide) (by decide)]; omega) ⟨by decide, fun z => absurd z (by decide)⟩ hA1 (by have := hgt (by omega); show _ + (H.length + 1) ≤ _; omega) (fun σ2 q hF hz2 => ?_) (fun σ2 p3 H3 O3 w2 hA2 hz2 hu2 hl2 hgt2 hsp2 hev2 => ?_))
      · refine jq_aload_n 0 47 dX2_readSum_46 rfl rfl rfl ?_
        refine qf_X2_36 50 dX2_readSum_47 rfl rfl rfl rfl ?_
        refine jq_iload_n 3 51 dX2_readSum_50 rfl rfl rfl ?_
        refine qs_X2_71 54 dX2_readSum_51 rfl rfl rfl (Nat.le_of_ble_eq_true rfl) (wq_wrF hF (fun σ3 hF3 => ?_))
        refine jq_iinc (v := _ + 1) (L' := [_, _, _, _]) 57 dX2_readSum_54 rfl rfl rfl (by decide) rfl ?_
        refine jq_goto 7 dX2_readSum_57 rfl ?_
        exact lf_Sum _ hF3 (kF σ3 _ hF3 (hz _ (au_go (st_b tt15 (by omega) hu) hz2)))
      · refine jq_aload_n 0 47 dX2_readSum_46 rfl rfl rfl ?_
        refine qf_X2_36 50 dX2_readSum_47 rfl rfl rfl rfl ?_
        refine jq_iload_n 3 51 dX2_readSum_50 rfl rfl rfl ?_
        refine qs_X2_71 54 dX2_readSum_51 rfl rfl rfl (Nat.le_of_ble_eq_true rfl) (wq_wrA (o := 16) hA2 (by have := au_uw_ln hu2; have := hA2.2.2.2.2.2.1; simp only [List.length_append, List.length_cons] at *; omega) rfl (fun σ3 hA3 => ?_))
        refine jq_iinc (v := nI (i + 1)) (L' := [_, _, _, _]) 57 dX2_readSum_54 rfl rfl (nI_1 i) (by decide) rfl ?_
        refine jq_goto 7 dX2_readSum_57 rfl ?_
        rw [List.append_assoc, List.append_assoc] at hA3
        refine ih p3 (i + 1) H3 O3 (w ++ (w2 ++ [16])) σ3 _ (by have := hgt (by omega); omega) (by have := hgt (by omega); omega) (by have := hgt (by omega); omega) hA3 (fun R hR => hz R (au_go (st_b tt15 (by omega) hu) (hz2 R hR))) ?_ hl2 (au_sp_w hsp2 (fun t _ _ h => h)) (fun h hh => ev_ok_app w (hev h hh) (ev_ok_app w2 (hev2 (h + 1) (by rw [au_op_c H (by decide) (by decide) (by decide)]; omega)) (ev_ok_2 (by omega))))
        rw [au_uw_tr (by decide : 5 ≤ 6) hu2, au_uw_c (by decide), au_uw_lo (by exact au_lo_w hlo (by decide)), List.append_assoc, List.append_assoc]
    by_cases tt16 : lx_t b tp p1 = 16
    · refine jq_iload_n 2 8 dX2_readSum_7 rfl rfl rfl ?_
      refine jq_sipush ((nI 160)) 11 dX2_readSum_8 rfl rfl ?_
      refine jq_icmp_ge 60 14 dX2_readSum_11 rfl rfl (fun z => absurd z (nI_ge (b := 160) (by have := hlt (by omega); omega) (by decide))) (fun q11 => ?_)
      refine jq_aload_n 0 15 dX2_readSum_14 rfl rfl rfl ?_
      refine qf_X2_21 18 dX2_readSum_15 rfl rfl rfl rfl ?_
      refine jq_topi (y := tk 16) (hA.2.2.2.2.1.1.trans (congrArg tk tt16)) ?_
      refine jq_bipush ((-15)) 20 dX2_readSum_18 rfl rfl ?_
      refine jq_icmp_eq 32 23 dX2_readSum_20 rfl rfl (fun q => absurd q (by decide)) (fun q20 => ?_)
      refine jq_aload_n 0 24 dX2_readSum_23 rfl rfl rfl ?_
      refine qf_X2_21 27 dX2_readSum_24 rfl rfl rfl rfl ?_
      refine jq_topi (y := tk 16) (hA.2.2.2.2.1.1.trans (congrArg tk tt16)) ?_
      refine jq_bipush ((-16)) 29 dX2_readSum_27 rfl rfl ?_
      refine jq_icmp_ne 60 32 dX2_readSum_29 rfl rfl (fun q => absurd (by decide) q) (fun q29 => ?_)
      refine jq_aload_n 0 33 dX2_readSum_32 rfl rfl rfl ?_
      refine qf_X2_21 36 dX2_readSum_33 rfl rfl rfl rfl ?_
      refine jq_topi (y := tk 16) (hA.2.2.2.2.1.1.trans (congrArg tk tt16)) ?_
      refine jq_istore_n 3 (L' := [_, _, _, _]) 37 dX2_readSum_36 rfl rfl (by decide) rfl ?_
      refine jq_aload_n 0 38 dX2_readSum_37 rfl rfl rfl ?_
      refine qs_X2_45 41 dX2_readSum_38 rfl rfl rfl (Nat.le_of_ble_eq_true rfl) (wq_next hA (fun σ1 hA1 => ?_))
      refine jq_aload_n 0 42 dX2_readSum_41 rfl rfl rfl ?_
      refine jq_iload_n 1 43 dX2_readSum_42 rfl rfl rfl ?_
      refine qs_X2_83 46 dX2_readSum_43 rfl rfl rfl (Nat.le_of_ble_eq_true rfl) (hsub _ _ _ 0 (17 :: H) (O ++ w) σ1 _ (au_op_c H (by decide) (by decide) (by decide)).symm (by omega) (au_lo_c (by decide)) (by rw [au_op_c H (by decide) (by decide) (by decide)]; omega) ⟨by decide, fun z => absurd z (by decide)⟩ hA1 (by have := hgt (by omega); show _ + (H.length + 1) ≤ _; omega) (fun σ2 q hF hz2 => ?_) (fun σ2 p3 H3 O3 w2 hA2 hz2 hu2 hl2 hgt2 hsp2 hev2 => ?_))
      · refine jq_aload_n 0 47 dX2_readSum_46 rfl rfl rfl ?_
        refine qf_X2_36 50 dX2_readSum_47 rfl rfl rfl rfl ?_
        refine jq_iload_n 3 51 dX2_readSum_50 rfl rfl rfl ?_
        refine qs_X2_71 54 dX2_readSum_51 rfl rfl rfl (Nat.le_of_ble_eq_true rfl) (wq_wrF hF (fun σ3 hF3 => ?_))
        refine jq_iinc (v := _ + 1) (L' := [_, _, _, _]) 57 dX2_readSum_54 rfl rfl rfl (by decide) rfl ?_
        refine jq_goto 7 dX2_readSum_57 rfl ?_
        exact lf_Sum _ hF3 (kF σ3 _ hF3 (hz _ (au_go (st_b tt16 (by omega) hu) hz2)))
      · refine jq_aload_n 0 47 dX2_readSum_46 rfl rfl rfl ?_
        refine qf_X2_36 50 dX2_readSum_47 rfl rfl rfl rfl ?_
        refine jq_iload_n 3 51 dX2_readSum_50 rfl rfl rfl ?_
        refine qs_X2_71 54 dX2_readSum_51 rfl rfl rfl (Nat.le_of_ble_eq_true rfl) (wq_wrA (o := 17) hA2 (by have := au_uw_ln hu2; have := hA2.2.2.2.2.2.1; simp only [List.length_append, List.length_cons] at *; omega) rfl (fun σ3 hA3 => ?_))
        refine jq_iinc (v := nI (i + 1)) (L' := [_, _, _, _]) 57 dX2_readSum_54 rfl rfl (nI_1 i) (by decide) rfl ?_
        refine jq_goto 7 dX2_readSum_57 rfl ?_
        rw [List.append_assoc, List.append_assoc] at hA3
        refine ih p3 (i + 1) H3 O3 (w ++ (w2 ++ [17])) σ3 _ (by have := hgt (by omega); omega) (by have := hgt (by omega); omega) (by have := hgt (by omega); omega) hA3 (fun R hR => hz R (au_go (st_b tt16 (by omega) hu) (hz2 R hR))) ?_ hl2 (au_sp_w hsp2 (fun t _ _ h => h)) (fun h hh => ev_ok_app w (hev h hh) (ev_ok_app w2 (hev2 (h + 1) (by rw [au_op_c H (by decide) (by decide) (by decide)]; omega)) (ev_ok_2 (by omega))))
        rw [au_uw_tr (by decide : 5 ≤ 6) hu2, au_uw_c (by decide), au_uw_lo (by exact au_lo_w hlo (by decide)), List.append_assoc, List.append_assoc]
    have hend : k σ := kO σ p1 H1 O1 w hA hz (by rw [hu, au_uw_lo (au_lo_w hlo (by decide))]) hl1 hp1 (au_sp_w hsp (fun t ht hs hr => by
        subst ht
        have e := au_sg_rk (lx_t b tp p1)
        rcases e with z | z | z | z | z | z | z | z <;> first | exact absurd z hs | omega | (rw [z.1] at hr ⊢; revert hr; decide))) hev
    refine jq_iload_n 2 8 dX2_readSum_7 rfl rfl rfl ?_
    refine jq_sipush ((nI 160)) 11 dX2_readSum_8 rfl rfl ?_
    refine jq_icmp_ge 60 14 dX2_readSum_11 rfl rfl (fun q11 => ?_) (fun q11 => ?_)
    · refine jq_return dX2_readSum_60 rfl ?_
      exact hend
    · refine jq_aload_n 0 15 dX2_readSum_14 rfl rfl rfl ?_
      refine qf_X2_21 18 dX2_readSum_15 rfl rfl rfl rfl ?_
      refine jq_topi (y := tk (lx_t b tp p1)) hA.2.2.2.2.1.1 ?_
      refine jq_bipush ((-15)) 20 dX2_readSum_18 rfl rfl ?_
      refine jq_icmp_eq 32 23 dX2_readSum_20 rfl rfl (fun z => absurd z (tk_ne hT.2.1 (by decide) (by omega))) (fun q20 => ?_)
      refine jq_aload_n 0 24 dX2_readSum_23 rfl rfl rfl ?_
      refine qf_X2_21 27 dX2_readSum_24 rfl rfl rfl rfl ?_
      refine jq_topi (y := tk (lx_t b tp p1)) hA.2.2.2.2.1.1 ?_
      refine jq_bipush ((-16)) 29 dX2_readSum_27 rfl rfl ?_
      refine jq_icmp_ne 60 32 dX2_readSum_29 rfl rfl (fun q29 => ?_) (fun z => absurd z (tk_ne hT.2.1 (by decide) (by omega)))
      refine jq_return dX2_readSum_60 rfl ?_
      exact hend
theorem ct_Sum {G : jq_G} {b : Nat → Nat} {tp n e : Nat} {σ0 : jr_Sg} (hsub : cX G b tp n σ0 mi_X2_readTerm 6 6 4 21 M0 e) : cX G b tp n σ0 mi_X2_readSum 5 5 3 22 M0 e := by
  intro D op p m H O σ k eop hD hlo hop hM hA hsz kF kO
  obtain ⟨D, rfl⟩ : ∃ D', D = D' + 8 := ⟨D - 8, by omega⟩
  subst eop
  have h160 := hA.2.1.2.1
  have hp := hA.2.2.2.2.2.1
  have hT := lx_t_le b tp p
  have hO : O.length ≤ 160 := by omega
  have hlt : lx_t b tp p ≠ 23 → p < tp := fun z => by
    have h1 : ¬ tp ≤ lx_b b tp p := fun q => z (lx_t_end.mpr q)
    have h2 := lx_b_ge (b := b) (tp := tp) (p := p)
    omega
  have hgt : lx_t b tp p ≠ 23 → p + 1 ≤ lx_n b tp p := lx_n_gt
  refine jq_enter (L := [some (.ref 5), some (.int (nI (au_op H))), none, none]) (by decide) (Nat.le_of_ble_eq_true rfl) rfl ?_
  refine jq_aload_n 0 1 dX2_readSum_0 rfl rfl rfl ?_
  refine jq_iload_n 1 2 dX2_readSum_1 rfl rfl rfl ?_
  refine qs_X2_83 5 dX2_readSum_2 rfl rfl rfl (Nat.le_of_ble_eq_true rfl) (hsub _ _ _ m H O σ _ rfl (by omega) (au_lo_w hlo (by decide)) hop hM hA hsz (fun σ1 q hF hz => ?_) (fun σ1 p1 H1 O1 w hA1 hz hu hl1 hgt1 hsp hev => ?_))
  · refine jq_iconst ((nI 0)) 6 dX2_readSum_5 rfl rfl ?_
    refine jq_istore_n 2 (L' := [_, _, _, _]) 7 dX2_readSum_6 rfl rfl (by decide) rfl ?_
    exact lf_Sum none hF (kF σ1 _ hF hz)
  · refine jq_iconst ((nI 0)) 6 dX2_readSum_5 rfl rfl ?_
    refine jq_istore_n 2 (L' := [_, _, _, _]) 7 dX2_readSum_6 rfl rfl (by decide) rfl ?_
    exact lp_Sum hsub (by omega) hlo hop kF kO (tp + 1) p1 0 H1 O1 w σ1 none (by omega) (by omega) hgt1 hA1 hz (by rw [au_uw_tr (by decide : 5 ≤ 6) hu, au_uw_lo hlo]) hl1 hsp (fun h hh => hev h (by omega))
theorem ct_Compared {G : jq_G} {b : Nat → Nat} {tp n e : Nat} {σ0 : jr_Sg} (hsub : cX G b tp n σ0 mi_X2_readSum 5 5 3 22 M0 e) : cX G b tp n σ0 mi_X2_readCompared 4 4 2 23 M0 e := by
  intro D op p m H O σ k eop hD hlo hop hM hA hsz kF kO
  obtain ⟨D, rfl⟩ : ∃ D', D = D' + 8 := ⟨D - 8, by omega⟩
  subst eop
  have h160 := hA.2.1.2.1
  have hp := hA.2.2.2.2.2.1
  have hT := lx_t_le b tp p
  have hO : O.length ≤ 160 := by omega
  have hlt : lx_t b tp p ≠ 23 → p < tp := fun z => by
    have h1 : ¬ tp ≤ lx_b b tp p := fun q => z (lx_t_end.mpr q)
    have h2 := lx_b_ge (b := b) (tp := tp) (p := p)
    omega
  have hgt : lx_t b tp p ≠ 23 → p + 1 ≤ lx_n b tp p := lx_n_gt
  refine jq_enter (L := [some (.ref 5), some (.int (nI (au_op H))), none]) (by decide) (Nat.le_of_ble_eq_true rfl) rfl ?_
  refine jq_aload_n 0 1 dX2_readCompared_0 rfl rfl rfl ?_
  refine jq_iload_n 1 2 dX2_readCompared_1 rfl rfl rfl ?_
  refine qs_X2_80 5 dX2_readCompared_2 rfl rfl rfl (Nat.le_of_ble_eq_true rfl) (hsub _ _ _ m H O σ _ rfl (by omega) (au_lo_w hlo (by decide)) hop hM hA hsz (fun σ1 q hF hz => ?_) (fun σ1 p1 H1 O1 w hA1 hz hu hl1 hgt0 hsp hev => ?_))
  · refine jq_aload_n 0 6 dX2_readCompared_5 rfl rfl rfl ?_
    refine qf_X2_21 9 dX2_readCompared_6 rfl rfl rfl rfl ?_
    refine jq_topi (y := tk 24) hF.2.2.2.2.1 ?_
    refine jq_bipush ((-13)) 11 dX2_readCompared_9 rfl rfl ?_
    refine jq_icmp_eq 23 14 dX2_readCompared_11 rfl rfl (fun q => absurd q (by decide)) (fun q11 => ?_)
    refine jq_aload_n 0 15 dX2_readCompared_14 rfl rfl rfl ?_
    refine qf_X2_21 18 dX2_readCompared_15 rfl rfl rfl rfl ?_
    refine jq_topi (y := tk 24) hF.2.2.2.2.1 ?_
    refine jq_bipush ((-14)) 20 dX2_readCompared_18 rfl rfl ?_
    refine jq_icmp_ne 45 23 dX2_readCompared_20 rfl rfl (fun q20 => ?_) (fun q => absurd q (by decide))
    refine jq_return dX2_readCompared_45 rfl ?_
    exact kF σ1 _ hF hz
  · have hT1 := lx_t_le b tp p1
    have hgt1 : lx_t b tp p1 ≠ 23 → p1 + 1 ≤ p1 + 1 := fun _ => Nat.le_refl _
    have hgt1' : lx_t b tp p1 ≠ 23 → p1 + 1 ≤ lx_n b tp p1 := lx_n_gt
    have hu5 : au_uw 5 H1 O1 = (H, O ++ w) := by rw [hu, au_uw_lo (au_lo_w hlo (by decide))]
    have hlen := au_uw_len 5 H1 O1
    rw [hu5] at hlen
    simp only at hlen
    have h4 : au_t4 H = false := by
      cases H with
      | nil => rfl
      | cons s H =>
        have := hlo s rfl
        show (au_rk s == 4) = false
        simp
        omega
    by_cases t13 : lx_t b tp p1 = 13
    · refine jq_aload_n 0 6 dX2_readCompared_5 rfl rfl rfl ?_
      refine qf_X2_21 9 dX2_readCompared_6 rfl rfl rfl rfl ?_
      refine jq_topi (y := tk 13) (hA1.2.2.2.2.1.1.trans (congrArg tk t13)) ?_
      refine jq_bipush ((-13)) 11 dX2_readCompared_9 rfl rfl ?_
      refine jq_icmp_eq 23 14 dX2_readCompared_11 rfl rfl (fun q11 => ?_) (fun q => absurd (by decide) q)
      refine jq_aload_n 0 24 dX2_readCompared_23 rfl rfl rfl ?_
      refine qf_X2_21 27 dX2_readCompared_24 rfl rfl rfl rfl ?_
      refine jq_topi (y := tk 13) (hA1.2.2.2.2.1.1.trans (congrArg tk t13)) ?_
      refine jq_istore_n 2 (L' := [_, _, _]) 28 dX2_readCompared_27 rfl rfl (by decide) rfl ?_
      refine jq_aload_n 0 29 dX2_readCompared_28 rfl rfl rfl ?_
      refine qs_X2_45 32 dX2_readCompared_29 rfl rfl rfl (Nat.le_of_ble_eq_true rfl) (wq_next hA1 (fun σ2 hA2 => ?_))
      refine jq_aload_n 0 33 dX2_readCompared_32 rfl rfl rfl ?_
      refine jq_iload_n 1 34 dX2_readCompared_33 rfl rfl rfl ?_
      refine qs_X2_80 37 dX2_readCompared_34 rfl rfl rfl (Nat.le_of_ble_eq_true rfl) (hsub _ _ _ 0 (14 :: H) (O ++ w) σ2 _ (au_op_c H (by decide) (by decide) (by decide)).symm (by omega) (au_lo_c (by decide)) (by rw [au_op_c H (by decide) (by decide) (by decide)]; omega) ⟨by decide, fun z => absurd z (by decide)⟩ hA2 (by have := hgt1' (by omega); show _ + (H.length + 1) ≤ _; omega) (fun σ3 q hF hz2 => ?_) (fun σ3 p3 H3 O3 w2 hA3 hz2 hu2 hl2 hgt2 hsp2 hev2 => ?_))
      · refine jq_aload_n 0 38 dX2_readCompared_37 rfl rfl rfl ?_
        refine qf_X2_36 41 dX2_readCompared_38 rfl rfl rfl rfl ?_
        refine jq_iload_n 2 42 dX2_readCompared_41 rfl rfl rfl ?_
        refine qs_X2_71 45 dX2_readCompared_42 rfl rfl rfl (Nat.le_of_ble_eq_true rfl) (wq_wrF hF (fun σ4 hF4 => ?_))
        refine jq_return dX2_readCompared_45 rfl ?_
        exact kF σ4 _ hF4 (hz _ (au_go (st_b4 t13 (by omega) hu5 h4) hz2))
      · refine jq_aload_n 0 38 dX2_readCompared_37 rfl rfl rfl ?_
        refine qf_X2_36 41 dX2_readCompared_38 rfl rfl rfl rfl ?_
        refine jq_iload_n 2 42 dX2_readCompared_41 rfl rfl rfl ?_
        refine qs_X2_71 45 dX2_readCompared_42 rfl rfl rfl (Nat.le_of_ble_eq_true rfl) (wq_wrA (o := 14) hA3 (by have := au_uw_ln hu2; have := hA3.2.2.2.2.2.1; simp only [List.length_append, List.length_cons] at *; omega) rfl (fun σ4 hA4 => ?_))
        refine jq_return dX2_readCompared_45 rfl ?_
        rw [List.append_assoc, List.append_assoc] at hA4
        have e5 : au_uw 5 H3 O3 = (14 :: H, O ++ w ++ w2) := by rw [hu2, au_uw_lo (au_lo_c (by decide))]
        refine kO σ4 p3 H3 O3 (w ++ (w2 ++ [14])) hA4 (fun R hR => hz R (au_go (st_b4 t13 (by omega) hu5 h4) (hz2 R hR))) ?_ hl2 (by have := hgt1 (by omega); omega) (fun hs hr => ?_) (fun h hh => ev_ok_app w (hev h (by omega)) (ev_ok_app w2 (hev2 (h + 1) (by rw [au_op_c H (by decide) (by decide) (by decide)]; omega)) (ev_ok_2 (by omega))))
        · rw [au_uw_tr (by decide : 4 ≤ 5) hu2, au_uw_c (by decide), List.append_assoc, List.append_assoc]
        · by_cases h5 : 5 ≤ au_rk (au_sg (lx_t b tp p3))
          · exact hsp2 hs h5
          · exact st_b4F hs (by omega) (by rw [e5]; rfl)
    by_cases t14 : lx_t b tp p1 = 14
    · refine jq_aload_n 0 6 dX2_readCompared_5 rfl rfl rfl ?_
      refine qf_X2_21 9 dX2_readCompared_6 rfl rfl rfl rfl ?_
      refine jq_topi (y := tk 14) (hA1.2.2.2.2.1.1.trans (congrArg tk t14)) ?_
      refine jq_bipush ((-13)) 11 dX2_readCompared_9 rfl rfl ?_
      refine jq_icmp_eq 23 14 dX2_readCompared_11 rfl rfl (fun q => absurd q (by decide)) (fun q11 => ?_)
      refine jq_aload_n 0 15 dX2_readCompared_14 rfl rfl rfl ?_
      refine qf_X2_21 18 dX2_readCompared_15 rfl rfl rfl rfl ?_
      refine jq_topi (y := tk 14) (hA1.2.2.2.2.1.1.trans (congrArg tk t14)) ?_
      refine jq_bipush ((-14)) 20 dX2_readCompared_18 rfl rfl ?_
      refine jq_icmp_ne 45 23 dX2_readCompared_20 rfl rfl (fun q => absurd (by decide) q) (fun q20 => ?_)
      refine jq_aload_n 0 24 dX2_readCompared_23 rfl rfl rfl ?_
      refine qf_X2_21 27 dX2_readCompared_24 rfl rfl rfl rfl ?_
      refine jq_topi (y := tk 14) (hA1.2.2.2.2.1.1.trans (congrArg tk t14)) ?_
      refine jq_istore_n 2 (L' := [_, _, _]) 28 dX2_readCompared_27 rfl rfl (by decide) rfl ?_
      refine jq_aload_n 0 29 dX2_readCompared_28 rfl rfl rfl ?_
      refine qs_X2_45 32 dX2_readCompared_29 rfl rfl rfl (Nat.le_of_ble_eq_true rfl) (wq_next hA1 (fun σ2 hA2 => ?_))
      refine jq_aload_n 0 33 dX2_readCompared_32 rfl rfl rfl ?_
      refine jq_iload_n 1 34 dX2_readCompared_33 rfl rfl rfl ?_
      refine qs_X2_80 37 dX2_readCompared_34 rfl rfl rfl (Nat.le_of_ble_eq_true rfl) (hsub _ _ _ 0 (15 :: H) (O ++ w) σ2 _ (au_op_c H (by decide) (by decide) (by decide)).symm (by omega) (au_lo_c (by decide)) (by rw [au_op_c H (by decide) (by decide) (by decide)]; omega) ⟨by decide, fun z => absurd z (by decide)⟩ hA2 (by have := hgt1' (by omega); show _ + (H.length + 1) ≤ _; omega) (fun σ3 q hF hz2 => ?_) (fun σ3 p3 H3 O3 w2 hA3 hz2 hu2 hl2 hgt2 hsp2 hev2 => ?_))
      · refine jq_aload_n 0 38 dX2_readCompared_37 rfl rfl rfl ?_
        refine qf_X2_36 41 dX2_readCompared_38 rfl rfl rfl rfl ?_
        refine jq_iload_n 2 42 dX2_readCompared_41 rfl rfl rfl ?_
        refine qs_X2_71 45 dX2_readCompared_42 rfl rfl rfl (Nat.le_of_ble_eq_true rfl) (wq_wrF hF (fun σ4 hF4 => ?_))
        refine jq_return dX2_readCompared_45 rfl ?_
        exact kF σ4 _ hF4 (hz _ (au_go (st_b4 t14 (by omega) hu5 h4) hz2))
      · refine jq_aload_n 0 38 dX2_readCompared_37 rfl rfl rfl ?_
        refine qf_X2_36 41 dX2_readCompared_38 rfl rfl rfl rfl ?_
        refine jq_iload_n 2 42 dX2_readCompared_41 rfl rfl rfl ?_
        refine qs_X2_71 45 dX2_readCompared_42 rfl rfl rfl (Nat.le_of_ble_eq_true rfl) (wq_wrA (o := 15) hA3 (by have := au_uw_ln hu2; have := hA3.2.2.2.2.2.1; simp only [List.length_append, List.length_cons] at *; omega) rfl (fun σ4 hA4 => ?_))
        refine jq_return dX2_readCompared_45 rfl ?_
        rw [List.append_assoc, List.append_assoc] at hA4
        have e5 : au_uw 5 H3 O3 = (15 :: H, O ++ w ++ w2) := by rw [hu2, au_uw_lo (au_lo_c (by decide))]
        refine kO σ4 p3 H3 O3 (w ++ (w2 ++ [15])) hA4 (fun R hR => hz R (au_go (st_b4 t14 (by omega) hu5 h4) (hz2 R hR))) ?_ hl2 (by have := hgt1 (by omega); omega) (fun hs hr => ?_) (fun h hh => ev_ok_app w (hev h (by omega)) (ev_ok_app w2 (hev2 (h + 1) (by rw [au_op_c H (by decide) (by decide) (by decide)]; omega)) (ev_ok_2 (by omega))))
        · rw [au_uw_tr (by decide : 4 ≤ 5) hu2, au_uw_c (by decide), List.append_assoc, List.append_assoc]
        · by_cases h5 : 5 ≤ au_rk (au_sg (lx_t b tp p3))
          · exact hsp2 hs h5
          · exact st_b4F hs (by omega) (by rw [e5]; rfl)
    refine jq_aload_n 0 6 dX2_readCompared_5 rfl rfl rfl ?_
    refine qf_X2_21 9 dX2_readCompared_6 rfl rfl rfl rfl ?_
    refine jq_topi (y := tk (lx_t b tp p1)) hA1.2.2.2.2.1.1 ?_
    refine jq_bipush ((-13)) 11 dX2_readCompared_9 rfl rfl ?_
    refine jq_icmp_eq 23 14 dX2_readCompared_11 rfl rfl (fun z => absurd z (tk_ne hT1.2.1 (by decide) (by omega))) (fun q11 => ?_)
    refine jq_aload_n 0 15 dX2_readCompared_14 rfl rfl rfl ?_
    refine qf_X2_21 18 dX2_readCompared_15 rfl rfl rfl rfl ?_
    refine jq_topi (y := tk (lx_t b tp p1)) hA1.2.2.2.2.1.1 ?_
    refine jq_bipush ((-14)) 20 dX2_readCompared_18 rfl rfl ?_
    refine jq_icmp_ne 45 23 dX2_readCompared_20 rfl rfl (fun q20 => ?_) (fun z => absurd z (tk_ne hT1.2.1 (by decide) (by omega)))
    refine jq_return dX2_readCompared_45 rfl ?_
    exact kO σ1 p1 H1 O1 w hA1 hz (by rw [au_uw_tr (by decide : 4 ≤ 5) hu]) hl1 hgt0 (au_sp_w hsp (fun t ht hs hr => by
      subst ht
      have e := au_sg_rk (lx_t b tp p1)
      rcases e with z | z | z | z | z | z | z | z <;> first | exact absurd z hs | omega | (rw [z.1] at hr ⊢; revert hr; decide))) (fun h hh => hev h (by omega))
theorem ct_Not {G : jq_G} {b : Nat → Nat} {tp n e : Nat} {σ0 : jr_Sg} (hE : ∀ e', e = e' + 1 → cX G b tp n σ0 mi_X2_readNot 4 3 2 24 M1 e') (hsub : cX G b tp n σ0 mi_X2_readCompared 4 4 2 23 M0 e) : cX G b tp n σ0 mi_X2_readNot 4 3 2 24 M1 e := by
  intro D op p m H O σ k eop hD hlo hop hM hA hsz kF kO
  obtain ⟨D, rfl⟩ : ∃ D', D = D' + 8 := ⟨D - 8, by omega⟩
  subst eop
  have h160 := hA.2.1.2.1
  have hp := hA.2.2.2.2.2.1
  have hT := lx_t_le b tp p
  have hO : O.length ≤ 160 := by omega
  have hlt : lx_t b tp p ≠ 23 → p < tp := fun z => by
    have h1 : ¬ tp ≤ lx_b b tp p := fun q => z (lx_t_end.mpr q)
    have h2 := lx_b_ge (b := b) (tp := tp) (p := p)
    omega
  have hgt : lx_t b tp p ≠ 23 → p + 1 ≤ lx_n b tp p := lx_n_gt
  have hm : m = 1 := hM
  by_cases t9 : lx_t b tp p = 9
  · cases e with
    | zero =>
      refine jq_enter (L := [some (.ref 5), some (.int (nI (au_op H)))]) (by decide) (Nat.le_of_ble_eq_true rfl) rfl ?_
      refine jq_aload_n 0 1 dX2_readNot_0 rfl rfl rfl ?_
      refine qf_X2_21 4 dX2_readNot_1 rfl rfl rfl rfl ?_
      refine jq_topi (y := tk 9) (hA.2.2.2.2.1.1.trans (congrArg tk t9)) ?_
      refine jq_bipush ((-9)) 6 dX2_readNot_4 rfl rfl ?_
      refine jq_icmp_eq 17 9 dX2_readNot_6 rfl rfl (fun q6 => ?_) (fun q => absurd (by decide) q)
      refine jq_iload_n 1 18 dX2_readNot_17 rfl rfl rfl ?_
      refine jq_iconst (5) 19 dX2_readNot_18 rfl rfl ?_
      refine jq_icmp_lt 29 22 dX2_readNot_19 rfl rfl (fun z => absurd z (nI_nlt (b := 5) (by omega) (by omega))) (fun q19 => ?_)
      refine jq_aload_n 0 23 dX2_readNot_22 rfl rfl rfl ?_
      refine qs_X2_62 26 dX2_readNot_23 rfl rfl rfl (Nat.le_of_ble_eq_true rfl) (wq_failA hA hO (fun σ1 hF => ?_))
      refine jq_goto 49 dX2_readNot_26 rfl ?_
      refine jq_return dX2_readNot_49 rfl ?_
      exact kF σ1 _ hF (au_end (st_not5 hm t9 (by omega)))
    | succ e' =>
      have hNot := hE e' rfl
      refine jq_enter (L := [some (.ref 5), some (.int (nI (au_op H)))]) (by decide) (Nat.le_of_ble_eq_true rfl) rfl ?_
      refine jq_aload_n 0 1 dX2_readNot_0 rfl rfl rfl ?_
      refine qf_X2_21 4 dX2_readNot_1 rfl rfl rfl rfl ?_
      refine jq_topi (y := tk 9) (hA.2.2.2.2.1.1.trans (congrArg tk t9)) ?_
      refine jq_bipush ((-9)) 6 dX2_readNot_4 rfl rfl ?_
      refine jq_icmp_eq 17 9 dX2_readNot_6 rfl rfl (fun q6 => ?_) (fun q => absurd (by decide) q)
      refine jq_iload_n 1 18 dX2_readNot_17 rfl rfl rfl ?_
      refine jq_iconst (5) 19 dX2_readNot_18 rfl rfl ?_
      refine jq_icmp_lt 29 22 dX2_readNot_19 rfl rfl (fun q19 => ?_) (fun z => absurd (nI_lt (b := 5) (by omega) (by omega)) z)
      refine jq_aload_n 0 30 dX2_readNot_29 rfl rfl rfl ?_
      refine qs_X2_45 33 dX2_readNot_30 rfl rfl rfl (Nat.le_of_ble_eq_true rfl) (wq_next hA (fun σ1 hA1 => ?_))
      refine jq_aload_n 0 34 dX2_readNot_33 rfl rfl rfl ?_
      refine jq_iload_n 1 35 dX2_readNot_34 rfl rfl rfl ?_
      refine jq_iconst (1) 36 dX2_readNot_35 rfl rfl ?_
      refine jq_iadd 37 dX2_readNot_36 rfl ?_
      rw [show (1 : Int32) = nI 1 from rfl, nI_add]
      refine qs_X2_74 40 dX2_readNot_37 rfl rfl rfl (Nat.le_of_ble_eq_true rfl) (hNot _ _ _ 1 (13 :: H) O σ1 _ (au_op_c13 H).symm (by omega) (au_lo_c (by decide)) (by rw [au_op_c13]; omega) rfl hA1 (by have := hgt (by omega); show O.length + (H.length + 1) ≤ _; omega) (fun σ2 q hF hz => ?_) (fun σ2 p2 H2 O2 w hA2 hz hu hl hgt2 hsp hev => ?_))
      · refine jq_aload_n 0 41 dX2_readNot_40 rfl rfl rfl ?_
        refine qf_X2_36 44 dX2_readNot_41 rfl rfl rfl rfl ?_
        refine jq_bipush ((-9)) 46 dX2_readNot_44 rfl rfl ?_
        refine qs_X2_71 49 dX2_readNot_46 rfl rfl rfl (Nat.le_of_ble_eq_true rfl) (wq_wrF hF (fun σ3 hF3 => ?_))
        refine jq_return dX2_readNot_49 rfl ?_
        exact kF σ3 _ hF3 (au_go (st_not hm t9 (by omega)) hz)
      · refine jq_aload_n 0 41 dX2_readNot_40 rfl rfl rfl ?_
        refine qf_X2_36 44 dX2_readNot_41 rfl rfl rfl rfl ?_
        refine jq_bipush ((-9)) 46 dX2_readNot_44 rfl rfl ?_
        refine qs_X2_71 49 dX2_readNot_46 rfl rfl rfl (Nat.le_of_ble_eq_true rfl) (wq_wrA (o := 13) hA2 (by have := au_uw_ln hu; have := hA2.2.2.2.2.2.1; simp only [List.length_append, List.length_cons] at *; omega) rfl (fun σ3 hA3 => ?_))
        refine jq_return dX2_readNot_49 rfl ?_
        rw [List.append_assoc] at hA3
        refine kO σ3 p2 H2 O2 (w ++ [13]) hA3 (fun R hR => au_go (st_not hm t9 (by omega)) (hz R hR)) (by rw [hu, au_uw_c (by decide), List.append_assoc]) hl (by have := hgt (by omega); omega) hsp (fun h hh => ev_ok_app w (hev h (by rw [au_op_c13]; omega)) (ev_ok_1 (Or.inl rfl)))
  · refine jq_enter (L := [some (.ref 5), some (.int (nI (au_op H)))]) (by decide) (Nat.le_of_ble_eq_true rfl) rfl ?_
    refine jq_aload_n 0 1 dX2_readNot_0 rfl rfl rfl ?_
    refine qf_X2_21 4 dX2_readNot_1 rfl rfl rfl rfl ?_
    refine jq_topi (y := tk (lx_t b tp p)) hA.2.2.2.2.1.1 ?_
    refine jq_bipush ((-9)) 6 dX2_readNot_4 rfl rfl ?_
    refine jq_icmp_eq 17 9 dX2_readNot_6 rfl rfl (fun z => absurd z (tk_ne hT.2.1 (by decide) t9)) (fun q6 => ?_)
    refine jq_aload_n 0 10 dX2_readNot_9 rfl rfl rfl ?_
    refine jq_iload_n 1 11 dX2_readNot_10 rfl rfl rfl ?_
    refine qs_X2_77 14 dX2_readNot_11 rfl rfl rfl (Nat.le_of_ble_eq_true rfl) (hsub _ _ _ m H O σ _ rfl (by omega) hlo hop ⟨by omega, fun _ => t9⟩ hA hsz (fun σ1 q hF hz => ?_) (fun σ1 p1 H1 O1 w hA1 hz hu hl1 hgt1 hsp hev => ?_))
    · refine jq_goto 49 dX2_readNot_14 rfl ?_
      refine jq_return dX2_readNot_49 rfl ?_
      exact kF σ1 _ hF hz
    · refine jq_goto 49 dX2_readNot_14 rfl ?_
      refine jq_return dX2_readNot_49 rfl ?_
      exact kO σ1 p1 H1 O1 w hA1 hz (au_uw_tr (by decide) hu) hl1 hgt1 (au_sp_w hsp (fun t ht hs hr => by
        rcases au_sg_rk t with z | z | z | z | z | z | z | z <;> first | exact absurd z hs | (rw [z.1] at hr ⊢; revert hr; decide))) (fun h hh => hev h (by omega))
theorem lf_And {G : jq_G} {n q D : Nat} {σ0 σ : jr_Sg} {k : jr_Sg → Prop} {x y : Int32} (hF : cF n σ0 σ q) (h : k σ) : jq_R G D mi_X2_readAnd (jr_kv k) 7 [some (.ref 5), some (.int x), some (.int y)] [] σ := by
  refine jq_iload_n 2 8 dX2_readAnd_7 rfl rfl rfl ?_
  refine jq_sipush (160) 11 dX2_readAnd_8 rfl rfl ?_
  refine jq_icmp_ge 47 14 dX2_readAnd_11 rfl rfl (fun q11 => ?_) (fun q11 => ?_)
  · refine jq_return dX2_readAnd_47 rfl ?_
    exact h
  · refine jq_aload_n 0 15 dX2_readAnd_14 rfl rfl rfl ?_
    refine qf_X2_21 18 dX2_readAnd_15 rfl rfl rfl rfl ?_
    refine jq_topi (y := tk 24) hF.2.2.2.2.1 ?_
    refine jq_bipush ((-8)) 20 dX2_readAnd_18 rfl rfl ?_
    refine jq_icmp_ne 47 23 dX2_readAnd_20 rfl rfl (fun q20 => ?_) (fun q => absurd q (by decide))
    refine jq_return dX2_readAnd_47 rfl ?_
    exact h
theorem lp_And {G : jq_G} {b : Nat → Nat} {tp n e : Nat} {σ0 : jr_Sg} {D p m : Nat} {H O : List Nat} {k : jr_Sg → Prop} (hsub : cX G b tp n σ0 mi_X2_readNot 4 3 2 24 M1 e) (hD : 8 * e + 25 ≤ D + 8) (hlo : au_lo 2 H) (hop : au_op H + e = 5)
  (kF : ∀ σ' q, cF n σ0 σ' q → au b tp (p, (m, (H, O))) (.inl q) → k σ')
  (kO : ∀ (σ' : jr_Sg) (p' : Nat) (H' O' w : List Nat), cA b tp n σ0 σ' p' (O ++ w) → (∀ R, au b tp (p', (2, (H', O'))) R → au b tp (p, (m, (H, O))) R) → au_uw 2 H' O' = au_uw 2 H (O ++ w) → O'.length + H'.length ≤ p' → p + 1 ≤ p' → au_sp b tp 2 p' H' O' → (∀ h, h ≤ 5 * au_op H + 1 → ev_ok h w (h + 1)) → k σ') :
  ∀ (N p1 i : Nat) (H1 O1 w : List Nat) (σ : jr_Sg), tp < p1 + N → i ≤ p1 → p + 1 ≤ p1 → cA b tp n σ0 σ p1 (O ++ w) → (∀ R, au b tp (p1, (2, (H1, O1))) R → au b tp (p, (m, (H, O))) R) → au_uw 2 H1 O1 = (H, O ++ w) → O1.length + H1.length ≤ p1 → au_sp b tp 3 p1 H1 O1 → (∀ h, h ≤ 5 * au_op H + 1 → ev_ok h w (h + 1)) → jq_R G (D + 8) mi_X2_readAnd (jr_kv k) 7 [some (.ref 5), some (.int (nI (au_op H))), some (.int (nI i))] [] σ := by
  intro N
  induction N with
  | zero =>
    intro p1 i H1 O1 w σ hN hi hp1 hA hz hu hl1 hsp hev
    exact absurd hA.2.2.2.2.2.1 (by omega)
  | succ N ih =>
    intro p1 i H1 O1 w σ hN hi hp1 hA hz hu hl1 hsp hev
    have h160 := hA.2.1.2.1
    have hp := hA.2.2.2.2.2.1
    have hT := lx_t_le b tp p1
    have hlt : lx_t b tp p1 ≠ 23 → p1 < tp := fun z => by
      have h1 : ¬ tp ≤ lx_b b tp p1 := fun q => z (lx_t_end.mpr q)
      have h2 := lx_b_ge (b := b) (tp := tp) (p := p1)
      omega
    have hgt : lx_t b tp p1 ≠ 23 → p1 + 1 ≤ lx_n b tp p1 := lx_n_gt
    have hlen := au_uw_len 2 H1 O1
    rw [hu] at hlen
    simp only at hlen
    by_cases tt8 : lx_t b tp p1 = 8
    · refine jq_iload_n 2 8 dX2_readAnd_7 rfl rfl rfl ?_
      refine jq_sipush ((nI 160)) 11 dX2_readAnd_8 rfl rfl ?_
      refine jq_icmp_ge 47 14 dX2_readAnd_11 rfl rfl (fun z => absurd z (nI_ge (b := 160) (by have := hlt (by omega); omega) (by decide))) (fun q11 => ?_)
      refine jq_aload_n 0 15 dX2_readAnd_14 rfl rfl rfl ?_
      refine qf_X2_21 18 dX2_readAnd_15 rfl rfl rfl rfl ?_
      refine jq_topi (y := tk 8) (hA.2.2.2.2.1.1.trans (congrArg tk tt8)) ?_
      refine jq_bipush ((-8)) 20 dX2_readAnd_18 rfl rfl ?_
      refine jq_icmp_ne 47 23 dX2_readAnd_20 rfl rfl (fun q => absurd (by decide) q) (fun q20 => ?_)
      refine jq_aload_n 0 24 dX2_readAnd_23 rfl rfl rfl ?_
      refine qs_X2_45 27 dX2_readAnd_24 rfl rfl rfl (Nat.le_of_ble_eq_true rfl) (wq_next hA (fun σ1 hA1 => ?_))
      refine jq_aload_n 0 28 dX2_readAnd_27 rfl rfl rfl ?_
      refine jq_iload_n 1 29 dX2_readAnd_28 rfl rfl rfl ?_
      refine qs_X2_74 32 dX2_readAnd_29 rfl rfl rfl (Nat.le_of_ble_eq_true rfl) (hsub _ _ _ 1 (12 :: H) (O ++ w) σ1 _ (au_op_c H (by decide) (by decide) (by decide)).symm (by omega) (au_lo_c (by decide)) (by rw [au_op_c H (by decide) (by decide) (by decide)]; omega) rfl hA1 (by have := hgt (by omega); show _ + (H.length + 1) ≤ _; omega) (fun σ2 q hF hz2 => ?_) (fun σ2 p3 H3 O3 w2 hA2 hz2 hu2 hl2 hgt2 hsp2 hev2 => ?_))
      · refine jq_aload_n 0 33 dX2_readAnd_32 rfl rfl rfl ?_
        refine qf_X2_36 36 dX2_readAnd_33 rfl rfl rfl rfl ?_
        refine jq_bipush ((-8)) 38 dX2_readAnd_36 rfl rfl ?_
        refine qs_X2_71 41 dX2_readAnd_38 rfl rfl rfl (Nat.le_of_ble_eq_true rfl) (wq_wrF hF (fun σ3 hF3 => ?_))
        refine jq_iinc (v := _ + 1) (L' := [_, _, _]) 44 dX2_readAnd_41 rfl rfl rfl (by decide) rfl ?_
        refine jq_goto 7 dX2_readAnd_44 rfl ?_
        exact lf_And hF3 (kF σ3 _ hF3 (hz _ (au_go (st_b tt8 (by omega) hu) hz2)))
      · refine jq_aload_n 0 33 dX2_readAnd_32 rfl rfl rfl ?_
        refine qf_X2_36 36 dX2_readAnd_33 rfl rfl rfl rfl ?_
        refine jq_bipush ((-8)) 38 dX2_readAnd_36 rfl rfl ?_
        refine qs_X2_71 41 dX2_readAnd_38 rfl rfl rfl (Nat.le_of_ble_eq_true rfl) (wq_wrA (o := 12) hA2 (by have := au_uw_ln hu2; have := hA2.2.2.2.2.2.1; simp only [List.length_append, List.length_cons] at *; omega) rfl (fun σ3 hA3 => ?_))
        refine jq_iinc (v := nI (i + 1)) (L' := [_, _, _]) 44 dX2_readAnd_41 rfl rfl (nI_1 i) (by decide) rfl ?_
        refine jq_goto 7 dX2_readAnd_44 rfl ?_
        rw [List.append_assoc, List.append_assoc] at hA3
        refine ih p3 (i + 1) H3 O3 (w ++ (w2 ++ [12])) σ3 (by have := hgt (by omega); omega) (by have := hgt (by omega); omega) (by have := hgt (by omega); omega) hA3 (fun R hR => hz R (au_go (st_b tt8 (by omega) hu) (hz2 R hR))) ?_ hl2 (au_sp_w hsp2 (fun t _ _ h => h)) (fun h hh => ev_ok_app w (hev h hh) (ev_ok_app w2 (hev2 (h + 1) (by rw [au_op_c H (by decide) (by decide) (by decide)]; omega)) (ev_ok_2 (by omega))))
        rw [au_uw_tr (by decide : 2 ≤ 3) hu2, au_uw_c (by decide), au_uw_lo (by exact au_lo_w hlo (by decide)), List.append_assoc, List.append_assoc]
    have hend : k σ := kO σ p1 H1 O1 w hA hz (by rw [hu, au_uw_lo (au_lo_w hlo (by decide))]) hl1 hp1 (au_sp_w hsp (fun t ht hs hr => by
        subst ht
        have e := au_sg_rk (lx_t b tp p1)
        rcases e with z | z | z | z | z | z | z | z <;> first | exact absurd z hs | omega | (rw [z.1] at hr ⊢; revert hr; decide))) hev
    refine jq_iload_n 2 8 dX2_readAnd_7 rfl rfl rfl ?_
    refine jq_sipush ((nI 160)) 11 dX2_readAnd_8 rfl rfl ?_
    refine jq_icmp_ge 47 14 dX2_readAnd_11 rfl rfl (fun q11 => ?_) (fun q11 => ?_)
    · refine jq_return dX2_readAnd_47 rfl ?_
      exact hend
    · refine jq_aload_n 0 15 dX2_readAnd_14 rfl rfl rfl ?_
      refine qf_X2_21 18 dX2_readAnd_15 rfl rfl rfl rfl ?_
      refine jq_topi (y := tk (lx_t b tp p1)) hA.2.2.2.2.1.1 ?_
      refine jq_bipush ((-8)) 20 dX2_readAnd_18 rfl rfl ?_
      refine jq_icmp_ne 47 23 dX2_readAnd_20 rfl rfl (fun q20 => ?_) (fun z => absurd z (tk_ne hT.2.1 (by decide) (by omega)))
      refine jq_return dX2_readAnd_47 rfl ?_
      exact hend
theorem ct_And {G : jq_G} {b : Nat → Nat} {tp n e : Nat} {σ0 : jr_Sg} (hsub : cX G b tp n σ0 mi_X2_readNot 4 3 2 24 M1 e) : cX G b tp n σ0 mi_X2_readAnd 2 2 1 25 M1 e := by
  intro D op p m H O σ k eop hD hlo hop hM hA hsz kF kO
  obtain ⟨D, rfl⟩ : ∃ D', D = D' + 8 := ⟨D - 8, by omega⟩
  subst eop
  have h160 := hA.2.1.2.1
  have hp := hA.2.2.2.2.2.1
  have hT := lx_t_le b tp p
  have hO : O.length ≤ 160 := by omega
  have hlt : lx_t b tp p ≠ 23 → p < tp := fun z => by
    have h1 : ¬ tp ≤ lx_b b tp p := fun q => z (lx_t_end.mpr q)
    have h2 := lx_b_ge (b := b) (tp := tp) (p := p)
    omega
  have hgt : lx_t b tp p ≠ 23 → p + 1 ≤ lx_n b tp p := lx_n_gt
  refine jq_enter (L := [some (.ref 5), some (.int (nI (au_op H))), none]) (by decide) (Nat.le_of_ble_eq_true rfl) rfl ?_
  refine jq_aload_n 0 1 dX2_readAnd_0 rfl rfl rfl ?_
  refine jq_iload_n 1 2 dX2_readAnd_1 rfl rfl rfl ?_
  refine qs_X2_74 5 dX2_readAnd_2 rfl rfl rfl (Nat.le_of_ble_eq_true rfl) (hsub _ _ _ m H O σ _ rfl (by omega) (au_lo_w hlo (by decide)) hop hM hA hsz (fun σ1 q hF hz => ?_) (fun σ1 p1 H1 O1 w hA1 hz hu hl1 hgt1 hsp hev => ?_))
  · refine jq_iconst ((nI 0)) 6 dX2_readAnd_5 rfl rfl ?_
    refine jq_istore_n 2 (L' := [_, _, _]) 7 dX2_readAnd_6 rfl rfl (by decide) rfl ?_
    exact lf_And hF (kF σ1 _ hF hz)
  · refine jq_iconst ((nI 0)) 6 dX2_readAnd_5 rfl rfl ?_
    refine jq_istore_n 2 (L' := [_, _, _]) 7 dX2_readAnd_6 rfl rfl (by decide) rfl ?_
    exact lp_And hsub (by omega) hlo hop kF kO (tp + 1) p1 0 H1 O1 w σ1 (by omega) (by omega) hgt1 hA1 hz (by rw [au_uw_tr (by decide : 2 ≤ 3) hu, au_uw_lo hlo]) hl1 hsp (fun h hh => hev h (by omega))
theorem lf_Or {G : jq_G} {n q D : Nat} {σ0 σ : jr_Sg} {k : jr_Sg → Prop} {x y : Int32} (hF : cF n σ0 σ q) (h : k σ) : jq_R G D mi_X2_readOr (jr_kv k) 7 [some (.ref 5), some (.int x), some (.int y)] [] σ := by
  refine jq_iload_n 2 8 dX2_readOr_7 rfl rfl rfl ?_
  refine jq_sipush (160) 11 dX2_readOr_8 rfl rfl ?_
  refine jq_icmp_ge 47 14 dX2_readOr_11 rfl rfl (fun q11 => ?_) (fun q11 => ?_)
  · refine jq_return dX2_readOr_47 rfl ?_
    exact h
  · refine jq_aload_n 0 15 dX2_readOr_14 rfl rfl rfl ?_
    refine qf_X2_21 18 dX2_readOr_15 rfl rfl rfl rfl ?_
    refine jq_topi (y := tk 24) hF.2.2.2.2.1 ?_
    refine jq_bipush ((-7)) 20 dX2_readOr_18 rfl rfl ?_
    refine jq_icmp_ne 47 23 dX2_readOr_20 rfl rfl (fun q20 => ?_) (fun q => absurd q (by decide))
    refine jq_return dX2_readOr_47 rfl ?_
    exact h
theorem lp_Or {G : jq_G} {b : Nat → Nat} {tp n e : Nat} {σ0 : jr_Sg} {D p m : Nat} {H O : List Nat} {k : jr_Sg → Prop} (hsub : cX G b tp n σ0 mi_X2_readAnd 2 2 1 25 M1 e) (hD : 8 * e + 26 ≤ D + 8) (hlo : au_lo 1 H) (hop : au_op H + e = 5)
  (kF : ∀ σ' q, cF n σ0 σ' q → au b tp (p, (m, (H, O))) (.inl q) → k σ')
  (kO : ∀ (σ' : jr_Sg) (p' : Nat) (H' O' w : List Nat), cA b tp n σ0 σ' p' (O ++ w) → (∀ R, au b tp (p', (2, (H', O'))) R → au b tp (p, (m, (H, O))) R) → au_uw 1 H' O' = au_uw 1 H (O ++ w) → O'.length + H'.length ≤ p' → p + 1 ≤ p' → au_sp b tp 1 p' H' O' → (∀ h, h ≤ 5 * au_op H + 0 → ev_ok h w (h + 1)) → k σ') :
  ∀ (N p1 i : Nat) (H1 O1 w : List Nat) (σ : jr_Sg), tp < p1 + N → i ≤ p1 → p + 1 ≤ p1 → cA b tp n σ0 σ p1 (O ++ w) → (∀ R, au b tp (p1, (2, (H1, O1))) R → au b tp (p, (m, (H, O))) R) → au_uw 1 H1 O1 = (H, O ++ w) → O1.length + H1.length ≤ p1 → au_sp b tp 2 p1 H1 O1 → (∀ h, h ≤ 5 * au_op H + 0 → ev_ok h w (h + 1)) → jq_R G (D + 8) mi_X2_readOr (jr_kv k) 7 [some (.ref 5), some (.int (nI (au_op H))), some (.int (nI i))] [] σ := by
  intro N
  induction N with
  | zero =>
    intro p1 i H1 O1 w σ hN hi hp1 hA hz hu hl1 hsp hev
    exact absurd hA.2.2.2.2.2.1 (by omega)
  | succ N ih =>
    intro p1 i H1 O1 w σ hN hi hp1 hA hz hu hl1 hsp hev
    have h160 := hA.2.1.2.1
    have hp := hA.2.2.2.2.2.1
    have hT := lx_t_le b tp p1
    have hlt : lx_t b tp p1 ≠ 23 → p1 < tp := fun z => by
      have h1 : ¬ tp ≤ lx_b b tp p1 := fun q => z (lx_t_end.mpr q)
      have h2 := lx_b_ge (b := b) (tp := tp) (p := p1)
      omega
    have hgt : lx_t b tp p1 ≠ 23 → p1 + 1 ≤ lx_n b tp p1 := lx_n_gt
    have hlen := au_uw_len 1 H1 O1
    rw [hu] at hlen
    simp only at hlen
    by_cases tt7 : lx_t b tp p1 = 7
    · refine jq_iload_n 2 8 dX2_readOr_7 rfl rfl rfl ?_
      refine jq_sipush ((nI 160)) 11 dX2_readOr_8 rfl rfl ?_
      refine jq_icmp_ge 47 14 dX2_readOr_11 rfl rfl (fun z => absurd z (nI_ge (b := 160) (by have := hlt (by omega); omega) (by decide))) (fun q11 => ?_)
      refine jq_aload_n 0 15 dX2_readOr_14 rfl rfl rfl ?_
      refine qf_X2_21 18 dX2_readOr_15 rfl rfl rfl rfl ?_
      refine jq_topi (y := tk 7) (hA.2.2.2.2.1.1.trans (congrArg tk tt7)) ?_
      refine jq_bipush ((-7)) 20 dX2_readOr_18 rfl rfl ?_
      refine jq_icmp_ne 47 23 dX2_readOr_20 rfl rfl (fun q => absurd (by decide) q) (fun q20 => ?_)
      refine jq_aload_n 0 24 dX2_readOr_23 rfl rfl rfl ?_
      refine qs_X2_45 27 dX2_readOr_24 rfl rfl rfl (Nat.le_of_ble_eq_true rfl) (wq_next hA (fun σ1 hA1 => ?_))
      refine jq_aload_n 0 28 dX2_readOr_27 rfl rfl rfl ?_
      refine jq_iload_n 1 29 dX2_readOr_28 rfl rfl rfl ?_
      refine qs_X2_68 32 dX2_readOr_29 rfl rfl rfl (Nat.le_of_ble_eq_true rfl) (hsub _ _ _ 1 (11 :: H) (O ++ w) σ1 _ (au_op_c H (by decide) (by decide) (by decide)).symm (by omega) (au_lo_c (by decide)) (by rw [au_op_c H (by decide) (by decide) (by decide)]; omega) rfl hA1 (by have := hgt (by omega); show _ + (H.length + 1) ≤ _; omega) (fun σ2 q hF hz2 => ?_) (fun σ2 p3 H3 O3 w2 hA2 hz2 hu2 hl2 hgt2 hsp2 hev2 => ?_))
      · refine jq_aload_n 0 33 dX2_readOr_32 rfl rfl rfl ?_
        refine qf_X2_36 36 dX2_readOr_33 rfl rfl rfl rfl ?_
        refine jq_bipush ((-7)) 38 dX2_readOr_36 rfl rfl ?_
        refine qs_X2_71 41 dX2_readOr_38 rfl rfl rfl (Nat.le_of_ble_eq_true rfl) (wq_wrF hF (fun σ3 hF3 => ?_))
        refine jq_iinc (v := _ + 1) (L' := [_, _, _]) 44 dX2_readOr_41 rfl rfl rfl (by decide) rfl ?_
        refine jq_goto 7 dX2_readOr_44 rfl ?_
        exact lf_Or hF3 (kF σ3 _ hF3 (hz _ (au_go (st_b tt7 (by omega) hu) hz2)))
      · refine jq_aload_n 0 33 dX2_readOr_32 rfl rfl rfl ?_
        refine qf_X2_36 36 dX2_readOr_33 rfl rfl rfl rfl ?_
        refine jq_bipush ((-7)) 38 dX2_readOr_36 rfl rfl ?_
        refine qs_X2_71 41 dX2_readOr_38 rfl rfl rfl (Nat.le_of_ble_eq_true rfl) (wq_wrA (o := 11) hA2 (by have := au_uw_ln hu2; have := hA2.2.2.2.2.2.1; simp only [List.length_append, List.length_cons] at *; omega) rfl (fun σ3 hA3 => ?_))
        refine jq_iinc (v := nI (i + 1)) (L' := [_, _, _]) 44 dX2_readOr_41 rfl rfl (nI_1 i) (by decide) rfl ?_
        refine jq_goto 7 dX2_readOr_44 rfl ?_
        rw [List.append_assoc, List.append_assoc] at hA3
        refine ih p3 (i + 1) H3 O3 (w ++ (w2 ++ [11])) σ3 (by have := hgt (by omega); omega) (by have := hgt (by omega); omega) (by have := hgt (by omega); omega) hA3 (fun R hR => hz R (au_go (st_b tt7 (by omega) hu) (hz2 R hR))) ?_ hl2 (au_sp_w hsp2 (fun t _ _ h => h)) (fun h hh => ev_ok_app w (hev h hh) (ev_ok_app w2 (hev2 (h + 1) (by rw [au_op_c H (by decide) (by decide) (by decide)]; omega)) (ev_ok_2 (by omega))))
        rw [au_uw_tr (by decide : 1 ≤ 2) hu2, au_uw_c (by decide), au_uw_lo (by exact au_lo_w hlo (by decide)), List.append_assoc, List.append_assoc]
    have hend : k σ := kO σ p1 H1 O1 w hA hz (by rw [hu, au_uw_lo (au_lo_w hlo (by decide))]) hl1 hp1 (au_sp_w hsp (fun t ht hs hr => by
        subst ht
        have e := au_sg_rk (lx_t b tp p1)
        rcases e with z | z | z | z | z | z | z | z <;> first | exact absurd z hs | omega | (rw [z.1] at hr ⊢; revert hr; decide))) hev
    refine jq_iload_n 2 8 dX2_readOr_7 rfl rfl rfl ?_
    refine jq_sipush ((nI 160)) 11 dX2_readOr_8 rfl rfl ?_
    refine jq_icmp_ge 47 14 dX2_readOr_11 rfl rfl (fun q11 => ?_) (fun q11 => ?_)
    · refine jq_return dX2_readOr_47 rfl ?_
      exact hend
    · refine jq_aload_n 0 15 dX2_readOr_14 rfl rfl rfl ?_
      refine qf_X2_21 18 dX2_readOr_15 rfl rfl rfl rfl ?_
      refine jq_topi (y := tk (lx_t b tp p1)) hA.2.2.2.2.1.1 ?_
      refine jq_bipush ((-7)) 20 dX2_readOr_18 rfl rfl ?_
      refine jq_icmp_ne 47 23 dX2_readOr_20 rfl rfl (fun q20 => ?_) (fun z => absurd z (tk_ne hT.2.1 (by decide) (by omega)))
      refine jq_return dX2_readOr_47 rfl ?_
      exact hend
theorem ct_Or {G : jq_G} {b : Nat → Nat} {tp n e : Nat} {σ0 : jr_Sg} (hsub : cX G b tp n σ0 mi_X2_readAnd 2 2 1 25 M1 e) : cX G b tp n σ0 mi_X2_readOr 1 1 0 26 M1 e := by
  intro D op p m H O σ k eop hD hlo hop hM hA hsz kF kO
  obtain ⟨D, rfl⟩ : ∃ D', D = D' + 8 := ⟨D - 8, by omega⟩
  subst eop
  have h160 := hA.2.1.2.1
  have hp := hA.2.2.2.2.2.1
  have hT := lx_t_le b tp p
  have hO : O.length ≤ 160 := by omega
  have hlt : lx_t b tp p ≠ 23 → p < tp := fun z => by
    have h1 : ¬ tp ≤ lx_b b tp p := fun q => z (lx_t_end.mpr q)
    have h2 := lx_b_ge (b := b) (tp := tp) (p := p)
    omega
  have hgt : lx_t b tp p ≠ 23 → p + 1 ≤ lx_n b tp p := lx_n_gt
  refine jq_enter (L := [some (.ref 5), some (.int (nI (au_op H))), none]) (by decide) (Nat.le_of_ble_eq_true rfl) rfl ?_
  refine jq_aload_n 0 1 dX2_readOr_0 rfl rfl rfl ?_
  refine jq_iload_n 1 2 dX2_readOr_1 rfl rfl rfl ?_
  refine qs_X2_68 5 dX2_readOr_2 rfl rfl rfl (Nat.le_of_ble_eq_true rfl) (hsub _ _ _ m H O σ _ rfl (by omega) (au_lo_w hlo (by decide)) hop hM hA hsz (fun σ1 q hF hz => ?_) (fun σ1 p1 H1 O1 w hA1 hz hu hl1 hgt1 hsp hev => ?_))
  · refine jq_iconst ((nI 0)) 6 dX2_readOr_5 rfl rfl ?_
    refine jq_istore_n 2 (L' := [_, _, _]) 7 dX2_readOr_6 rfl rfl (by decide) rfl ?_
    exact lf_Or hF (kF σ1 _ hF hz)
  · refine jq_iconst ((nI 0)) 6 dX2_readOr_5 rfl rfl ?_
    refine jq_istore_n 2 (L' := [_, _, _]) 7 dX2_readOr_6 rfl rfl (by decide) rfl ?_
    exact lp_Or hsub (by omega) hlo hop kF kO (tp + 1) p1 0 H1 O1 w σ1 (by omega) (by omega) hgt1 hA1 hz (by rw [au_uw_tr (by decide : 1 ≤ 2) hu, au_uw_lo hlo]) hl1 hsp (fun h hh => hev h (by omega))
theorem ct_all {G : jq_G} {b : Nat → Nat} {tp n : Nat} {σ0 : jr_Sg} : ∀ e : Nat, cX G b tp n σ0 mi_X2_readOne 8 7 5 20 M0 e ∧ cX G b tp n σ0 mi_X2_readNot 4 3 2 24 M1 e ∧ cX G b tp n σ0 mi_X2_readOr 1 1 0 26 M1 e := by
  intro e
  induction e with
  | zero =>
    have h1 := ct_One (G := G) (b := b) (tp := tp) (n := n) (σ0 := σ0) (e := 0) (fun e' h => absurd h (by omega))
    have h2 := ct_Not (fun e' h => absurd h (by omega)) (ct_Compared (ct_Sum (ct_Term h1)))
    exact ⟨h1, h2, ct_Or (ct_And h2)⟩
  | succ e ih =>
    have h1 := ct_One (G := G) (b := b) (tp := tp) (n := n) (σ0 := σ0) (e := e + 1) (fun e' h => by
      have e1 : e = e' := by omega
      subst e1
      exact ⟨ih.1, ih.2.2⟩)
    have h2 := ct_Not (fun e' h => by
      have e1 : e = e' := by omega
      subst e1
      exact ih.2.1) (ct_Compared (ct_Sum (ct_Term h1)))
    exact ⟨h1, h2, ct_Or (ct_And h2)⟩

theorem wq_endPart {G : jq_G} {d : Nat} {σ : jr_Sg} {k : jr_Sg → Prop} {n x part : Nat} (hn : σ 1 4 = nI n) (hn6 : n < 6) (hp : part < 3) (hx : σ 1 3 = nI x) (h : k (jr_up σ 3 (3 * n + part) (nI (160 * n + x)))) : jq_M G d mi_X6_endPart [.ref 1, .int (nI part)] σ (jr_kv k) := by
  refine jq_enter (L := [some (.ref 1), some (.int (nI part))]) (by decide) (Nat.le_of_ble_eq_true rfl) rfl ?_
  refine jq_aload_n 0 1 dX6_endPart_0 rfl rfl rfl ?_
  refine qf_X6_25 4 dX6_endPart_1 rfl rfl rfl rfl ?_
  refine jq_topi (y := nI n) hn ?_
  refine jq_if_lt 51 7 dX6_endPart_4 rfl rfl (fun z => absurd z (nI_pos (by omega))) (fun q4 => ?_)
  refine jq_aload_n 0 8 dX6_endPart_7 rfl rfl rfl ?_
  refine qf_X6_25 11 dX6_endPart_8 rfl rfl rfl rfl ?_
  refine jq_topi (y := nI n) hn ?_
  refine jq_bipush (nI 6) 13 dX6_endPart_11 rfl rfl ?_
  refine jq_icmp_ge 51 16 dX6_endPart_13 rfl rfl (fun z => absurd z (nI_ge (b := 6) hn6 (by omega))) (fun q13 => ?_)
  refine jq_iload_n 1 17 dX6_endPart_16 rfl rfl rfl ?_
  refine jq_if_lt 51 20 dX6_endPart_17 rfl rfl (fun z => absurd z (nI_pos (by omega))) (fun q17 => ?_)
  refine jq_iload_n 1 21 dX6_endPart_20 rfl rfl rfl ?_
  refine jq_iconst (nI 3) 22 dX6_endPart_21 rfl rfl ?_
  refine jq_icmp_ge 51 25 dX6_endPart_22 rfl rfl (fun z => absurd z (nI_ge (b := 3) hp (by omega))) (fun q22 => ?_)
  refine jq_aload_n 0 26 dX6_endPart_25 rfl rfl rfl ?_
  refine qf_X6_15 29 dX6_endPart_26 rfl rfl rfl rfl ?_
  refine jq_aload_n 0 30 dX6_endPart_29 rfl rfl rfl ?_
  refine qf_X6_25 33 dX6_endPart_30 rfl rfl rfl rfl ?_
  refine jq_topi (y := nI n) hn ?_
  refine jq_iconst (nI 3) 34 dX6_endPart_33 rfl rfl ?_
  refine jq_imul 35 dX6_endPart_34 rfl ?_
  rw [pk_mul]
  refine jq_iload_n 1 36 dX6_endPart_35 rfl rfl rfl ?_
  refine jq_iadd 37 dX6_endPart_36 rfl ?_
  rw [nI_add]
  refine jq_aload_n 0 38 dX6_endPart_37 rfl rfl rfl ?_
  refine qf_X6_25 41 dX6_endPart_38 rfl rfl rfl rfl ?_
  refine jq_topi (y := nI n) hn ?_
  refine jq_sipush (nI 160) 44 dX6_endPart_41 rfl rfl ?_
  refine jq_imul 45 dX6_endPart_44 rfl ?_
  rw [pk_mul]
  refine jq_aload_n 0 46 dX6_endPart_45 rfl rfl rfl ?_
  refine qf_X6_21 49 dX6_endPart_46 rfl rfl rfl rfl ?_
  refine jq_topi (y := nI x) hx ?_
  refine jq_iadd 50 dX6_endPart_49 rfl ?_
  rw [nI_add, Nat.mul_comm n 160]
  refine jq_iast rfl (k := 3 * n + part) (by rw [Nat.mul_comm]) (by omega) 51 dX6_endPart_50 rfl ?_
  refine jq_return dX6_endPart_51 rfl ?_
  exact h
theorem wq_keepNext {G : jq_G} {d : Nat} {σ : jr_Sg} {k : jr_Sg → Prop} {n : Nat} (hn : σ 1 4 = nI n) (hn6 : n < 6) (h : k (jr_up σ 1 4 (nI (n + 1)))) : jq_M G d mi_X6_keepNext [.ref 1] σ (jr_kv k) := by
  refine jq_enter (L := [some (.ref 1)]) (by decide) (Nat.le_of_ble_eq_true rfl) rfl ?_
  refine jq_aload_n 0 1 dX6_keepNext_0 rfl rfl rfl ?_
  refine qf_X6_25 4 dX6_keepNext_1 rfl rfl rfl rfl ?_
  refine jq_topi (y := nI n) hn ?_
  refine jq_bipush (nI 6) 6 dX6_keepNext_4 rfl rfl ?_
  refine jq_icmp_ge 19 9 dX6_keepNext_6 rfl rfl (fun z => absurd z (nI_ge (b := 6) hn6 (by omega))) (fun q6 => ?_)
  refine jq_aload_n 0 10 dX6_keepNext_9 rfl rfl rfl ?_
  refine jq_dup 11 dX6_keepNext_10 rfl rfl ?_
  refine qf_X6_25 14 dX6_keepNext_11 rfl rfl rfl rfl ?_
  refine jq_topi (y := nI n) hn ?_
  refine jq_iconst (nI 1) 15 dX6_keepNext_14 rfl rfl ?_
  refine jq_iadd 16 dX6_keepNext_15 rfl ?_
  rw [nI_add]
  refine qp_X6_25 19 dX6_keepNext_16 rfl rfl rfl rfl ?_
  refine jq_return dX6_keepNext_19 rfl ?_
  exact h
theorem wq_beginNext {G : jq_G} {d : Nat} {σ : jr_Sg} {k : jr_Sg → Prop} (h : k (jr_up σ 1 3 0)) : jq_M G d mi_X6_beginNext [.ref 1] σ (jr_kv k) := by
  refine jq_enter (L := [some (.ref 1)]) (by decide) (Nat.le_of_ble_eq_true rfl) rfl ?_
  refine jq_aload_n 0 1 dX6_beginNext_0 rfl rfl rfl ?_
  refine jq_iconst (0) 2 dX6_beginNext_1 rfl rfl ?_
  refine qp_X6_21 5 dX6_beginNext_2 rfl rfl rfl rfl ?_
  refine jq_return dX6_beginNext_5 rfl ?_
  exact h
theorem up3_ne {σ : jr_Sg} {j a : Nat} {v : Int32} (h : a ≠ 3) : jr_up σ 3 j v a = σ a := by
  unfold jr_up
  rw [if_neg h]
theorem cA_ends {b : Nat → Nat} {tp n p j : Nat} {σ0 σ : jr_Sg} {O : List Nat} {v : Int32} (h : cA b tp n σ0 σ p O) : cA b tp n (jr_up σ0 3 j v) (jr_up σ 3 j v) p O := by
  unfold cA tC lxC at h ⊢
  rw [up3_ne (by decide), up3_ne (by decide), up3_ne (by decide), up3_ne (σ := σ0) (by decide), up3_ne (by decide)]
  refine ⟨fun a ha => ?_, h.2⟩
  have e := h.1 a ha
  unfold jr_up
  split
  · next z => rw [← z, e]
  · exact e
theorem cF_ends {n q j : Nat} {σ0 σ : jr_Sg} {v : Int32} (h : cF n σ0 σ q) : cF n (jr_up σ0 3 j v) (jr_up σ 3 j v) q := by
  unfold cF at h ⊢
  rw [up3_ne (by decide), up3_ne (by decide), up3_ne (by decide), up3_ne (σ := σ0) (by decide)]
  refine ⟨fun a ha => ?_, h.2⟩
  have e := h.1 a ha
  unfold jr_up
  split
  · next z => rw [← z, e]
  · exact e
def tq (b : Nat → Nat) (tp : Nat) : Nat → Nat → List Nat → List (List Nat) → Nat ⊕ List (List Nat) → Prop
  | 0, p, _, P, R => (lx_t b tp p = 23 ∧ R = .inr P) ∨ (lx_t b tp p ≠ 23 ∧ R = .inl (lx_b b tp p))
  | k + 1, p, O, P, R => (lx_t b tp p ≠ 12 - k ∧ R = .inl (lx_b b tp p)) ∨ (lx_t b tp p = 12 - k ∧ ((∃ q, au b tp (lx_n b tp p, (1, ([], O))) (.inl q) ∧ R = .inl q) ∨ ∃ p' v, au b tp (lx_n b tp p, (1, ([], O))) (.inr (p', O ++ v)) ∧ ev_wf 0 v ∧ p' ≤ tp ∧ (O ++ v).length ≤ p' ∧ tq b tp k p' (O ++ v) (P ++ [v]) R))
theorem wq_keyOf {G : jq_G} {d : Nat} {σ : jr_Sg} {k : Value → jr_Sg → Prop} {part : Nat} (hp : part < 3) (h : k (.int (tk (10 + part))) σ) : jq_M G d mi_X8_keyOf [.int (nI part)] σ (jr_k k) := by
  obtain rfl | rfl | rfl : part = 0 ∨ part = 1 ∨ part = 2 := by omega
  · refine jq_enter (L := [some (.int (nI 0))]) (by decide) (Nat.le_of_ble_eq_true rfl) rfl ?_
    refine jq_iload_n 0 1 dX8_keyOf_0 rfl rfl rfl ?_
    refine jq_if_ne 9 4 dX8_keyOf_1 rfl rfl (fun q => absurd (by decide) q) (fun q1 => ?_)
    refine jq_bipush ((tk (10 + 0))) 6 dX8_keyOf_4 rfl rfl ?_
    refine jq_goto 21 dX8_keyOf_6 rfl ?_
    refine jq_ireturn dX8_keyOf_21 rfl rfl ?_
    exact h
  · refine jq_enter (L := [some (.int (nI 1))]) (by decide) (Nat.le_of_ble_eq_true rfl) rfl ?_
    refine jq_iload_n 0 1 dX8_keyOf_0 rfl rfl rfl ?_
    refine jq_if_ne 9 4 dX8_keyOf_1 rfl rfl (fun q1 => ?_) (fun q => absurd q (by decide))
    refine jq_iload_n 0 10 dX8_keyOf_9 rfl rfl rfl ?_
    refine jq_iconst (nI 1) 11 dX8_keyOf_10 rfl rfl ?_
    refine jq_icmp_ne 19 14 dX8_keyOf_11 rfl rfl (fun q => absurd (by decide) q) (fun q11 => ?_)
    refine jq_bipush ((tk (10 + 1))) 16 dX8_keyOf_14 rfl rfl ?_
    refine jq_goto 21 dX8_keyOf_16 rfl ?_
    refine jq_ireturn dX8_keyOf_21 rfl rfl ?_
    exact h
  · refine jq_enter (L := [some (.int (nI 2))]) (by decide) (Nat.le_of_ble_eq_true rfl) rfl ?_
    refine jq_iload_n 0 1 dX8_keyOf_0 rfl rfl rfl ?_
    refine jq_if_ne 9 4 dX8_keyOf_1 rfl rfl (fun q1 => ?_) (fun q => absurd q (by decide))
    refine jq_iload_n 0 10 dX8_keyOf_9 rfl rfl rfl ?_
    refine jq_iconst (nI 1) 11 dX8_keyOf_10 rfl rfl ?_
    refine jq_icmp_ne 19 14 dX8_keyOf_11 rfl rfl (fun q11 => ?_) (fun q => absurd q (by decide))
    refine jq_bipush ((tk (10 + 2))) 21 dX8_keyOf_19 rfl rfl ?_
    refine jq_ireturn dX8_keyOf_21 rfl rfl ?_
    exact h
theorem rt_partF {G : jq_G} {d : Nat} {σ0 σ : jr_Sg} {k : Value → jr_Sg → Prop} {n q part : Nat} (hp3 : part < 3) (hF : cF n σ0 σ q) (h : ∀ σ' v, cF n (jr_up σ0 3 (3 * n + part) v) σ' q → jq_R G (d + 81) mi_X2_readTape (jr_k k) 23 [some (.ref 5), some (.int (nI (part + 1)))] [] σ') : jq_R G (d + 81) mi_X2_readTape (jr_k k) 23 [some (.ref 5), some (.int (nI part))] [] σ := by
  obtain ⟨x, hx, ex⟩ := hF.2.2.2.2.2.1
  refine jq_iload_n 1 24 dX2_readTape_23 rfl rfl rfl ?_
  refine jq_iconst ((nI 3)) 25 dX2_readTape_24 rfl rfl ?_
  refine jq_icmp_ge 61 28 dX2_readTape_25 rfl rfl (fun z => absurd z (nI_ge (b := 3) hp3 (by omega))) (fun q25 => ?_)
  refine jq_aload_n 0 29 dX2_readTape_28 rfl rfl rfl ?_
  refine jq_iload_n 1 30 dX2_readTape_29 rfl rfl rfl ?_
  refine qs_X2_48 33 dX2_readTape_30 rfl rfl (Nat.le_of_ble_eq_true rfl) (wq_keyOf hp3 ?_)
  refine qs_X2_52 36 dX2_readTape_33 rfl rfl rfl (Nat.le_of_ble_eq_true rfl) (wq_expF hF (by omega) ?_)
  refine jq_aload_n 0 37 dX2_readTape_36 rfl rfl rfl ?_
  refine jq_iconst (0) 38 dX2_readTape_37 rfl rfl ?_
  refine qs_X2_56 41 dX2_readTape_38 rfl rfl rfl (Nat.le_of_ble_eq_true rfl) (cf_Or _ _ _ _ _ (by omega) hF ?_)
  refine jq_aload_n 0 42 dX2_readTape_41 rfl rfl rfl ?_
  refine jq_bipush ((tk 22)) 44 dX2_readTape_42 rfl rfl ?_
  refine qs_X2_52 47 dX2_readTape_44 rfl rfl rfl (Nat.le_of_ble_eq_true rfl) (wq_expF hF (by decide) ?_)
  refine jq_aload_n 0 48 dX2_readTape_47 rfl rfl rfl ?_
  refine qf_X2_36 51 dX2_readTape_48 rfl rfl rfl rfl ?_
  refine jq_iload_n 1 52 dX2_readTape_51 rfl rfl rfl ?_
  refine qs_X2_59 55 dX2_readTape_52 rfl rfl rfl (Nat.le_of_ble_eq_true rfl) (wq_endPart hF.2.1.1 hF.2.1.2 hp3 ex ?_)
  refine jq_iinc (v := nI (part + 1)) (L' := [_, _]) 58 dX2_readTape_55 rfl rfl (nI_1 part) (by decide) rfl ?_
  refine jq_goto 23 dX2_readTape_58 rfl ?_
  exact h _ _ (cF_ends hF)
theorem rt_part {G : jq_G} {d : Nat} {σ0 σ : jr_Sg} {k : Value → jr_Sg → Prop} {b : Nat → Nat} {tp n p part : Nat} {O : List Nat} (hp3 : part < 3) (hA : cA b tp n σ0 σ p O) (hsz : O.length ≤ p)
  (kF : ∀ σ' q v, cF n (jr_up σ0 3 (3 * n + part) v) σ' q → (lx_t b tp p ≠ 10 + part ∧ q = lx_b b tp p) ∨ (lx_t b tp p = 10 + part ∧ au b tp (lx_n b tp p, (1, ([], O))) (.inl q)) → jq_R G (d + 81) mi_X2_readTape (jr_k k) 23 [some (.ref 5), some (.int (nI (part + 1)))] [] σ')
  (kO : ∀ σ' p' v, cA b tp n (jr_up σ0 3 (3 * n + part) (nI (160 * n + (O ++ v).length))) σ' p' (O ++ v) → lx_t b tp p = 10 + part → au b tp (lx_n b tp p, (1, ([], O))) (.inr (p', O ++ v)) → ev_wf 0 v → (O ++ v).length ≤ p' → jq_R G (d + 81) mi_X2_readTape (jr_k k) 23 [some (.ref 5), some (.int (nI (part + 1)))] [] σ') : jq_R G (d + 81) mi_X2_readTape (jr_k k) 23 [some (.ref 5), some (.int (nI part))] [] σ := by
  have h160 := hA.2.1.2.1
  have hp := hA.2.2.2.2.2.1
  by_cases tt : lx_t b tp p = 10 + part
  · refine jq_iload_n 1 24 dX2_readTape_23 rfl rfl rfl ?_
    refine jq_iconst ((nI 3)) 25 dX2_readTape_24 rfl rfl ?_
    refine jq_icmp_ge 61 28 dX2_readTape_25 rfl rfl (fun z => absurd z (nI_ge (b := 3) hp3 (by omega))) (fun q25 => ?_)
    refine jq_aload_n 0 29 dX2_readTape_28 rfl rfl rfl ?_
    refine jq_iload_n 1 30 dX2_readTape_29 rfl rfl rfl ?_
    refine qs_X2_48 33 dX2_readTape_30 rfl rfl (Nat.le_of_ble_eq_true rfl) (wq_keyOf hp3 ?_)
    refine qs_X2_52 36 dX2_readTape_33 rfl rfl rfl (Nat.le_of_ble_eq_true rfl) (wq_expT hA tt (fun σ1 hA1 => ?_))
    refine jq_aload_n 0 37 dX2_readTape_36 rfl rfl rfl ?_
    refine jq_iconst ((nI 0)) 38 dX2_readTape_37 rfl rfl ?_
    refine qs_X2_56 41 dX2_readTape_38 rfl rfl rfl (Nat.le_of_ble_eq_true rfl) ((ct_all (b := b) (tp := tp) (n := n) (σ0 := σ0) 5).2.2 _ _ _ 1 [] O σ1 _ rfl (by omega) (fun s hs => absurd hs (by simp)) rfl rfl hA1 (by have := lx_n_ge (b := b) (tp := tp) (p := p); show O.length + 0 ≤ _; omega) (fun σ2 q hF hz => ?_) (fun σ2 p2 H2 O2 v hA2 hz hu hl hgt2 hsp hev => ?_))
    · obtain ⟨x, hx, ex⟩ := hF.2.2.2.2.2.1
      refine jq_aload_n 0 42 dX2_readTape_41 rfl rfl rfl ?_
      refine jq_bipush ((tk 22)) 44 dX2_readTape_42 rfl rfl ?_
      refine qs_X2_52 47 dX2_readTape_44 rfl rfl rfl (Nat.le_of_ble_eq_true rfl) (wq_expF hF (by decide) ?_)
      refine jq_aload_n 0 48 dX2_readTape_47 rfl rfl rfl ?_
      refine qf_X2_36 51 dX2_readTape_48 rfl rfl rfl rfl ?_
      refine jq_iload_n 1 52 dX2_readTape_51 rfl rfl rfl ?_
      refine qs_X2_59 55 dX2_readTape_52 rfl rfl rfl (Nat.le_of_ble_eq_true rfl) (wq_endPart hF.2.1.1 hF.2.1.2 hp3 ex ?_)
      refine jq_iinc (v := nI (part + 1)) (L' := [_, _]) 58 dX2_readTape_55 rfl rfl (nI_1 part) (by decide) rfl ?_
      refine jq_goto 23 dX2_readTape_58 rfl ?_
      exact kF _ _ _ (cF_ends hF) (Or.inr ⟨tt, hz⟩)
    · have hu1 : au_uw 1 H2 O2 = ([], O ++ v) := hu
      have hln : (O ++ v).length ≤ p2 := by
        have := au_uw_ln hu
        simp only [List.length_nil] at this
        omega
      have hp2 := hA2.2.2.2.2.2.1
      by_cases t22 : lx_t b tp p2 = 22
      · refine jq_aload_n 0 42 dX2_readTape_41 rfl rfl rfl ?_
        refine jq_bipush ((tk 22)) 44 dX2_readTape_42 rfl rfl ?_
        refine qs_X2_52 47 dX2_readTape_44 rfl rfl rfl (Nat.le_of_ble_eq_true rfl) (wq_expT hA2 t22 (fun σ3 hA3 => ?_))
        refine jq_aload_n 0 48 dX2_readTape_47 rfl rfl rfl ?_
        refine qf_X2_36 51 dX2_readTape_48 rfl rfl rfl rfl ?_
        refine jq_iload_n 1 52 dX2_readTape_51 rfl rfl rfl ?_
        refine qs_X2_59 55 dX2_readTape_52 rfl rfl rfl (Nat.le_of_ble_eq_true rfl) (wq_endPart hA3.2.2.1.1 hA3.2.2.1.2 hp3 hA3.2.2.2.2.2.2.1 ?_)
        refine jq_iinc (v := nI (part + 1)) (L' := [_, _]) 58 dX2_readTape_55 rfl rfl (nI_1 part) (by decide) rfl ?_
        refine jq_goto 23 dX2_readTape_58 rfl ?_
        exact kO _ _ v (cA_ends hA3) tt (hz _ (au_end (st_semi (H1 := []) t22 hu1))) (ev_ok_wf _ (hev 0 (Nat.zero_le _))) (by have := lx_n_ge (b := b) (tp := tp) (p := p2); omega)
      · refine jq_aload_n 0 42 dX2_readTape_41 rfl rfl rfl ?_
        refine jq_bipush ((tk 22)) 44 dX2_readTape_42 rfl rfl ?_
        refine qs_X2_52 47 dX2_readTape_44 rfl rfl rfl (Nat.le_of_ble_eq_true rfl) (wq_expN hA2 (by omega) (by decide) t22 (fun σ3 hF => ?_))
        obtain ⟨x, hx, ex⟩ := hF.2.2.2.2.2.1
        refine jq_aload_n 0 48 dX2_readTape_47 rfl rfl rfl ?_
        refine qf_X2_36 51 dX2_readTape_48 rfl rfl rfl rfl ?_
        refine jq_iload_n 1 52 dX2_readTape_51 rfl rfl rfl ?_
        refine qs_X2_59 55 dX2_readTape_52 rfl rfl rfl (Nat.le_of_ble_eq_true rfl) (wq_endPart hF.2.1.1 hF.2.1.2 hp3 ex ?_)
        refine jq_iinc (v := nI (part + 1)) (L' := [_, _]) 58 dX2_readTape_55 rfl rfl (nI_1 part) (by decide) rfl ?_
        refine jq_goto 23 dX2_readTape_58 rfl ?_
        refine kF _ _ _ (cF_ends hF) (Or.inr ⟨tt, hz _ (au_end ?_)⟩)
        by_cases t21 : lx_t b tp p2 = 21
        · exact st_clsF (H1 := []) t21 hu1
        · by_cases hs : au_sg (lx_t b tp p2) = 0
          · exact st_bF t22 t21 hs
          · exact hsp hs (by rcases au_sg_rk (lx_t b tp p2) with z | z | z | z | z | z | z | z <;> first | exact absurd z hs | (rw [z.1]; decide))
  · refine jq_iload_n 1 24 dX2_readTape_23 rfl rfl rfl ?_
    refine jq_iconst ((nI 3)) 25 dX2_readTape_24 rfl rfl ?_
    refine jq_icmp_ge 61 28 dX2_readTape_25 rfl rfl (fun z => absurd z (nI_ge (b := 3) hp3 (by omega))) (fun q25 => ?_)
    refine jq_aload_n 0 29 dX2_readTape_28 rfl rfl rfl ?_
    refine jq_iload_n 1 30 dX2_readTape_29 rfl rfl rfl ?_
    refine qs_X2_48 33 dX2_readTape_30 rfl rfl (Nat.le_of_ble_eq_true rfl) (wq_keyOf hp3 ?_)
    refine qs_X2_52 36 dX2_readTape_33 rfl rfl rfl (Nat.le_of_ble_eq_true rfl) (wq_expN hA (by omega) (by omega) tt (fun σ1 hF => ?_))
    refine jq_aload_n 0 37 dX2_readTape_36 rfl rfl rfl ?_
    refine jq_iconst (0) 38 dX2_readTape_37 rfl rfl ?_
    refine qs_X2_56 41 dX2_readTape_38 rfl rfl rfl (Nat.le_of_ble_eq_true rfl) (cf_Or _ _ _ _ _ (by omega) hF ?_)
    refine jq_aload_n 0 42 dX2_readTape_41 rfl rfl rfl ?_
    refine jq_bipush ((tk 22)) 44 dX2_readTape_42 rfl rfl ?_
    refine qs_X2_52 47 dX2_readTape_44 rfl rfl rfl (Nat.le_of_ble_eq_true rfl) (wq_expF hF (by decide) ?_)
    obtain ⟨x, hx, ex⟩ := hF.2.2.2.2.2.1
    refine jq_aload_n 0 48 dX2_readTape_47 rfl rfl rfl ?_
    refine qf_X2_36 51 dX2_readTape_48 rfl rfl rfl rfl ?_
    refine jq_iload_n 1 52 dX2_readTape_51 rfl rfl rfl ?_
    refine qs_X2_59 55 dX2_readTape_52 rfl rfl rfl (Nat.le_of_ble_eq_true rfl) (wq_endPart hF.2.1.1 hF.2.1.2 hp3 ex ?_)
    refine jq_iinc (v := nI (part + 1)) (L' := [_, _]) 58 dX2_readTape_55 rfl rfl (nI_1 part) (by decide) rfl ?_
    refine jq_goto 23 dX2_readTape_58 rfl ?_
    exact kF _ _ _ (cF_ends hF) (Or.inl ⟨tt, rfl⟩)
theorem rt_out {G : jq_G} {d : Nat} {σ : jr_Sg} {k : Value → jr_Sg → Prop} (h : jq_R G (d + 1) mi_X2_readTape (jr_k k) 61 [some (.ref 5), some (.int (nI 3))] [] σ) : jq_R G (d + 1) mi_X2_readTape (jr_k k) 23 [some (.ref 5), some (.int (nI 3))] [] σ := by
  refine jq_iload_n 1 24 dX2_readTape_23 rfl rfl rfl ?_
  refine jq_iconst ((nI 3)) 25 dX2_readTape_24 rfl rfl ?_
  refine jq_icmp_ge 61 28 dX2_readTape_25 rfl rfl (fun q25 => ?_) (fun z => absurd (by decide) z)
  exact h
theorem rt_F {G : jq_G} {d : Nat} {σ0 σ : jr_Sg} {k : Value → jr_Sg → Prop} {n q : Nat} (hF : cF n σ0 σ q) (h : k (.int (nI q)) (jr_up σ 5 2 0)) : jq_R G (d + 1) mi_X2_readTape (jr_k k) 23 [some (.ref 5), some (.int (nI 3))] [] σ := by
  refine rt_out ?_
  have hq := hF.2.2.2.1
  refine jq_aload_n 0 62 dX2_readTape_61 rfl rfl rfl ?_
  refine qf_X2_21 65 dX2_readTape_62 rfl rfl rfl rfl ?_
  refine jq_topi (y := tk 24) hF.2.2.2.2.1 ?_
  refine jq_bipush ((-23)) 67 dX2_readTape_65 rfl rfl ?_
  refine jq_icmp_eq 74 70 dX2_readTape_67 rfl rfl (fun q => absurd q (by decide)) (fun q67 => ?_)
  refine jq_aload_n 0 71 dX2_readTape_70 rfl rfl rfl ?_
  refine qs_X2_62 74 dX2_readTape_71 rfl rfl rfl (Nat.le_of_ble_eq_true rfl) (wq_failF hF ?_)
  refine jq_aload_n 0 75 dX2_readTape_74 rfl rfl rfl ?_
  refine qf_X2_33 78 dX2_readTape_75 rfl rfl rfl rfl ?_
  refine jq_topi (y := nI q) hF.2.2.1 ?_
  refine jq_iconst ((-1)) 79 dX2_readTape_78 rfl rfl ?_
  refine jq_icmp_ne 89 82 dX2_readTape_79 rfl rfl (fun q79 => ?_) (fun z => absurd z.symm (jr_m1 (by omega)))
  refine jq_aload_n 0 90 dX2_readTape_89 rfl rfl rfl ?_
  refine jq_iconst (0) 91 dX2_readTape_90 rfl rfl ?_
  refine qp_X2_15 94 dX2_readTape_91 rfl rfl rfl rfl ?_
  refine jq_aload_n 0 95 dX2_readTape_94 rfl rfl rfl ?_
  refine qf_X2_33 98 dX2_readTape_95 rfl rfl rfl rfl ?_
  refine jq_topi (y := nI q) hF.2.2.1 ?_
  refine jq_ireturn dX2_readTape_98 rfl rfl ?_
  exact h
theorem rt_E {G : jq_G} {d : Nat} {σ0 σ : jr_Sg} {k : Value → jr_Sg → Prop} {b : Nat → Nat} {tp n p : Nat} {O : List Nat} (hA : cA b tp n σ0 σ p O) (t23 : lx_t b tp p = 23) (h : k (.int (-1)) (jr_up (jr_up σ 1 4 (nI (n + 1))) 5 2 0)) : jq_R G (d + 1) mi_X2_readTape (jr_k k) 23 [some (.ref 5), some (.int (nI 3))] [] σ := by
  refine rt_out ?_
  refine jq_aload_n 0 62 dX2_readTape_61 rfl rfl rfl ?_
  refine qf_X2_21 65 dX2_readTape_62 rfl rfl rfl rfl ?_
  refine jq_topi (y := tk 23) (hA.2.2.2.2.1.1.trans (congrArg tk t23)) ?_
  refine jq_bipush ((-23)) 67 dX2_readTape_65 rfl rfl ?_
  refine jq_icmp_eq 74 70 dX2_readTape_67 rfl rfl (fun q67 => ?_) (fun q => absurd (by decide) q)
  refine jq_aload_n 0 75 dX2_readTape_74 rfl rfl rfl ?_
  refine qf_X2_33 78 dX2_readTape_75 rfl rfl rfl rfl ?_
  refine jq_topi (y := -1) hA.2.2.2.1 ?_
  refine jq_iconst ((-1)) 79 dX2_readTape_78 rfl rfl ?_
  refine jq_icmp_ne 89 82 dX2_readTape_79 rfl rfl (fun q => absurd (by decide) q) (fun q79 => ?_)
  refine jq_aload_n 0 83 dX2_readTape_82 rfl rfl rfl ?_
  refine qf_X2_36 86 dX2_readTape_83 rfl rfl rfl rfl ?_
  refine qs_X2_65 89 dX2_readTape_86 rfl rfl rfl (Nat.le_of_ble_eq_true rfl) (wq_keepNext hA.2.2.1.1 hA.2.2.1.2 ?_)
  refine jq_aload_n 0 90 dX2_readTape_89 rfl rfl rfl ?_
  refine jq_iconst (0) 91 dX2_readTape_90 rfl rfl ?_
  refine qp_X2_15 94 dX2_readTape_91 rfl rfl rfl rfl ?_
  refine jq_aload_n 0 95 dX2_readTape_94 rfl rfl rfl ?_
  refine qf_X2_33 98 dX2_readTape_95 rfl rfl rfl rfl ?_
  refine jq_topi (y := -1) hA.2.2.2.1 ?_
  refine jq_ireturn dX2_readTape_98 rfl rfl ?_
  exact h
theorem rt_N {G : jq_G} {d : Nat} {σ0 σ : jr_Sg} {k : Value → jr_Sg → Prop} {b : Nat → Nat} {tp n p : Nat} {O : List Nat} (hA : cA b tp n σ0 σ p O) (hO : O.length ≤ 160) (t23 : lx_t b tp p ≠ 23) (h : ∀ σ', cF n σ0 σ' (lx_b b tp p) → k (.int (nI (lx_b b tp p))) (jr_up σ' 5 2 0)) : jq_R G (d + 1) mi_X2_readTape (jr_k k) 23 [some (.ref 5), some (.int (nI 3))] [] σ := by
  refine rt_out ?_
  refine jq_aload_n 0 62 dX2_readTape_61 rfl rfl rfl ?_
  refine qf_X2_21 65 dX2_readTape_62 rfl rfl rfl rfl ?_
  refine jq_topi (y := tk (lx_t b tp p)) hA.2.2.2.2.1.1 ?_
  refine jq_bipush ((-23)) 67 dX2_readTape_65 rfl rfl ?_
  refine jq_icmp_eq 74 70 dX2_readTape_67 rfl rfl (fun z => absurd z (tk_ne (lx_t_le b tp p).2.1 (by decide) t23)) (fun q67 => ?_)
  refine jq_aload_n 0 71 dX2_readTape_70 rfl rfl rfl ?_
  refine qs_X2_62 74 dX2_readTape_71 rfl rfl rfl (Nat.le_of_ble_eq_true rfl) (wq_failA hA hO (fun σ1 hF => ?_))
  refine jq_aload_n 0 75 dX2_readTape_74 rfl rfl rfl ?_
  refine qf_X2_33 78 dX2_readTape_75 rfl rfl rfl rfl ?_
  refine jq_topi (y := nI (lx_b b tp p)) hF.2.2.1 ?_
  refine jq_iconst ((-1)) 79 dX2_readTape_78 rfl rfl ?_
  refine jq_icmp_ne 89 82 dX2_readTape_79 rfl rfl (fun q79 => ?_) (fun z => absurd z.symm (jr_m1 (by have := hF.2.2.2.1; omega)))
  refine jq_aload_n 0 90 dX2_readTape_89 rfl rfl rfl ?_
  refine jq_iconst (0) 91 dX2_readTape_90 rfl rfl ?_
  refine qp_X2_15 94 dX2_readTape_91 rfl rfl rfl rfl ?_
  refine jq_aload_n 0 95 dX2_readTape_94 rfl rfl rfl ?_
  refine qf_X2_33 98 dX2_readTape_95 rfl rfl rfl rfl ?_
  refine jq_topi (y := nI (lx_b b tp p)) hF.2.2.1 ?_
  refine jq_ireturn dX2_readTape_98 rfl rfl ?_
  exact h σ1 hF
theorem wq_readTape {G : jq_G} {d : Nat} {σ : jr_Sg} {k : Value → jr_Sg → Prop} {b : Nat → Nat} {tp n : Nat} (ht : tC b tp σ) (hn : σ 1 4 = nI n) (hn6 : n < 6)
  (kF : ∀ σ' q, tq b tp 3 0 [] [] (.inl q) → q ≤ 160 → (∀ a, a ∉ [1, 2, 3, 5] → σ' a = σ a) → σ' 5 2 = 0 → (∀ j, j < 160 * n → σ' 2 j = σ 2 j) → (∀ j, j < 3 * n → σ' 3 j = σ 3 j) → σ' 1 4 = nI n → k (.int (nI q)) σ')
  (kO : ∀ σ' w0 w1 w2, tq b tp 3 0 [] [] (.inr [w0, w1, w2]) → (∀ a, a ∉ [1, 2, 3, 5] → σ' a = σ a) → σ' 5 2 = 0 → (∀ j, j < 160 * n → σ' 2 j = σ 2 j) → (∀ j, j < 3 * n → σ' 3 j = σ 3 j) → σ' 1 4 = nI (n + 1) → w0.length + w1.length + w2.length ≤ 160 → ev_wf 0 w0 → ev_wf 0 w1 → ev_wf 0 w2 → (∀ i, i < (w0 ++ w1 ++ w2).length → σ' 2 (160 * n + i) = ev_cc ((w0 ++ w1 ++ w2).getD i 0)) → σ' 3 (3 * n) = nI (160 * n + w0.length) → σ' 3 (3 * n + 1) = nI (160 * n + (w0.length + w1.length)) → σ' 3 (3 * n + 2) = nI (160 * n + (w0.length + w1.length + w2.length)) → k (.int (-1)) σ') : jq_M G (d + 81) mi_X2_readTape [.ref 5] σ (jr_k k) := by
  have h160 := ht.2.1
  -- the end of a fault
  have key : ∀ (σb σ' : jr_Sg) (q : Nat), (∀ a, a ≠ 3 → σb a = σ a) → (∀ j, j < 3 * n → σb 3 j = σ 3 j) → cF n σb σ' q → tq b tp 3 0 [] [] (.inl q) → k (.int (nI q)) (jr_up σ' 5 2 0) := fun σb σ' q hb1 hb2 hF hq => by
    have e (a : Nat) (h : a ≠ 5) : jr_up σ' 5 2 0 a = σ' a := by
      unfold jr_up
      rw [if_neg h]
    refine kF _ q hq hF.2.2.2.1 (fun a ha => ?_) rfl (fun j hj => ?_) (fun j hj => ?_) ?_
    · simp only [List.mem_cons, not_or, List.not_mem_nil, not_false_eq_true, and_true] at ha
      rw [e a (by omega), hF.1 a (by simp only [List.mem_cons, not_or, List.not_mem_nil, not_false_eq_true, and_true]; omega), hb1 a (by omega)]
    · rw [e 2 (by decide), hF.2.2.2.2.2.2 j hj, hb1 2 (by decide)]
    · rw [e 3 (by decide), hF.1 3 (by decide), hb2 j hj]
    · rw [e 1 (by decide)]
      exact hF.2.1.1
  have b1 : ∀ v a, a ≠ 3 → jr_up σ 3 (3 * n + 0) v a = σ a := fun v a h => up3_ne h
  have c1 : ∀ v j, j < 3 * n → jr_up σ 3 (3 * n + 0) v 3 j = σ 3 j := fun v j h => by
    show upd (σ 3) _ _ j = _
    rw [pk_un (by omega)]
  have b2 : ∀ v v2 a, a ≠ 3 → jr_up (jr_up σ 3 (3 * n + 0) v) 3 (3 * n + 1) v2 a = σ a := fun v v2 a h => (up3_ne h).trans (up3_ne h)
  have c2 : ∀ v v2 j, j < 3 * n → jr_up (jr_up σ 3 (3 * n + 0) v) 3 (3 * n + 1) v2 3 j = σ 3 j := fun v v2 j h => by
    show upd (upd (σ 3) _ _) _ _ j = _
    rw [pk_un (by omega), pk_un (by omega)]
  have b3 : ∀ v v2 v3 a, a ≠ 3 → jr_up (jr_up (jr_up σ 3 (3 * n + 0) v) 3 (3 * n + 1) v2) 3 (3 * n + 2) v3 a = σ a := fun v v2 v3 a h => (up3_ne h).trans ((up3_ne h).trans (up3_ne h))
  have c3 : ∀ v v2 v3 j, j < 3 * n → jr_up (jr_up (jr_up σ 3 (3 * n + 0) v) 3 (3 * n + 1) v2) 3 (3 * n + 2) v3 3 j = σ 3 j := fun v v2 v3 j h => by
    show upd (upd (upd (σ 3) _ _) _ _) _ _ j = _
    rw [pk_un (by omega), pk_un (by omega), pk_un (by omega)]
  refine jq_enter (L := [some (.ref 5), none]) (by decide) (Nat.le_of_ble_eq_true rfl) rfl ?_
  refine jq_aload_n 0 1 dX2_readTape_0 rfl rfl rfl ?_
  refine jq_iconst (0) 2 dX2_readTape_1 rfl rfl ?_
  refine qp_X2_30 5 dX2_readTape_2 rfl rfl rfl rfl ?_
  refine jq_aload_n 0 6 dX2_readTape_5 rfl rfl rfl ?_
  refine jq_iconst ((-1)) 7 dX2_readTape_6 rfl rfl ?_
  refine qp_X2_33 10 dX2_readTape_7 rfl rfl rfl rfl ?_
  refine jq_aload_n 0 11 dX2_readTape_10 rfl rfl rfl ?_
  refine qf_X2_36 14 dX2_readTape_11 rfl rfl rfl rfl ?_
  refine qs_X2_40 17 dX2_readTape_14 rfl rfl rfl (Nat.le_of_ble_eq_true rfl) (wq_beginNext ?_)
  refine jq_aload_n 0 18 dX2_readTape_17 rfl rfl rfl ?_
  refine qs_X2_45 21 dX2_readTape_18 rfl rfl rfl (Nat.le_of_ble_eq_true rfl) (wq_step (b := b) (tp := tp) (p := 0) ?_ (Nat.zero_le _) rfl (fun σ1 f1 l1 => ?_))
  · exact ht
  have hA1 : cA b tp n σ σ1 0 [] := by
    have e1 : σ1 1 = upd (σ 1) 3 0 := f1.1 1 (by decide)
    refine ⟨fun a ha => ?_, tC_fr5 (F := [3, 4, 5, 6]) (σ := jr_up (jr_up (jr_up σ 5 6 0) 5 7 (-1)) 1 3 0) ht f1 (by decide), ⟨by rw [e1, pk_un (by decide)]; exact hn, hn6⟩, f1.2 7 (by decide), l1, Nat.zero_le _, by rw [e1]; rfl, fun j hj => ?_, fun i hi => absurd hi (Nat.not_lt_zero _)⟩
    · simp only [List.mem_cons, not_or, List.not_mem_nil, not_false_eq_true, and_true] at ha
      rw [f1.1 a (by omega)]
      simp only [jr_up]
      rw [if_neg (by omega), if_neg (by omega), if_neg (by omega)]
    · rw [f1.1 2 (by decide)]
      rfl
  refine jq_iconst ((nI 0)) 22 dX2_readTape_21 rfl rfl ?_
  refine jq_istore_n 1 (L' := [_, _]) 23 dX2_readTape_22 rfl rfl (by decide) rfl ?_
  refine rt_part (part := 0) (by decide) hA1 (Nat.le_refl 0) (fun σ2 q v hF hz => ?_) (fun σ2 p1 w0 hA2 k1 z1 g1 l1 => ?_)
  · refine rt_partF (part := 1) (by decide) hF (fun σ3 v2 hF3 => ?_)
    refine rt_partF (part := 2) (by decide) hF3 (fun σ4 v3 hF4 => ?_)
    refine rt_F hF4 (key _ _ _ (b3 _ _ _) (c3 _ _ _) hF4 ?_)
    exact hz.elim (fun z => Or.inl ⟨z.1, by rw [z.2]⟩) (fun z => Or.inr ⟨z.1, Or.inl ⟨q, z.2, rfl⟩⟩)
  · have T0 : ∀ R, tq b tp 2 p1 ([] ++ w0) ([] ++ [w0]) R → tq b tp 3 0 [] [] R := fun R h => Or.inr ⟨k1, Or.inr ⟨p1, w0, z1, g1, hA2.2.2.2.2.2.1, l1, h⟩⟩
    refine rt_part (part := 1) (by decide) hA2 l1 (fun σ3 q v hF hz => ?_) (fun σ3 p2 w1 hA3 k2 z2 g2 l2 => ?_)
    · refine rt_partF (part := 2) (by decide) hF (fun σ4 v3 hF4 => ?_)
      refine rt_F hF4 (key _ _ _ (b3 _ _ _) (c3 _ _ _) hF4 ?_)
      exact T0 _ (hz.elim (fun z => Or.inl ⟨z.1, by rw [z.2]⟩) (fun z => Or.inr ⟨z.1, Or.inl ⟨q, z.2, rfl⟩⟩))
    · have T1 : ∀ R, tq b tp 1 p2 ([] ++ w0 ++ w1) ([] ++ [w0] ++ [w1]) R → tq b tp 2 p1 ([] ++ w0) ([] ++ [w0]) R := fun R h => Or.inr ⟨k2, Or.inr ⟨p2, w1, z2, g2, hA3.2.2.2.2.2.1, l2, h⟩⟩
      refine rt_part (part := 2) (by decide) hA3 l2 (fun σ4 q v hF hz => ?_) (fun σ4 p3 w2 hA4 k3 z3 g3 l3 => ?_)
      · refine rt_F hF (key _ _ _ (b3 _ _ _) (c3 _ _ _) hF ?_)
        exact T0 _ (T1 _ (hz.elim (fun z => Or.inl ⟨z.1, by rw [z.2]⟩) (fun z => Or.inr ⟨z.1, Or.inl ⟨q, z.2, rfl⟩⟩)))
      · have T2 : ∀ R, tq b tp 0 p3 ([] ++ w0 ++ w1 ++ w2) ([] ++ [w0] ++ [w1] ++ [w2]) R → tq b tp 1 p2 ([] ++ w0 ++ w1) ([] ++ [w0] ++ [w1]) R := fun R h => Or.inr ⟨k3, Or.inr ⟨p3, w2, z3, g3, hA4.2.2.2.2.2.1, l3, h⟩⟩
        by_cases t23 : lx_t b tp p3 = 23
        · refine rt_E hA4 t23 ?_
          have hp3 := hA4.2.2.2.2.2.1
          have e (a : Nat) (h1 : a ≠ 1) (h : a ≠ 5) : jr_up (jr_up σ4 1 4 (nI (n + 1))) 5 2 0 a = σ4 a := by
            unfold jr_up
            rw [if_neg h, if_neg h1]
          have e3 : σ4 3 = upd (upd (upd (σ 3) (3 * n + 0) _) (3 * n + 1) _) (3 * n + 2) _ := hA4.1 3 (by decide)
          have hl : w0.length + w1.length + w2.length ≤ 160 := by
            simp only [List.nil_append, List.length_append] at l3
            omega
          refine kO _ w0 w1 w2 (T0 _ (T1 _ (T2 _ (Or.inl ⟨t23, rfl⟩)))) (fun a ha => ?_) rfl (fun j hj => ?_) (fun j hj => ?_) rfl hl g1 g2 g3 (fun i hi => ?_) ?_ ?_ ?_
          · simp only [List.mem_cons, not_or, List.not_mem_nil, not_false_eq_true, and_true] at ha
            rw [e a (by omega) (by omega), hA4.1 a (by simp only [List.mem_cons, not_or, List.not_mem_nil, not_false_eq_true, and_true]; omega), b3 _ _ _ a (by omega)]
          · rw [e 2 (by decide) (by decide), hA4.2.2.2.2.2.2.2.1 j hj, b3 _ _ _ 2 (by decide)]
          · rw [e 3 (by decide) (by decide), e3, pk_un (by omega), pk_un (by omega), pk_un (by omega)]
          · rw [e 2 (by decide) (by decide)]
            exact hA4.2.2.2.2.2.2.2.2 i hi
          · rw [e 3 (by decide) (by decide), e3, pk_un (by omega), pk_un (by omega)]
            exact (pk_us : upd (σ 3) (3 * n + 0) (nI (160 * n + ([] ++ w0).length)) (3 * n + 0) = _)
          · rw [e 3 (by decide) (by decide), e3, pk_un (by omega), pk_us]
            congr 2
            simp
          · rw [e 3 (by decide) (by decide), e3, pk_us]
            congr 2
            simp [Nat.add_assoc]
        · have hp3 := hA4.2.2.2.2.2.1
          refine rt_N hA4 (by omega) t23 (fun σ5 hF => key _ _ _ (b3 _ _ _) (c3 _ _ _) hF ?_)
          exact T0 _ (T1 _ (T2 _ (Or.inr ⟨t23, rfl⟩)))

theorem jr_topi {G : jr_G} {d : Nat} {mi : jr_MI} {K : Option Value → jr_Sg → Prop} {pc : Nat} {L : List (Option Value)} {st : List Value} {σ : jr_Sg} {x y : Int32} (e : x = y) (kk : jr_R G d mi K pc L (.int y :: st) σ) : jr_R G d mi K pc L (.int x :: st) σ := by
  rw [e]
  exact kk
/-- how many of the first n look, by what E2 says of each one's MORE -/
noncomputable def sm_cnt (E2 : Int32 → Int32) (mo : Nat → Int32) (f : Nat) (bl : Nat → Prop) : Nat → Int32
  | 0 => 0
  | n + 1 => sm_cnt E2 mo f bl n + pu_if (n = f ∨ bl n) 0 (if E2 (mo n) = 0 then 0 else 1)
/-- one SECOND of one face: WARMTH, how many looked -/
noncomputable def sm_step (E : Nat → (Nat → Int32) → Int32) (nf : Nat) (mo : Nat → Int32) (c : Nat) (rf li : Int32) (f : Nat) (bl : Nat → Prop) (s0 s1 s2 : Int32) (ca cb dr : Nat → Int32) (t : Nat) (q : Int32 × Int32) : Int32 × Int32 :=
  let sn : Int32 := if rf ≤ q.1 then 1 else 0
  let l : Int32 := pu_if (pu_do s0 s1 s2 (nI f) 0 (nI t) 10) 0 (sm_cnt (fun m => E 2 (pu_nm q.1 q.2 li (nI t) sn m)) mo f bl nf)
  let ws := pu_warms c (mo f) (pu_within (E 0 (pu_nm q.1 l li (nI t) sn (mo f))) 0 99) sn
  let cs := pu_cools c (mo f) (pu_within (E 1 (pu_nm q.1 l li (nI t) sn (mo f))) 0 99) q.1
  (pu_min 400 (pu_max 0 (pu_min 400 (q.1 + (pu_wso s0 s1 s2 (nI f) (nI t) ws (mo f) + ca t + cb t) - pu_cso s0 s1 s2 (nI f) (nI t) cs)) + dr t), l)
noncomputable def sm_tr (E : Nat → (Nat → Int32) → Int32) (nf : Nat) (mo : Nat → Int32) (c : Nat) (rf li : Int32) (f : Nat) (bl : Nat → Prop) (s0 s1 s2 : Int32) (ca cb dr : Nat → Int32) (w0 : Int32) : Nat → Int32 × Int32
  | 0 => (w0, 0)
  | t + 1 => sm_step E nf mo c rf li f bl s0 s1 s2 ca cb dr t (sm_tr E nf mo c rf li f bl s0 s1 s2 ca cb dr w0 t)
theorem ti_C_of {T : Nat → Nat → List Nat} {n : Nat} {σ σ' : jr_Sg} (h : ti_C T n σ) (e1 : σ' 1 = σ 1) (e2 : σ' 2 = σ 2) (e3 : σ' 3 = σ 3) : ti_C T n σ' := by
  unfold ti_C at h ⊢
  rw [e1, e2, e3]
  exact h
theorem wp_boundedN {G : jr_G} {d : Nat} {σ : jr_Sg} {k : Value → jr_Sg → Prop} {T : Nat → Nat → List Nat} {n t p : Nat} {nm : Nat → Int32} (hT : ti_C T n σ) (ht : t < n) (hp : p < 3) (hnm : ∀ j, j < 6 → σ 11 j = nm j) (hk : ∀ f : Nat → Int32, k (.int (pu_within (ev_t T t p nm) 0 99)) (jr_upc σ 4 f)) : jr_M G (d + 2) mi_X6_bounded [.ref 1, .int (nI t), .int (nI p), .ref 11] σ (jr_k k) :=
  wp_bounded hT ht hp (fun f => by rw [ev_t_congr ((hT.2.2 t ht).2 p hp).1 hnm]; exact hk f)
theorem wp_valueN {G : jr_G} {d : Nat} {σ : jr_Sg} {k : Value → jr_Sg → Prop} {T : Nat → Nat → List Nat} {n t p : Nat} {nm : Nat → Int32} (hT : ti_C T n σ) (ht : t < n) (hp : p < 3) (hnm : ∀ j, j < 6 → σ 11 j = nm j) (hk : ∀ f : Nat → Int32, k (.int (ev_t T t p nm)) (jr_upc σ 4 f)) : jr_M G (d + 1) mi_X6_value [.ref 1, .int (nI t), .int (nI p), .ref 11] σ (jr_k k) :=
  wp_value hT ht hp (fun f => by rw [ev_t_congr ((hT.2.2 t ht).2 p hp).1 hnm]; exact hk f)
theorem six {P : Nat → Prop} (h0 : P 0) (h1 : P 1) (h2 : P 2) (h3 : P 3) (h4 : P 4) (h5 : P 5) : ∀ j, j < 6 → P j := fun j hj => by
  rcases (by omega : j = 0 ∨ j = 1 ∨ j = 2 ∨ j = 3 ∨ j = 4 ∨ j = 5) with rfl | rfl | rfl | rfl | rfl | rfl <;> assumption
/-- who is blind to f -/
def pu_bl (σ : jr_Sg) (f : Nat) (x : Nat) : Prop := nI x = σ 7 3 ∧ (σ 7 4 = 5 ∨ σ 7 4 = nI f)
theorem lookers_loop_15 {G : jr_G} {d : Nat} {σ : jr_Sg} {k : Value → jr_Sg → Prop} {T : Nat → Nat → List Nat} {n lw nf f : Nat} {wm g li se sn : Int32} (hnf : σ 15 8 = nI nf) (h5 : nf ≤ 5) (hf : f < nf) (hT : ti_C T n σ) (hlw : lw < n) (hlaw : σ 15 10 = nI lw) (n0 : σ 11 0 = wm) (n2 : σ 11 2 = li) (n3 : σ 11 3 = se) (n4 : σ 11 4 = sn) (hk : ∀ σ' : jr_Sg, jr_eqx [4, 11] σ σ' → σ' 11 0 = wm → σ' 11 2 = li → σ' 11 3 = se → σ' 11 4 = sn → k (.int (sm_cnt (fun m => ev_t T lw 2 (pu_nm wm g li se sn m)) (σ 17) f (pu_bl σ f) nf)) σ') : ∀ (m j : Nat) (σ1 : jr_Sg), j + m = nf → jr_eqx [4, 11] σ σ1 → σ1 11 0 = wm → σ1 11 2 = li → σ1 11 3 = se → σ1 11 4 = sn → jr_R G (d + 2) mi_X4_lookersAt (jr_k k) 6 [some (.ref 9), some (.ref 15), some (.int (nI f)), some (.int g), some (.int (sm_cnt (fun m => ev_t T lw 2 (pu_nm wm g li se sn m)) (σ 17) f (pu_bl σ f) j)), some (.int (nI j))] [] σ1 := by
  intro m
  induction m with
  | zero =>
    intro j σ1 hj he m0 m2 m3 m4
    have e : j = nf := hj
    subst e
    have hnf1 : σ1 15 8 = nI j := by rw [he 15 (by decide)]; exact hnf
    refine jr_iload 8 dX4_lookersAt_6 rfl rfl ?_
    refine jr_aload_n 1 9 dX4_lookersAt_8 rfl rfl rfl ?_
    refine gf_X4_40 12 dX4_lookersAt_9 rfl rfl rfl rfl ?_
    rw [hnf1]
    refine jr_icmp_ge 86 15 dX4_lookersAt_12 rfl rfl (fun q12 => ?_) (fun z => absurd (Int32.le_refl _) z)
    refine jr_iload 88 dX4_lookersAt_86 rfl rfl ?_
    refine jr_ireturn dX4_lookersAt_88 rfl rfl ?_
    exact hk σ1 he m0 m2 m3 m4
  | succ m ih =>
    intro j σ1 hj he m0 m2 m3 m4
    have hnf1 : σ1 15 8 = nI nf := by rw [he 15 (by decide)]; exact hnf
    have hlaw1 : σ1 15 10 = nI lw := by rw [he 15 (by decide)]; exact hlaw
    have hmo1 : σ1 17 j = σ 17 j := by rw [he 17 (by decide)]
    have hT1 : ti_C T n σ1 := ti_C_of hT (he 1 (by decide)) (he 2 (by decide)) (he 3 (by decide))
    have hbl1 : (nI j = σ1 7 3 ∧ (σ1 7 4 = 5 ∨ σ1 7 4 = nI f)) ↔ pu_bl σ f j := by unfold pu_bl; rw [he 7 (by decide)]
    refine jr_iload 8 dX4_lookersAt_6 rfl rfl ?_
    refine jr_aload_n 1 9 dX4_lookersAt_8 rfl rfl rfl ?_
    refine gf_X4_40 12 dX4_lookersAt_9 rfl rfl rfl rfl ?_
    rw [hnf1]
    refine jr_icmp_ge 86 15 dX4_lookersAt_12 rfl rfl (fun z => absurd z (nI_ge (by omega) (by omega))) (fun q12 => ?_)
    refine jr_iload 17 dX4_lookersAt_15 rfl rfl ?_
    refine jr_iconst (5) 18 dX4_lookersAt_17 rfl rfl ?_
    refine jr_icmp_ge 86 21 dX4_lookersAt_18 rfl rfl (fun z => absurd z (nI_ge (b := 5) (by omega) (by decide))) (fun q18 => ?_)
    refine jr_iload 23 dX4_lookersAt_21 rfl rfl ?_
    refine jr_iload_n 2 24 dX4_lookersAt_23 rfl rfl rfl ?_
    refine jr_icmp_eq 80 27 dX4_lookersAt_24 rfl rfl (fun q24 => ?_) (fun q24 => ?_)
    · refine jr_iinc (v := nI (j + 1)) (L' := [_, _, _, _, _, _]) 83 dX4_lookersAt_80 rfl rfl (nI_1 j) (by decide) rfl ?_
      refine jr_goto 6 dX4_lookersAt_83 rfl ?_
      rw [show sm_cnt (fun m => ev_t T lw 2 (pu_nm wm g li se sn m)) (σ 17) f (pu_bl σ f) j = sm_cnt (fun m => ev_t T lw 2 (pu_nm wm g li se sn m)) (σ 17) f (pu_bl σ f) (j + 1) by rw [sm_cnt, pu_if_t (Or.inl (by have := (nI_eq (by omega) (by omega)).mp q24; omega)), Int32.add_zero]]
      exact ih (j + 1) _ (by omega) he m0 m2 m3 m4
    · refine jr_aload_n 0 28 dX4_lookersAt_27 rfl rfl rfl ?_
      refine gf_X4_36 31 dX4_lookersAt_28 rfl rfl rfl rfl ?_
      refine jr_iload 33 dX4_lookersAt_31 rfl rfl ?_
      refine jr_iload_n 2 34 dX4_lookersAt_33 rfl rfl rfl ?_
      refine cs_X4_130 37 dX4_lookersAt_34 rfl rfl rfl (Nat.le_of_ble_eq_true rfl) (wp_isBlind (fun qb => ?_) (fun qb => ?_))
      · refine jr_if_ne 80 40 dX4_lookersAt_37 rfl rfl (fun q37 => ?_) (fun q => absurd q (by decide))
        refine jr_iinc (v := nI (j + 1)) (L' := [_, _, _, _, _, _]) 83 dX4_lookersAt_80 rfl rfl (nI_1 j) (by decide) rfl ?_
        refine jr_goto 6 dX4_lookersAt_83 rfl ?_
        rw [show sm_cnt (fun m => ev_t T lw 2 (pu_nm wm g li se sn m)) (σ 17) f (pu_bl σ f) j = sm_cnt (fun m => ev_t T lw 2 (pu_nm wm g li se sn m)) (σ 17) f (pu_bl σ f) (j + 1) by rw [sm_cnt, pu_if_t (Or.inr (hbl1.mp qb)), Int32.add_zero]]
        exact ih (j + 1) _ (by omega) he m0 m2 m3 m4
      · refine jr_if_ne 80 40 dX4_lookersAt_37 rfl rfl (fun q => absurd (by decide) q) (fun q37 => ?_)
        refine jr_aload_n 0 41 dX4_lookersAt_40 rfl rfl rfl ?_
        refine gf_X4_12 44 dX4_lookersAt_41 rfl rfl rfl rfl ?_
        refine jr_iload_n 3 45 dX4_lookersAt_44 rfl rfl rfl ?_
        refine jr_aload_n 1 46 dX4_lookersAt_45 rfl rfl rfl ?_
        refine gf_X4_81 49 dX4_lookersAt_46 rfl rfl rfl rfl ?_
        refine jr_iload 51 dX4_lookersAt_49 rfl rfl ?_
        refine jr_iale rfl rfl (by omega) hmo1 52 dX4_lookersAt_51 rfl ?_
        refine cs_X4_84 55 dX4_lookersAt_52 rfl rfl rfl (Nat.le_of_ble_eq_true rfl) (wp_tellLooks ?_)
        refine jr_aload_n 0 56 dX4_lookersAt_55 rfl rfl rfl ?_
        refine gf_X4_32 59 dX4_lookersAt_56 rfl rfl rfl rfl ?_
        refine jr_aload_n 1 60 dX4_lookersAt_59 rfl rfl rfl ?_
        refine gf_X4_91 63 dX4_lookersAt_60 rfl rfl rfl rfl ?_
        refine jr_topi (y := nI lw) hlaw1 ?_
        refine jr_iconst (2) 64 dX4_lookersAt_63 rfl rfl ?_
        refine jr_aload_n 0 65 dX4_lookersAt_64 rfl rfl rfl ?_
        refine gf_X4_12 68 dX4_lookersAt_65 rfl rfl rfl rfl ?_
        refine gf_X4_96 71 dX4_lookersAt_68 rfl rfl rfl rfl ?_
        refine cs_X4_133 74 dX4_lookersAt_71 rfl rfl rfl (Nat.le_of_ble_eq_true rfl) (wp_valueN (t := lw) (p := 2) (nm := pu_nm wm g li se sn (σ 17 j)) (ti_C_of hT1 rfl rfl rfl) hlw (by omega) (six m0 rfl m2 m3 m4 rfl) (fun fz => ?_))
        refine jr_if_eq 80 77 dX4_lookersAt_74 rfl rfl (fun q74 => ?_) (fun q74 => ?_)
        · refine jr_iinc (v := nI (j + 1)) (L' := [_, _, _, _, _, _]) 83 dX4_lookersAt_80 rfl rfl (nI_1 j) (by decide) rfl ?_
          refine jr_goto 6 dX4_lookersAt_83 rfl ?_
          rw [show sm_cnt (fun m => ev_t T lw 2 (pu_nm wm g li se sn m)) (σ 17) f (pu_bl σ f) j = sm_cnt (fun m => ev_t T lw 2 (pu_nm wm g li se sn m)) (σ 17) f (pu_bl σ f) (j + 1) by rw [sm_cnt, pu_if_f (fun e => e.elim (fun e => q24 (by rw [e])) (fun e => qb (hbl1.mpr e))), if_pos q74, Int32.add_zero]]
          exact ih (j + 1) _ (by omega) (jr_eqx_tr he (by repeat (first | exact jr_eqx_rf _ _ | refine jr_eqx_tr ?_ (jr_eqx_up _ _ _ (by decide)) | refine jr_eqx_tr ?_ (jr_eqx_upc _ _ (by decide))))) m0 m2 m3 m4
        · refine jr_iinc (v := _ + 1) (L' := [_, _, _, _, _, _]) 80 dX4_lookersAt_77 rfl rfl rfl (by decide) rfl ?_
          refine jr_iinc (v := nI (j + 1)) (L' := [_, _, _, _, _, _]) 83 dX4_lookersAt_80 rfl rfl (nI_1 j) (by decide) rfl ?_
          refine jr_goto 6 dX4_lookersAt_83 rfl ?_
          rw [show sm_cnt (fun m => ev_t T lw 2 (pu_nm wm g li se sn m)) (σ 17) f (pu_bl σ f) j + 1 = sm_cnt (fun m => ev_t T lw 2 (pu_nm wm g li se sn m)) (σ 17) f (pu_bl σ f) (j + 1) by rw [sm_cnt, pu_if_f (fun e => e.elim (fun e => q24 (by rw [e])) (fun e => qb (hbl1.mpr e))), if_neg q74]]
          exact ih (j + 1) _ (by omega) (jr_eqx_tr he (by repeat (first | exact jr_eqx_rf _ _ | refine jr_eqx_tr ?_ (jr_eqx_up _ _ _ (by decide)) | refine jr_eqx_tr ?_ (jr_eqx_upc _ _ (by decide))))) m0 m2 m3 m4
theorem wp_lookersAt_15 {G : jr_G} {d : Nat} {σ : jr_Sg} {k : Value → jr_Sg → Prop} {T : Nat → Nat → List Nat} {n lw nf f : Nat} {wm g li se sn : Int32} (hnf : σ 15 8 = nI nf) (h5 : nf ≤ 5) (hf : f < nf) (hT : ti_C T n σ) (hlw : lw < n) (hlaw : σ 15 10 = nI lw) (n0 : σ 11 0 = wm) (n2 : σ 11 2 = li) (n3 : σ 11 3 = se) (n4 : σ 11 4 = sn) (hk : ∀ σ' : jr_Sg, jr_eqx [4, 11] σ σ' → σ' 11 0 = wm → σ' 11 2 = li → σ' 11 3 = se → σ' 11 4 = sn → k (.int (sm_cnt (fun m => ev_t T lw 2 (pu_nm wm g li se sn m)) (σ 17) f (pu_bl σ f) nf)) σ') : jr_M G (d + 2) mi_X4_lookersAt [.ref 9, .ref 15, .int (nI f), .int g] σ (jr_k k) := by
  refine jr_enter (L := [some (.ref 9), some (.ref 15), some (.int (nI f)), some (.int g), none, none]) (by decide) (Nat.le_of_ble_eq_true rfl) rfl ?_
  refine jr_iconst (0) 1 dX4_lookersAt_0 rfl rfl ?_
  refine jr_istore (L' := [_, _, _, _, _, _]) 3 dX4_lookersAt_1 rfl (by decide) rfl ?_
  refine jr_iconst (0) 4 dX4_lookersAt_3 rfl rfl ?_
  refine jr_istore (L' := [_, _, _, _, _, _]) 6 dX4_lookersAt_4 rfl (by decide) rfl ?_
  exact lookers_loop_15 hnf h5 hf hT hlw hlaw n0 n2 n3 n4 hk nf 0 σ (by omega) (jr_eqx_rf _ _) n0 n2 n3 n4
theorem lookers_loop_24 {G : jr_G} {d : Nat} {σ : jr_Sg} {k : Value → jr_Sg → Prop} {T : Nat → Nat → List Nat} {n lw nf f : Nat} {wm g li se sn : Int32} (hnf : σ 24 8 = nI nf) (h5 : nf ≤ 5) (hf : f < nf) (hT : ti_C T n σ) (hlw : lw < n) (hlaw : σ 24 10 = nI lw) (n0 : σ 11 0 = wm) (n2 : σ 11 2 = li) (n3 : σ 11 3 = se) (n4 : σ 11 4 = sn) (hk : ∀ σ' : jr_Sg, jr_eqx [4, 11] σ σ' → σ' 11 0 = wm → σ' 11 2 = li → σ' 11 3 = se → σ' 11 4 = sn → k (.int (sm_cnt (fun m => ev_t T lw 2 (pu_nm wm g li se sn m)) (σ 26) f (pu_bl σ f) nf)) σ') : ∀ (m j : Nat) (σ1 : jr_Sg), j + m = nf → jr_eqx [4, 11] σ σ1 → σ1 11 0 = wm → σ1 11 2 = li → σ1 11 3 = se → σ1 11 4 = sn → jr_R G (d + 2) mi_X4_lookersAt (jr_k k) 6 [some (.ref 9), some (.ref 24), some (.int (nI f)), some (.int g), some (.int (sm_cnt (fun m => ev_t T lw 2 (pu_nm wm g li se sn m)) (σ 26) f (pu_bl σ f) j)), some (.int (nI j))] [] σ1 := by
  intro m
  induction m with
  | zero =>
    intro j σ1 hj he m0 m2 m3 m4
    have e : j = nf := hj
    subst e
    have hnf1 : σ1 24 8 = nI j := by rw [he 24 (by decide)]; exact hnf
    refine jr_iload 8 dX4_lookersAt_6 rfl rfl ?_
    refine jr_aload_n 1 9 dX4_lookersAt_8 rfl rfl rfl ?_
    refine gf_X4_40 12 dX4_lookersAt_9 rfl rfl rfl rfl ?_
    rw [hnf1]
    refine jr_icmp_ge 86 15 dX4_lookersAt_12 rfl rfl (fun q12 => ?_) (fun z => absurd (Int32.le_refl _) z)
    refine jr_iload 88 dX4_lookersAt_86 rfl rfl ?_
    refine jr_ireturn dX4_lookersAt_88 rfl rfl ?_
    exact hk σ1 he m0 m2 m3 m4
  | succ m ih =>
    intro j σ1 hj he m0 m2 m3 m4
    have hnf1 : σ1 24 8 = nI nf := by rw [he 24 (by decide)]; exact hnf
    have hlaw1 : σ1 24 10 = nI lw := by rw [he 24 (by decide)]; exact hlaw
    have hmo1 : σ1 26 j = σ 26 j := by rw [he 26 (by decide)]
    have hT1 : ti_C T n σ1 := ti_C_of hT (he 1 (by decide)) (he 2 (by decide)) (he 3 (by decide))
    have hbl1 : (nI j = σ1 7 3 ∧ (σ1 7 4 = 5 ∨ σ1 7 4 = nI f)) ↔ pu_bl σ f j := by unfold pu_bl; rw [he 7 (by decide)]
    refine jr_iload 8 dX4_lookersAt_6 rfl rfl ?_
    refine jr_aload_n 1 9 dX4_lookersAt_8 rfl rfl rfl ?_
    refine gf_X4_40 12 dX4_lookersAt_9 rfl rfl rfl rfl ?_
    rw [hnf1]
    refine jr_icmp_ge 86 15 dX4_lookersAt_12 rfl rfl (fun z => absurd z (nI_ge (by omega) (by omega))) (fun q12 => ?_)
    refine jr_iload 17 dX4_lookersAt_15 rfl rfl ?_
    refine jr_iconst (5) 18 dX4_lookersAt_17 rfl rfl ?_
    refine jr_icmp_ge 86 21 dX4_lookersAt_18 rfl rfl (fun z => absurd z (nI_ge (b := 5) (by omega) (by decide))) (fun q18 => ?_)
    refine jr_iload 23 dX4_lookersAt_21 rfl rfl ?_
    refine jr_iload_n 2 24 dX4_lookersAt_23 rfl rfl rfl ?_
    refine jr_icmp_eq 80 27 dX4_lookersAt_24 rfl rfl (fun q24 => ?_) (fun q24 => ?_)
    · refine jr_iinc (v := nI (j + 1)) (L' := [_, _, _, _, _, _]) 83 dX4_lookersAt_80 rfl rfl (nI_1 j) (by decide) rfl ?_
      refine jr_goto 6 dX4_lookersAt_83 rfl ?_
      rw [show sm_cnt (fun m => ev_t T lw 2 (pu_nm wm g li se sn m)) (σ 26) f (pu_bl σ f) j = sm_cnt (fun m => ev_t T lw 2 (pu_nm wm g li se sn m)) (σ 26) f (pu_bl σ f) (j + 1) by rw [sm_cnt, pu_if_t (Or.inl (by have := (nI_eq (by omega) (by omega)).mp q24; omega)), Int32.add_zero]]
      exact ih (j + 1) _ (by omega) he m0 m2 m3 m4
    · refine jr_aload_n 0 28 dX4_lookersAt_27 rfl rfl rfl ?_
      refine gf_X4_36 31 dX4_lookersAt_28 rfl rfl rfl rfl ?_
      refine jr_iload 33 dX4_lookersAt_31 rfl rfl ?_
      refine jr_iload_n 2 34 dX4_lookersAt_33 rfl rfl rfl ?_
      refine cs_X4_130 37 dX4_lookersAt_34 rfl rfl rfl (Nat.le_of_ble_eq_true rfl) (wp_isBlind (fun qb => ?_) (fun qb => ?_))
      · refine jr_if_ne 80 40 dX4_lookersAt_37 rfl rfl (fun q37 => ?_) (fun q => absurd q (by decide))
        refine jr_iinc (v := nI (j + 1)) (L' := [_, _, _, _, _, _]) 83 dX4_lookersAt_80 rfl rfl (nI_1 j) (by decide) rfl ?_
        refine jr_goto 6 dX4_lookersAt_83 rfl ?_
        rw [show sm_cnt (fun m => ev_t T lw 2 (pu_nm wm g li se sn m)) (σ 26) f (pu_bl σ f) j = sm_cnt (fun m => ev_t T lw 2 (pu_nm wm g li se sn m)) (σ 26) f (pu_bl σ f) (j + 1) by rw [sm_cnt, pu_if_t (Or.inr (hbl1.mp qb)), Int32.add_zero]]
        exact ih (j + 1) _ (by omega) he m0 m2 m3 m4
      · refine jr_if_ne 80 40 dX4_lookersAt_37 rfl rfl (fun q => absurd (by decide) q) (fun q37 => ?_)
        refine jr_aload_n 0 41 dX4_lookersAt_40 rfl rfl rfl ?_
        refine gf_X4_12 44 dX4_lookersAt_41 rfl rfl rfl rfl ?_
        refine jr_iload_n 3 45 dX4_lookersAt_44 rfl rfl rfl ?_
        refine jr_aload_n 1 46 dX4_lookersAt_45 rfl rfl rfl ?_
        refine gf_X4_81 49 dX4_lookersAt_46 rfl rfl rfl rfl ?_
        refine jr_iload 51 dX4_lookersAt_49 rfl rfl ?_
        refine jr_iale rfl rfl (by omega) hmo1 52 dX4_lookersAt_51 rfl ?_
        refine cs_X4_84 55 dX4_lookersAt_52 rfl rfl rfl (Nat.le_of_ble_eq_true rfl) (wp_tellLooks ?_)
        refine jr_aload_n 0 56 dX4_lookersAt_55 rfl rfl rfl ?_
        refine gf_X4_32 59 dX4_lookersAt_56 rfl rfl rfl rfl ?_
        refine jr_aload_n 1 60 dX4_lookersAt_59 rfl rfl rfl ?_
        refine gf_X4_91 63 dX4_lookersAt_60 rfl rfl rfl rfl ?_
        refine jr_topi (y := nI lw) hlaw1 ?_
        refine jr_iconst (2) 64 dX4_lookersAt_63 rfl rfl ?_
        refine jr_aload_n 0 65 dX4_lookersAt_64 rfl rfl rfl ?_
        refine gf_X4_12 68 dX4_lookersAt_65 rfl rfl rfl rfl ?_
        refine gf_X4_96 71 dX4_lookersAt_68 rfl rfl rfl rfl ?_
        refine cs_X4_133 74 dX4_lookersAt_71 rfl rfl rfl (Nat.le_of_ble_eq_true rfl) (wp_valueN (t := lw) (p := 2) (nm := pu_nm wm g li se sn (σ 26 j)) (ti_C_of hT1 rfl rfl rfl) hlw (by omega) (six m0 rfl m2 m3 m4 rfl) (fun fz => ?_))
        refine jr_if_eq 80 77 dX4_lookersAt_74 rfl rfl (fun q74 => ?_) (fun q74 => ?_)
        · refine jr_iinc (v := nI (j + 1)) (L' := [_, _, _, _, _, _]) 83 dX4_lookersAt_80 rfl rfl (nI_1 j) (by decide) rfl ?_
          refine jr_goto 6 dX4_lookersAt_83 rfl ?_
          rw [show sm_cnt (fun m => ev_t T lw 2 (pu_nm wm g li se sn m)) (σ 26) f (pu_bl σ f) j = sm_cnt (fun m => ev_t T lw 2 (pu_nm wm g li se sn m)) (σ 26) f (pu_bl σ f) (j + 1) by rw [sm_cnt, pu_if_f (fun e => e.elim (fun e => q24 (by rw [e])) (fun e => qb (hbl1.mpr e))), if_pos q74, Int32.add_zero]]
          exact ih (j + 1) _ (by omega) (jr_eqx_tr he (by repeat (first | exact jr_eqx_rf _ _ | refine jr_eqx_tr ?_ (jr_eqx_up _ _ _ (by decide)) | refine jr_eqx_tr ?_ (jr_eqx_upc _ _ (by decide))))) m0 m2 m3 m4
        · refine jr_iinc (v := _ + 1) (L' := [_, _, _, _, _, _]) 80 dX4_lookersAt_77 rfl rfl rfl (by decide) rfl ?_
          refine jr_iinc (v := nI (j + 1)) (L' := [_, _, _, _, _, _]) 83 dX4_lookersAt_80 rfl rfl (nI_1 j) (by decide) rfl ?_
          refine jr_goto 6 dX4_lookersAt_83 rfl ?_
          rw [show sm_cnt (fun m => ev_t T lw 2 (pu_nm wm g li se sn m)) (σ 26) f (pu_bl σ f) j + 1 = sm_cnt (fun m => ev_t T lw 2 (pu_nm wm g li se sn m)) (σ 26) f (pu_bl σ f) (j + 1) by rw [sm_cnt, pu_if_f (fun e => e.elim (fun e => q24 (by rw [e])) (fun e => qb (hbl1.mpr e))), if_neg q74]]
          exact ih (j + 1) _ (by omega) (jr_eqx_tr he (by repeat (first | exact jr_eqx_rf _ _ | refine jr_eqx_tr ?_ (jr_eqx_up _ _ _ (by decide)) | refine jr_eqx_tr ?_ (jr_eqx_upc _ _ (by decide))))) m0 m2 m3 m4
theorem wp_lookersAt_24 {G : jr_G} {d : Nat} {σ : jr_Sg} {k : Value → jr_Sg → Prop} {T : Nat → Nat → List Nat} {n lw nf f : Nat} {wm g li se sn : Int32} (hnf : σ 24 8 = nI nf) (h5 : nf ≤ 5) (hf : f < nf) (hT : ti_C T n σ) (hlw : lw < n) (hlaw : σ 24 10 = nI lw) (n0 : σ 11 0 = wm) (n2 : σ 11 2 = li) (n3 : σ 11 3 = se) (n4 : σ 11 4 = sn) (hk : ∀ σ' : jr_Sg, jr_eqx [4, 11] σ σ' → σ' 11 0 = wm → σ' 11 2 = li → σ' 11 3 = se → σ' 11 4 = sn → k (.int (sm_cnt (fun m => ev_t T lw 2 (pu_nm wm g li se sn m)) (σ 26) f (pu_bl σ f) nf)) σ') : jr_M G (d + 2) mi_X4_lookersAt [.ref 9, .ref 24, .int (nI f), .int g] σ (jr_k k) := by
  refine jr_enter (L := [some (.ref 9), some (.ref 24), some (.int (nI f)), some (.int g), none, none]) (by decide) (Nat.le_of_ble_eq_true rfl) rfl ?_
  refine jr_iconst (0) 1 dX4_lookersAt_0 rfl rfl ?_
  refine jr_istore (L' := [_, _, _, _, _, _]) 3 dX4_lookersAt_1 rfl (by decide) rfl ?_
  refine jr_iconst (0) 4 dX4_lookersAt_3 rfl rfl ?_
  refine jr_istore (L' := [_, _, _, _, _, _]) 6 dX4_lookersAt_4 rfl (by decide) rfl ?_
  exact lookers_loop_24 hnf h5 hf hT hlw hlaw n0 n2 n3 n4 hk nf 0 σ (by omega) (jr_eqx_rf _ _) n0 n2 n3 n4

def au_rk (s : Nat) : Nat := if s = 0 then 0 else if s = 11 then 1 else if s = 12 then 2 else if s = 13 then 3 else if s ≤ 15 then 4 else if s ≤ 17 then 5 else if s = 18 then 6 else 7
def au_uw (r : Nat) : List Nat → List Nat → List Nat × List Nat
  | [], O => ([], O)
  | s :: H, O => if r ≤ au_rk s then au_uw r H (O ++ [s]) else (s :: H, O)
def au_op : List Nat → Nat
  | [] => 0
  | s :: H => au_op H + if s = 0 ∨ s = 13 ∨ s = 19 then 1 else 0
def au_t4 : List Nat → Bool
  | s :: _ => au_rk s == 4
  | [] => false
def au_sg (t : Nat) : Nat := match t with
  | 7 => 11
  | 8 => 12
  | 13 => 14
  | 14 => 15
  | 15 => 16
  | 16 => 17
  | 17 => 18
  | _ => 0
abbrev au_S : Type := Nat × (Nat × (List Nat × List Nat))
abbrev au_R : Type := Nat ⊕ (Nat × List Nat)
def au_cl (H O : List Nat) (p' q : Nat) : au_S ⊕ au_R := match H with
  | [] => .inr (.inl q)
  | _ :: H' => .inl (p', (2, au_uw 7 H' O))
def au_st (b : Nat → Nat) (tp p m : Nat) (H O : List Nat) : au_S ⊕ au_R :=
  if m = 2 then
    (if lx_t b tp p = 22 then (if (au_uw 1 H O).1 = [] then .inr (.inr (lx_n b tp p, (au_uw 1 H O).2)) else .inr (.inl (lx_b b tp p)))
    else if lx_t b tp p = 21 then au_cl (au_uw 1 H O).1 (au_uw 1 H O).2 (lx_n b tp p) (lx_b b tp p)
    else if au_sg (lx_t b tp p) = 0 then .inr (.inl (lx_b b tp p))
    else if au_rk (au_sg (lx_t b tp p)) = 4 then (if au_t4 (au_uw 5 H O).1 = true then .inr (.inl (lx_b b tp p)) else .inl (lx_n b tp p, (0, (au_sg (lx_t b tp p) :: (au_uw 5 H O).1, (au_uw 5 H O).2))))
    else .inl (lx_n b tp p, ((if au_sg (lx_t b tp p) ≤ 12 then 1 else 0), (au_sg (lx_t b tp p) :: (au_uw (au_rk (au_sg (lx_t b tp p))) H O).1, (au_uw (au_rk (au_sg (lx_t b tp p))) H O).2))))
  else
    (if lx_t b tp p = 19 then .inl (lx_n b tp p, (2, au_uw 7 H (O ++ [100000 + lx_v b tp p])))
    else if lx_t b tp p ≤ 6 then .inl (lx_n b tp p, (2, au_uw 7 H (O ++ [lx_t b tp p - 1])))
    else if lx_t b tp p = 9 ∧ m = 1 then (if au_op H = 5 then .inr (.inl (lx_b b tp p)) else .inl (lx_n b tp p, (1, (13 :: H, O))))
    else if lx_t b tp p = 16 then (if au_op H = 5 then .inr (.inl (lx_b b tp p)) else .inl (lx_n b tp p, (0, (19 :: H, O))))
    else if lx_t b tp p = 20 then (if au_op H = 5 then .inr (.inl (lx_b b tp p)) else .inl (lx_n b tp p, (1, (0 :: H, O))))
    else .inr (.inl (lx_b b tp p)))
def au_f (b : Nat → Nat) (tp : Nat) : Nat → au_S → Option au_R
  | 0, _ => none
  | n + 1, S => match au_st b tp S.1 S.2.1 S.2.2.1 S.2.2.2 with
    | .inl S' => au_f b tp n S'
    | .inr R => some R
def au (b : Nat → Nat) (tp : Nat) (S : au_S) (R : au_R) : Prop := ∃ n, au_f b tp n S = some R
theorem au_go {b : Nat → Nat} {tp p m : Nat} {H O : List Nat} {S' : au_S} {R : au_R} (h : au_st b tp p m H O = .inl S') (g : au b tp S' R) : au b tp (p, (m, (H, O))) R := by
  obtain ⟨n, hn⟩ := g
  refine ⟨n + 1, ?_⟩
  show (match au_st b tp p m H O with
    | .inl S' => au_f b tp n S'
    | .inr R => some R) = some R
  rw [h]
  exact hn
theorem au_end {b : Nat → Nat} {tp p m : Nat} {H O : List Nat} {R : au_R} (h : au_st b tp p m H O = .inr R) : au b tp (p, (m, (H, O))) R := by
  refine ⟨1, ?_⟩
  show (match au_st b tp p m H O with
    | .inl S' => au_f b tp 0 S'
    | .inr R => some R) = some R
  rw [h]
theorem au_f_det {b : Nat → Nat} {tp : Nat} : ∀ (n n' : Nat) (S : au_S) (R R' : au_R), au_f b tp n S = some R → au_f b tp n' S = some R' → R = R'
  | 0, _, _, _, _, h, _ => by cases h
  | _ + 1, 0, _, _, _, _, h => by cases h
  | n + 1, n' + 1, S, R, R', h, h' => by
    rw [au_f] at h h'
    cases hs : au_st b tp S.1 S.2.1 S.2.2.1 S.2.2.2 with
    | inl S' =>
      rw [hs] at h h'
      exact au_f_det n n' S' R R' h h'
    | inr R2 =>
      rw [hs] at h h'
      exact Option.some.inj (h.symm.trans h')
theorem au_det {b : Nat → Nat} {tp : Nat} {S : au_S} {R R' : au_R} (h : au b tp S R) (h' : au b tp S R') : R = R' := by
  obtain ⟨n, hn⟩ := h
  obtain ⟨n', hn'⟩ := h'
  exact au_f_det n n' S R R' hn hn'
def au_lo (l : Nat) (H : List Nat) : Prop := ∀ s, H.head? = some s → au_rk s < l
theorem au_lo_w {l l' : Nat} {H : List Nat} (h : au_lo l H) (hl : l ≤ l') : au_lo l' H := fun s hs => Nat.lt_of_lt_of_le (h s hs) hl
theorem au_lo_c {l s : Nat} {H : List Nat} (h : au_rk s < l) : au_lo l (s :: H) := fun s' hs => by
  have e : s = s' := Option.some.inj hs
  rw [← e]
  exact h
theorem au_rk_le (s : Nat) : au_rk s ≤ 7 := by
  unfold au_rk
  repeat' split
  all_goals omega
theorem au_lo8 (H : List Nat) : au_lo 8 H := fun s _ => by
  have := au_rk_le s
  omega
theorem au_uw_lo {r : Nat} {H O : List Nat} (h : au_lo r H) : au_uw r H O = (H, O) := by
  cases H with
  | nil => rfl
  | cons s H =>
    have := h s rfl
    rw [au_uw, if_neg (by omega)]
theorem au_uw_c {r s : Nat} {H O : List Nat} (h : r ≤ au_rk s) : au_uw r (s :: H) O = au_uw r H (O ++ [s]) := by rw [au_uw, if_pos h]
theorem au_uw_le {r r' : Nat} (h : r ≤ r') : ∀ (H O : List Nat), au_uw r (au_uw r' H O).1 (au_uw r' H O).2 = au_uw r H O
  | [], O => rfl
  | s :: H, O => by
    by_cases h1 : r' ≤ au_rk s
    · rw [au_uw_c h1, au_uw_c (Nat.le_trans h h1)]
      exact au_uw_le h H _
    · rw [show au_uw r' (s :: H) O = (s :: H, O) by rw [au_uw, if_neg h1]]
theorem au_uw_tr {r r' : Nat} (h : r ≤ r') {H O H' O' : List Nat} (e : au_uw r' H' O' = au_uw r' H O) : au_uw r H' O' = au_uw r H O := by
  rw [← au_uw_le h H' O', e, au_uw_le h H O]
theorem au_uw_len (r : Nat) : ∀ (H O : List Nat), (au_uw r H O).2.length + (au_uw r H O).1.length = O.length + H.length
  | [], O => rfl
  | s :: H, O => by
    by_cases h1 : r ≤ au_rk s
    · rw [au_uw_c h1, au_uw_len r H]
      simp
      omega
    · rw [au_uw, if_neg h1]
theorem au_uw_ln {r : Nat} {H O H' O' : List Nat} (e : au_uw r H' O' = au_uw r H O) : O'.length + H'.length = O.length + H.length := by
  rw [← au_uw_len r H' O', e, au_uw_len r H O]
theorem au_op_c0 (H : List Nat) : au_op (0 :: H) = au_op H + 1 := rfl
theorem au_op_c13 (H : List Nat) : au_op (13 :: H) = au_op H + 1 := rfl
theorem au_op_c19 (H : List Nat) : au_op (19 :: H) = au_op H + 1 := rfl
theorem au_op_c {s : Nat} (H : List Nat) (h0 : s ≠ 0) (h13 : s ≠ 13) (h19 : s ≠ 19) : au_op (s :: H) = au_op H := by
  rw [au_op, if_neg (by omega)]
  rfl
theorem au_sg_rk (t : Nat) : au_sg t = 0 ∨ (au_sg t = 11 ∧ t = 7) ∨ (au_sg t = 12 ∧ t = 8) ∨ (au_sg t = 14 ∧ t = 13) ∨ (au_sg t = 15 ∧ t = 14) ∨ (au_sg t = 16 ∧ t = 15) ∨ (au_sg t = 17 ∧ t = 16) ∨ (au_sg t = 18 ∧ t = 17) := by
  unfold au_sg
  split <;> simp
-- running codes from one height to another
def ev_ok : Nat → List Nat → Nat → Prop
  | h, [], h' => h = h'
  | h, o :: l, h' => (o < 6 ∧ h + 1 ≤ 40 ∧ ev_ok (h + 1) l h') ∨ (100000 ≤ o ∧ o ≤ 109999 ∧ h + 1 ≤ 40 ∧ ev_ok (h + 1) l h') ∨ ((o = 13 ∨ o = 19) ∧ 1 ≤ h ∧ ev_ok h l h') ∨ ((o = 11 ∨ o = 12 ∨ o = 14 ∨ o = 15 ∨ o = 16 ∨ o = 17 ∨ o = 18) ∧ 2 ≤ h ∧ ev_ok (h - 1) l h')
theorem ev_ok_app : ∀ (l : List Nat) {h h1 h2 : Nat} {l2 : List Nat}, ev_ok h l h1 → ev_ok h1 l2 h2 → ev_ok h (l ++ l2) h2
  | [], h, h1, h2, l2, e, g => by
    have e2 : h = h1 := e
    rw [e2]
    exact g
  | o :: l, h, h1, h2, l2, e, g => by
    rcases e with ⟨a, c, e⟩ | ⟨a, a2, c, e⟩ | ⟨a, c, e⟩ | ⟨a, c, e⟩
    · exact Or.inl ⟨a, c, ev_ok_app l e g⟩
    · exact Or.inr (Or.inl ⟨a, a2, c, ev_ok_app l e g⟩)
    · exact Or.inr (Or.inr (Or.inl ⟨a, c, ev_ok_app l e g⟩))
    · exact Or.inr (Or.inr (Or.inr ⟨a, c, ev_ok_app l e g⟩))
theorem ev_ok_wf : ∀ (l : List Nat) {h : Nat}, ev_ok h l 1 → ev_wf h l
  | [], h, e => e
  | o :: l, h, e => by
    rcases e with ⟨a, c, e⟩ | ⟨a, a2, c, e⟩ | ⟨a, c, e⟩ | ⟨a, c, e⟩
    · exact Or.inl ⟨a, c, ev_ok_wf l e⟩
    · exact Or.inr (Or.inl ⟨a, a2, c, ev_ok_wf l e⟩)
    · exact Or.inr (Or.inr (Or.inl ⟨a, c, ev_ok_wf l e⟩))
    · exact Or.inr (Or.inr (Or.inr ⟨a, c, ev_ok_wf l e⟩))
theorem ev_ok_n {h o : Nat} (ho : o < 6) (hh : h + 1 ≤ 40) : ev_ok h [o] (h + 1) := Or.inl ⟨ho, hh, rfl⟩
theorem ev_ok_v {h v : Nat} (hv : v ≤ 9999) (hh : h + 1 ≤ 40) : ev_ok h [100000 + v] (h + 1) := Or.inr (Or.inl ⟨by omega, by omega, hh, rfl⟩)
theorem ev_ok_1 {h o : Nat} (ho : o = 13 ∨ o = 19) : ev_ok (h + 1) [o] (h + 1) := Or.inr (Or.inr (Or.inl ⟨ho, by omega, rfl⟩))
theorem ev_ok_2 {h o : Nat} (ho : o = 11 ∨ o = 12 ∨ o = 14 ∨ o = 15 ∨ o = 16 ∨ o = 17 ∨ o = 18) : ev_ok (h + 1 + 1) [o] (h + 1) := Or.inr (Or.inr (Or.inr ⟨ho, by omega, rfl⟩))
-- what the class's state is, a token in hand
def cA (b : Nat → Nat) (tp n : Nat) (σ0 σ : jr_Sg) (p : Nat) (O : List Nat) : Prop := (∀ a, a ∉ [1, 2, 5] → σ a = σ0 a) ∧ tC b tp σ ∧ (σ 1 4 = nI n ∧ n < 6) ∧ σ 5 7 = -1 ∧ lxC b tp p σ ∧ p ≤ tp ∧ σ 1 3 = nI O.length ∧ (∀ j, j < 160 * n → σ 2 j = σ0 2 j) ∧ ∀ i, i < O.length → σ 2 (160 * n + i) = ev_cc (O.getD i 0)
def cF (n : Nat) (σ0 σ : jr_Sg) (q : Nat) : Prop := (∀ a, a ∉ [1, 2, 5] → σ a = σ0 a) ∧ (σ 1 4 = nI n ∧ n < 6) ∧ σ 5 7 = nI q ∧ q ≤ 160 ∧ σ 5 3 = tk 24 ∧ (∃ x, x ≤ 160 ∧ σ 1 3 = nI x) ∧ ∀ j, j < 160 * n → σ 2 j = σ0 2 j
theorem cA_q5 {b : Nat → Nat} {tp n p p' : Nat} {σ0 σ σ' : jr_Sg} {O : List Nat} (h : cA b tp n σ0 σ p O) (hq : fr5 [3, 4, 5, 6] σ σ') (hl : lxC b tp p' σ') (hp : p' ≤ tp) : cA b tp n σ0 σ' p' O := by
  obtain ⟨h1, h2, h3, h4, h5, h6, h7, h8, h9⟩ := h
  have e1 : σ' 1 = σ 1 := hq.1 1 (by decide)
  have e2 : σ' 2 = σ 2 := hq.1 2 (by decide)
  refine ⟨fun a ha => ?_, tC_fr5 h2 hq (by decide), by rw [e1]; exact h3, by rw [hq.2 7 (by decide)]; exact h4, hl, hp, by rw [e1]; exact h7, by rw [e2]; exact h8, by rw [e2]; exact h9⟩
  rw [hq.1 a (fun z => ha (by rw [z]; decide))]
  exact h1 a ha
theorem cA_wr {b : Nat → Nat} {tp n p o : Nat} {σ0 σ : jr_Sg} {O : List Nat} {c : Int32} (h : cA b tp n σ0 σ p O) (hc : c = ev_cc o) : cA b tp n σ0 (jr_up (jr_up σ 2 (160 * n + O.length) c) 1 3 (nI (O.length + 1))) p (O ++ [o]) := by
  obtain ⟨h1, h2, h3, h4, h5, h6, h7, h8, h9⟩ := h
  have e (a : Nat) (h1 : a ≠ 1) (h2 : a ≠ 2) : jr_up (jr_up σ 2 (160 * n + O.length) c) 1 3 (nI (O.length + 1)) a = σ a := by
    unfold jr_up
    rw [if_neg h1, if_neg h2]
  have e5 := e 5 (by decide) (by decide)
  have e6 := e 6 (by decide) (by decide)
  have e1 : jr_up (jr_up σ 2 (160 * n + O.length) c) 1 3 (nI (O.length + 1)) 1 = upd (σ 1) 3 (nI (O.length + 1)) := rfl
  have e2 : jr_up (jr_up σ 2 (160 * n + O.length) c) 1 3 (nI (O.length + 1)) 2 = upd (σ 2) (160 * n + O.length) c := rfl
  refine ⟨fun a ha => ?_, ?_, ?_, by rw [e5]; exact h4, ?_, h6, ?_, fun j hj => ?_, fun i hi => ?_⟩
  · simp only [List.mem_cons, not_or] at ha
    rw [e a ha.1 ha.2.1]
    exact h1 a (by simp only [List.mem_cons, not_or]; exact ha)
  · unfold tC
    rw [e5, e6]
    exact h2
  · rw [e1, pk_un (by decide)]
    exact h3
  · unfold lxC
    rw [e5]
    exact h5
  · rw [e1, pk_us, List.length_append]
    rfl
  · rw [e2, pk_un (by omega)]
    exact h8 j hj
  · rw [e2]
    by_cases z : i = O.length
    · subst z
      rw [pk_us, hc]
      simp [List.getD]
    · rw [List.length_append] at hi
      simp only [List.length_cons, List.length_nil] at hi
      rw [pk_un (by omega), h9 i (by omega)]
      congr 1
      simp only [List.getD_eq_getElem?_getD]
      rw [List.getElem?_append_left (by omega)]
theorem cA_fl {b : Nat → Nat} {tp n p : Nat} {σ0 σ σ' : jr_Sg} {O : List Nat} (h : cA b tp n σ0 σ p O) (hO : O.length ≤ 160) (hq : fr5 [3, 7] σ σ') (h3 : σ' 5 3 = tk 24) (h7 : σ' 5 7 = nI (lx_b b tp p)) : cF n σ0 σ' (lx_b b tp p) := by
  obtain ⟨g1, g2, g3, g4, g5, g6, g7, g8, g9⟩ := h
  have e1 : σ' 1 = σ 1 := hq.1 1 (by decide)
  have e2 : σ' 2 = σ 2 := hq.1 2 (by decide)
  have := lx_b_le (b := b) g6
  have := g2.2.1
  refine ⟨fun a ha => ?_, by rw [e1]; exact g3, h7, by omega, h3, ⟨O.length, hO, by rw [e1]; exact g7⟩, by rw [e2]; exact g8⟩
  rw [hq.1 a (fun z => ha (by rw [z]; decide))]
  exact g1 a ha
theorem cF_wr {n q x : Nat} {σ0 σ : jr_Sg} {c : Int32} (h : cF n σ0 σ q) (hx : x < 160) : cF n σ0 (jr_up (jr_up σ 2 (160 * n + x) c) 1 3 (nI (x + 1))) q := by
  obtain ⟨h1, h3, h4, h5, h6, h7, h8⟩ := h
  have e (a : Nat) (h1 : a ≠ 1) (h2 : a ≠ 2) : jr_up (jr_up σ 2 (160 * n + x) c) 1 3 (nI (x + 1)) a = σ a := by
    unfold jr_up
    rw [if_neg h1, if_neg h2]
  have e5 := e 5 (by decide) (by decide)
  have e1 : jr_up (jr_up σ 2 (160 * n + x) c) 1 3 (nI (x + 1)) 1 = upd (σ 1) 3 (nI (x + 1)) := rfl
  have e2 : jr_up (jr_up σ 2 (160 * n + x) c) 1 3 (nI (x + 1)) 2 = upd (σ 2) (160 * n + x) c := rfl
  refine ⟨fun a ha => ?_, ?_, by rw [e5]; exact h4, h5, by rw [e5]; exact h6, ⟨x + 1, hx, by rw [e1, pk_us]⟩, fun j hj => ?_⟩
  · simp only [List.mem_cons, not_or] at ha
    rw [e a ha.1 ha.2.1]
    exact h1 a (by simp only [List.mem_cons, not_or]; exact ha)
  · rw [e1, pk_un (by decide)]
    exact h3
  · rw [e2, pk_un (by omega)]
    exact h8 j hj
def au_sp (b : Nat → Nat) (tp lv p : Nat) (H O : List Nat) : Prop := au_sg (lx_t b tp p) ≠ 0 → lv ≤ au_rk (au_sg (lx_t b tp p)) → au_st b tp p 2 H O = .inr (.inl (lx_b b tp p))
theorem au_sp_w {b : Nat → Nat} {tp lv lv' p : Nat} {H O : List Nat} (h : au_sp b tp lv p H O) (hs : ∀ t, lx_t b tp p = t → au_sg t ≠ 0 → lv' ≤ au_rk (au_sg t) → lv ≤ au_rk (au_sg t)) : au_sp b tp lv' p H O := fun h1 h2 => h h1 (hs _ rfl h1 h2)
theorem au_sp7 {b : Nat → Nat} {tp p : Nat} {H O : List Nat} : au_sp b tp 7 p H O := fun h1 h2 => by
  exfalso
  rcases au_sg_rk (lx_t b tp p) with e | e | e | e | e | e | e | e
  · exact h1 e
  all_goals (rw [e.1] at h2; exact absurd h2 (by decide))
def M1 : Nat → Nat → Prop := fun m _ => m = 1
def M0 : Nat → Nat → Prop := fun m t => m ≠ 2 ∧ (m = 1 → t ≠ 9)

def lx_sp (c : Nat → Bool) (b : Nat → Nat) : Nat → Nat → Nat
  | 0, p => p
  | n + 1, p => if c (b p) = true then lx_sp c b n (p + 1) else p
def lx_e (c : Nat → Bool) (b : Nat → Nat) (tp p : Nat) : Nat := lx_sp c b (tp - p) p
theorem lx_e_go {c : Nat → Bool} {b : Nat → Nat} {tp p : Nat} (h : p < tp) (hc : c (b p) = true) : lx_e c b tp p = lx_e c b tp (p + 1) := by
  unfold lx_e
  rw [show tp - p = (tp - (p + 1)) + 1 by omega, lx_sp, if_pos hc]
theorem lx_e_no {c : Nat → Bool} {b : Nat → Nat} {tp p : Nat} (hc : ¬ c (b p) = true) : lx_e c b tp p = p := by
  unfold lx_e
  cases h : tp - p with
  | zero => rfl
  | succ n => rw [lx_sp, if_neg hc]
theorem lx_e_end {c : Nat → Bool} {b : Nat → Nat} {tp p : Nat} (h : tp ≤ p) : lx_e c b tp p = p := by
  unfold lx_e
  rw [show tp - p = 0 by omega, lx_sp]
theorem lx_sp_ge {c : Nat → Bool} {b : Nat → Nat} : ∀ n p, p ≤ lx_sp c b n p ∧ lx_sp c b n p ≤ p + n
  | 0, p => ⟨Nat.le_refl _, Nat.le_refl _⟩
  | n + 1, p => by
    rw [lx_sp]
    split
    · have := lx_sp_ge (c := c) (b := b) n (p + 1)
      omega
    · omega
theorem lx_e_ge {c : Nat → Bool} {b : Nat → Nat} {tp p : Nat} : p ≤ lx_e c b tp p := (lx_sp_ge _ _).1
theorem lx_e_le {c : Nat → Bool} {b : Nat → Nat} {tp p : Nat} (h : p ≤ tp) : lx_e c b tp p ≤ tp := by
  have : lx_e c b tp p ≤ p + (tp - p) := (lx_sp_ge _ _).2
  omega
theorem lx_sp_in {c : Nat → Bool} {b : Nat → Nat} : ∀ n p i, p ≤ i → i < lx_sp c b n p → c (b i) = true
  | 0, p, i, h1, h2 => by
    rw [lx_sp] at h2
    omega
  | n + 1, p, i, h1, h2 => by
    rw [lx_sp] at h2
    split at h2
    · next hc =>
      rcases Nat.eq_or_lt_of_le h1 with rfl | h3
      · exact hc
      · exact lx_sp_in n (p + 1) i h3 h2
    · omega
theorem lx_e_in {c : Nat → Bool} {b : Nat → Nat} {tp p i : Nat} (h1 : p ≤ i) (h2 : i < lx_e c b tp p) : c (b i) = true := lx_sp_in _ _ _ h1 h2
def lx_bl (x : Nat) : Bool := decide (x = 32 ∨ x = 10)
def lx_le (x : Nat) : Bool := decide (97 ≤ x ∧ x ≤ 122)
def lx_di (x : Nat) : Bool := decide (48 ≤ x ∧ x ≤ 57)
def lx_W : List (List Nat) := [[119, 97, 114, 109, 116, 104], [103, 108, 97, 110, 99, 101, 115], [108, 105, 103, 104, 116], [115, 101, 99, 111, 110, 100], [115, 101, 101, 110], [109, 111, 114, 101], [111, 114], [97, 110, 100], [110, 111, 116], [119, 97, 114, 109, 115], [99, 111, 111, 108, 115], [108, 111, 111, 107, 115]]
def lx_u (b : Nat → Nat) (q e : Nat) : List Nat := (List.range (e - q)).map (fun i => b (q + i))
def lx_wl (u : List Nat) : Nat → Nat
  | 0 => 24
  | n + 1 => if u = lx_W.getD n [] then n + 1 else lx_wl u n
def lx_sg (x : Nat) : Nat := match x with
  | 40 => 20
  | 41 => 21
  | 59 => 22
  | 43 => 15
  | 45 => 16
  | 42 => 17
  | 60 => 13
  | 61 => 14
  | _ => 24
def lx_nv (b : Nat → Nat) (q : Nat) : Nat → Nat
  | 0 => 0
  | n + 1 => 10 * lx_nv b q n + (b (q + n) - 48)
def lx_b (b : Nat → Nat) (tp p : Nat) : Nat := lx_e lx_bl b tp p
def lx_t0 (b : Nat → Nat) (tp q : Nat) : Nat := if tp ≤ q then 23 else if lx_le (b q) = true then lx_wl (lx_u b q (lx_e lx_le b tp q)) 12 else if lx_di (b q) = true then (if 4 < lx_e lx_di b tp q - q then 24 else 19) else lx_sg (b q)
def lx_n0 (b : Nat → Nat) (tp q : Nat) : Nat := if tp ≤ q then q else if lx_le (b q) = true then lx_e lx_le b tp q else if lx_di (b q) = true then lx_e lx_di b tp q else q + 1
def lx_v0 (b : Nat → Nat) (tp q : Nat) : Nat := lx_nv b q (lx_e lx_di b tp q - q)
def lx_t (b : Nat → Nat) (tp p : Nat) : Nat := lx_t0 b tp (lx_b b tp p)
def lx_n (b : Nat → Nat) (tp p : Nat) : Nat := lx_n0 b tp (lx_b b tp p)
def lx_v (b : Nat → Nat) (tp p : Nat) : Nat := lx_v0 b tp (lx_b b tp p)
def tk (a : Nat) : Int32 := -(nI a)
theorem lx_wl_le (u : List Nat) : ∀ n, n ≤ 12 → 1 ≤ lx_wl u n ∧ lx_wl u n ≤ 24 ∧ (lx_wl u n ≤ 12 ∨ lx_wl u n = 24)
  | 0, _ => by rw [lx_wl]; omega
  | n + 1, h => by
    rw [lx_wl]
    split
    · omega
    · exact lx_wl_le u n (by omega)
theorem lx_sg_le (x : Nat) : 13 ≤ lx_sg x ∧ lx_sg x ≤ 24 ∧ lx_sg x ≠ 19 ∧ lx_sg x ≠ 23 ∧ lx_sg x ≠ 18 := by
  unfold lx_sg
  split <;> decide
theorem lx_t_le (b : Nat → Nat) (tp p : Nat) : 1 ≤ lx_t b tp p ∧ lx_t b tp p ≤ 24 ∧ lx_t b tp p ≠ 18 := by
  unfold lx_t lx_t0
  have h1 := fun u => lx_wl_le u 12 (Nat.le_refl _)
  have h2 := fun x => lx_sg_le x
  split
  · omega
  · split
    · have := h1 (lx_u b (lx_b b tp p) (lx_e lx_le b tp (lx_b b tp p)))
      omega
    · split
      · split <;> omega
      · have := h2 (b (lx_b b tp p))
        omega
theorem lx_t_end {b : Nat → Nat} {tp p : Nat} : lx_t b tp p = 23 ↔ tp ≤ lx_b b tp p := by
  unfold lx_t lx_t0
  have h1 := fun u => lx_wl_le u 12 (Nat.le_refl _)
  have h2 := fun x => lx_sg_le x
  split
  · next h => simp [h]
  · next h =>
    refine ⟨fun e => ?_, fun e => absurd e h⟩
    exfalso
    split at e
    · have := h1 (lx_u b (lx_b b tp p) (lx_e lx_le b tp (lx_b b tp p)))
      omega
    · split at e
      · split at e <;> omega
      · have := h2 (b (lx_b b tp p))
        omega
theorem lx_b_ge {b : Nat → Nat} {tp p : Nat} : p ≤ lx_b b tp p := lx_e_ge
theorem lx_b_le {b : Nat → Nat} {tp p : Nat} (h : p ≤ tp) : lx_b b tp p ≤ tp := lx_e_le h
theorem lx_n_le {b : Nat → Nat} {tp p : Nat} (h : p ≤ tp) : lx_n b tp p ≤ tp := by
  have := lx_b_le (b := b) h
  unfold lx_n lx_n0
  split
  · exact this
  · split
    · exact lx_e_le this
    · split
      · exact lx_e_le this
      · omega
theorem lx_n_gt {b : Nat → Nat} {tp p : Nat} (h : lx_t b tp p ≠ 23) : p + 1 ≤ lx_n b tp p := by
  have h1 : ¬ tp ≤ lx_b b tp p := fun q => h (lx_t_end.mpr q)
  have h2 := lx_b_ge (b := b) (tp := tp) (p := p)
  unfold lx_n lx_n0
  rw [if_neg h1]
  split
  · next hc =>
    rw [lx_e_go (by omega) hc]
    have := lx_e_ge (c := lx_le) (b := b) (tp := tp) (p := lx_b b tp p + 1)
    omega
  · split
    · next hc =>
      rw [lx_e_go (by omega) hc]
      have := lx_e_ge (c := lx_di) (b := b) (tp := tp) (p := lx_b b tp p + 1)
      omega
    · omega
theorem lx_n_ge {b : Nat → Nat} {tp p : Nat} : p ≤ lx_n b tp p := by
  by_cases h : lx_t b tp p = 23
  · have h1 := lx_t_end.mp h
    unfold lx_n lx_n0
    rw [if_pos h1]
    exact lx_b_ge
  · exact Nat.le_of_succ_le (lx_n_gt h)
theorem lx_nv_le {b : Nat → Nat} {q : Nat} : ∀ n, n ≤ 4 → (∀ i, i < n → lx_di (b (q + i)) = true) → lx_nv b q n < 10 ^ n
  | 0, _, _ => by show 0 < 1; decide
  | n + 1, h, hd => by
    have h1 := lx_nv_le n (by omega) (fun i hi => hd i (by omega))
    have h2 := hd n (by omega)
    unfold lx_di at h2
    simp only [decide_eq_true_eq] at h2
    rw [lx_nv, Nat.pow_succ]
    omega
theorem lx_v_le {b : Nat → Nat} {tp p : Nat} (h : lx_t b tp p = 19) : lx_v b tp p ≤ 9999 := by
  have h1 := fun u => lx_wl_le u 12 (Nat.le_refl _)
  have h2 := fun x => lx_sg_le x
  have key : lx_e lx_di b tp (lx_b b tp p) - lx_b b tp p ≤ 4 := by
    unfold lx_t lx_t0 at h
    split at h
    · omega
    · split at h
      · have := h1 (lx_u b (lx_b b tp p) (lx_e lx_le b tp (lx_b b tp p)))
        omega
      · split at h
        · split at h
          · omega
          · omega
        · have := h2 (b (lx_b b tp p))
          omega
  have h3 := lx_nv_le (b := b) (q := lx_b b tp p) _ key (fun i hi => lx_e_in (tp := tp) (Nat.le_add_right _ _) (by omega))
  have h4 : 10 ^ (lx_e lx_di b tp (lx_b b tp p) - lx_b b tp p) ≤ 10 ^ 4 := Nat.pow_le_pow_right (by decide) key
  show lx_nv _ _ _ ≤ 9999
  omega
theorem tk_ne {a c : Nat} (ha : a ≤ 24) (hc : c ≤ 24) (h : a ≠ c) : tk a ≠ tk c := by
  intro e
  have k : ∀ x : Fin 25, ∀ y : Fin 25, tk x.val = tk y.val → x = y := by decide +kernel
  exact h (congrArg Fin.val (k ⟨a, by omega⟩ ⟨c, by omega⟩ e))
theorem lx_Wk : ∀ a : Fin 12, jr_len.getD (a.val + 1) 0 = (lx_W.getD a.val []).length ∧ (lx_W.getD a.val []).length ≤ 7 ∧ ∀ k : Fin 7, k.val < (lx_W.getD a.val []).length → (jr_byt.getD (a.val + 1) []).getD k.val 0 = nI ((lx_W.getD a.val []).getD k.val 0) ∧ (lx_W.getD a.val []).getD k.val 0 ≤ 127 := by decide +kernel
theorem c127 : ∀ c : Fin 128, nI c.val &&& nI 255 = nI c.val ∧ ((nI c.val).toUInt32 % 65536).toInt32 = nI c.val := by decide +kernel
def fr5 (F : List Nat) (σ σ' : jr_Sg) : Prop := (∀ a, a ≠ 5 → σ' a = σ a) ∧ ∀ j, j ∉ F → σ' 5 j = σ 5 j
theorem fr5_rf (F : List Nat) (σ : jr_Sg) : fr5 F σ σ := ⟨fun _ _ => rfl, fun _ _ => rfl⟩
theorem fr5_tr {F : List Nat} {a b c : jr_Sg} (h : fr5 F a b) (h2 : fr5 F b c) : fr5 F a c := ⟨fun i hi => (h2.1 i hi).trans (h.1 i hi), fun j hj => (h2.2 j hj).trans (h.2 j hj)⟩
theorem fr5_w {F F2 : List Nat} {a b : jr_Sg} (h : fr5 F a b) (hs : ∀ j, j ∈ F → j ∈ F2) : fr5 F2 a b := ⟨h.1, fun j hj => h.2 j (fun q => hj (hs j q))⟩
theorem fr5_up {F : List Nat} {a b : jr_Sg} (h : fr5 F a b) {j : Nat} {v : Int32} (hj : j ∈ F) : fr5 F a (jr_up b 5 j v) := ⟨fun i hi => by unfold jr_up; rw [if_neg hi]; exact h.1 i hi, fun k hk => by
  show upd (b 5) j v k = _
  rw [pk_un (fun e => hk (by rw [e]; exact hj))]
  exact h.2 k hk⟩
def tC (b : Nat → Nat) (tp : Nat) (σ : jr_Sg) : Prop := σ 5 2 = nI tp ∧ tp ≤ 160 ∧ ∀ i, i < tp → σ 6 i = nI (b i) ∧ b i ≤ 255
theorem tC_fr5 {b : Nat → Nat} {tp : Nat} {F : List Nat} {σ σ' : jr_Sg} (h : tC b tp σ) (hq : fr5 F σ σ') (h2 : 2 ∉ F) : tC b tp σ' := by
  refine ⟨by rw [hq.2 2 h2]; exact h.1, h.2.1, fun i hi => by rw [hq.1 6 (by decide)]; exact h.2.2 i hi⟩
def lxC (b : Nat → Nat) (tp p : Nat) (σ : jr_Sg) : Prop := σ 5 3 = tk (lx_t b tp p) ∧ (lx_t b tp p = 19 → σ 5 4 = nI (lx_v b tp p)) ∧ σ 5 5 = nI (lx_b b tp p) ∧ σ 5 6 = nI (lx_n b tp p)
theorem wq_coder {G : jq_G} {d : Nat} {σ : jr_Sg} {k : Value → jr_Sg → Prop} {i : Nat} (hi : i < 14) (h : k (.int 0) σ) : jq_M G d mi_J0_coder_7d493 [.ref (1000 + i)] σ (jr_k k) := by
  refine jq_enter (L := [some (.ref (1000 + i))]) (by decide) (Nat.le_of_ble_eq_true rfl) rfl ?_
  refine jq_compact 3 dJ0_coder_7d493_0 rfl rfl ?_
  refine jq_if_eq 13 6 dJ0_coder_7d493_3 rfl rfl (fun q => absurd q (by decide)) (fun q3 => ?_)
  refine jq_aload_n 0 7 dJ0_coder_7d493_6 rfl rfl rfl ?_
  refine jq_strF (v := .int 0) (fun A U H adK adV q _ => (q.1 i hi).2.1) fl_J0_15 rfl 10 dJ0_coder_7d493_7 rfl ?_
  refine jq_goto 14 dJ0_coder_7d493_10 rfl ?_
  refine jq_ireturn dJ0_coder_7d493_14 rfl rfl ?_
  exact h
theorem wq_isLatin1 {G : jq_G} {d : Nat} {σ : jr_Sg} {k : Value → jr_Sg → Prop} {i : Nat} (hi : i < 14) (h : k (.int 1) σ) : jq_M G d mi_J0_isLatin1_aae02 [.ref (1000 + i)] σ (jr_k k) := by
  refine jq_enter (L := [some (.ref (1000 + i))]) (by decide) (Nat.le_of_ble_eq_true rfl) rfl ?_
  refine jq_compact 3 dJ0_isLatin1_aae02_0 rfl rfl ?_
  refine jq_if_eq 17 6 dJ0_isLatin1_aae02_3 rfl rfl (fun q => absurd q (by decide)) (fun q3 => ?_)
  refine jq_aload_n 0 7 dJ0_isLatin1_aae02_6 rfl rfl rfl ?_
  refine jq_strF (v := .int 0) (fun A U H adK adV q _ => (q.1 i hi).2.1) fl_J0_15 rfl 10 dJ0_isLatin1_aae02_7 rfl ?_
  refine jq_if_ne 17 13 dJ0_isLatin1_aae02_10 rfl rfl (fun q => absurd rfl q) (fun q10 => ?_)
  refine jq_iconst (1) 14 dJ0_isLatin1_aae02_13 rfl rfl ?_
  refine jq_goto 18 dJ0_isLatin1_aae02_14 rfl ?_
  refine jq_ireturn dJ0_isLatin1_aae02_18 rfl rfl ?_
  exact h
theorem wq_length {G : jq_G} {d : Nat} {σ : jr_Sg} {k : Value → jr_Sg → Prop} {i : Nat} (hi : i < 14) (hs : jr_len.getD i 0 < 2 ^ 31) (h : k (.int (nI (jr_len.getD i 0))) σ) : jq_M G (d + 1) mi_J0_length_8abf5 [.ref (1000 + i)] σ (jr_k k) := by
  refine jq_enter (L := [some (.ref (1000 + i))]) (by decide) (Nat.le_of_ble_eq_true rfl) rfl ?_
  refine jq_aload_n 0 1 dJ0_length_8abf5_0 rfl rfl rfl ?_
  refine jq_strF (v := .ref (1100 + i)) (fun A U H adK adV q e => by have z := (q.1 i hi).2.2.1; rw [e] at z; exact z) fl_J0_9 rfl 4 dJ0_length_8abf5_1 rfl ?_
  refine jq_strLen hi 5 dJ0_length_8abf5_4 rfl ?_
  refine jq_aload_n 0 6 dJ0_length_8abf5_5 rfl rfl rfl ?_
  refine qs_J0_335 9 dJ0_length_8abf5_6 rfl rfl hi (Nat.le_of_ble_eq_true rfl) (wq_coder hi ?_)
  refine jq_ishr 10 dJ0_length_8abf5_9 rfl ?_
  refine jq_ireturn dJ0_length_8abf5_10 rfl rfl ?_
  rw [show nI (jr_len.getD i 0) >>> ((0 : Int32) &&& 31) = nI (jr_len.getD i 0) by rw [show ((0 : Int32) &&& 31) = 0 from rfl, Int32.shiftRight_zero]]
  exact h
theorem wq_checkIndex3 {G : jq_G} {d : Nat} {σ : jr_Sg} {k : Value → jr_Sg → Prop} {v : Value} {c n : Nat} (hv : v.category = 1) (hc : c < n) (hn : n < 2 ^ 31) (h : k (.int (nI c)) σ) : jq_M G d mi_J3_checkIndex_8e157 [.int (nI c), .int (nI n), v] σ (jr_k k) := by
  have e : jr_ent [.int (nI c), .int (nI n), v] = [some (.int (nI c)), some (.int (nI n)), some v] := by
    rw [jr_ent, if_neg (by show ¬ ((1 : Nat) = 2); decide), jr_ent, if_neg (by show ¬ ((1 : Nat) = 2); decide), jr_ent, if_neg (by rw [hv]; decide), jr_ent]
  refine jq_enter (L := [some (.int (nI c)), some (.int (nI n)), some v]) (by decide) (by rw [e]; exact Nat.le_refl 3) (by rw [e]; rfl) ?_
  refine jq_iload_n 0 1 dJ3_checkIndex_8e157_0 rfl rfl rfl ?_
  refine jq_if_lt 9 4 dJ3_checkIndex_8e157_1 rfl rfl (fun q => absurd q (nI_pos (by omega))) (fun q1 => ?_)
  refine jq_iload_n 0 5 dJ3_checkIndex_8e157_4 rfl rfl rfl ?_
  refine jq_iload_n 1 6 dJ3_checkIndex_8e157_5 rfl rfl rfl ?_
  refine jq_icmp_lt 16 9 dJ3_checkIndex_8e157_6 rfl rfl (fun q6 => ?_) (fun q => absurd (nI_lt hc hn) q)
  refine jq_iload_n 0 17 dJ3_checkIndex_8e157_16 rfl rfl rfl ?_
  refine jq_ireturn dJ3_checkIndex_8e157_17 rfl rfl ?_
  exact h
theorem wq_checkIndex {G : jq_G} {d : Nat} {σ : jr_Sg} {k : jr_Sg → Prop} {c n : Nat} (hc : c < n) (hn : n < 2 ^ 31) (h : k σ) : jq_M G (d + 1) mi_J0_checkIndex_df160 [.int (nI c), .int (nI n)] σ (jr_kv k) := by
  refine jq_enter (L := [some (.int (nI c)), some (.int (nI n))]) (by decide) (Nat.le_of_ble_eq_true rfl) rfl ?_
  refine jq_iload_n 0 1 dJ0_checkIndex_df160_0 rfl rfl rfl ?_
  refine jq_iload_n 1 2 dJ0_checkIndex_df160_1 rfl rfl rfl ?_
  refine jq_former 5 dJ0_checkIndex_df160_2 rfl rfl (fun v hv => ?_)
  refine qs_J0_1059 8 dJ0_checkIndex_df160_5 rfl rfl (Nat.le_of_ble_eq_true rfl) (wq_checkIndex3 hv hc hn ?_)
  refine jq_pop 9 dJ0_checkIndex_df160_8 rfl rfl ?_
  refine jq_return dJ0_checkIndex_df160_9 rfl ?_
  exact h
theorem wq_charAtL {G : jq_G} {d : Nat} {σ : jr_Sg} {k : Value → jr_Sg → Prop} {i c x : Nat} (hi : i < 14) (hl : jr_len.getD i 0 ≤ 100) (hc : c < jr_len.getD i 0) (hx : x ≤ 127) (hb : (jr_byt.getD i []).getD c 0 = nI x) (h : k (.int (nI x)) σ) : jq_M G (d + 2) mi_J1_charAt_3b067 [.ref (1100 + i), .int (nI c)] σ (jr_k k) := by
  refine jq_enter (L := [some (.ref (1100 + i)), some (.int (nI c))]) (by decide) (Nat.le_of_ble_eq_true rfl) rfl ?_
  refine jq_iload_n 1 1 dJ1_charAt_3b067_0 rfl rfl rfl ?_
  refine jq_aload_n 0 2 dJ1_charAt_3b067_1 rfl rfl rfl ?_
  refine jq_strLen hi 3 dJ1_charAt_3b067_2 rfl ?_
  refine qs_J1_9 6 dJ1_charAt_3b067_3 rfl rfl (Nat.le_of_ble_eq_true rfl) (wq_checkIndex hc (by omega) ?_)
  refine jq_aload_n 0 7 dJ1_charAt_3b067_6 rfl rfl rfl ?_
  refine jq_iload_n 1 8 dJ1_charAt_3b067_7 rfl rfl rfl ?_
  refine jq_strAt hi rfl hc hl 9 dJ1_charAt_3b067_8 rfl ?_
  rw [hb]
  refine jq_sipush (nI 255) 12 dJ1_charAt_3b067_9 rfl rfl ?_
  refine jq_iand 13 dJ1_charAt_3b067_12 rfl ?_
  rw [(c127 ⟨x, by omega⟩).1]
  refine jq_i2c 14 dJ1_charAt_3b067_13 rfl ?_
  rw [(c127 ⟨x, by omega⟩).2]
  refine jq_ireturn dJ1_charAt_3b067_14 rfl (pk_charN (by omega)).1 ?_
  exact h
theorem wq_charAt {G : jq_G} {d : Nat} {σ : jr_Sg} {k : Value → jr_Sg → Prop} {i c x : Nat} (hi : i < 14) (hl : jr_len.getD i 0 ≤ 100) (hc : c < jr_len.getD i 0) (hx : x ≤ 127) (hb : (jr_byt.getD i []).getD c 0 = nI x) (h : k (.int (nI x)) σ) : jq_M G (d + 3) mi_J0_charAt_5068e [.ref (1000 + i), .int (nI c)] σ (jr_k k) := by
  refine jq_enter (L := [some (.ref (1000 + i)), some (.int (nI c))]) (by decide) (Nat.le_of_ble_eq_true rfl) rfl ?_
  refine jq_aload_n 0 1 dJ0_charAt_5068e_0 rfl rfl rfl ?_
  refine qs_J0_492 4 dJ0_charAt_5068e_1 rfl rfl hi (Nat.le_of_ble_eq_true rfl) (wq_isLatin1 hi ?_)
  refine jq_if_eq 16 7 dJ0_charAt_5068e_4 rfl rfl (fun q => absurd q (by decide)) (fun q4 => ?_)
  refine jq_aload_n 0 8 dJ0_charAt_5068e_7 rfl rfl rfl ?_
  refine jq_strF (v := .ref (1100 + i)) (fun A U H adK adV q e => by have z := (q.1 i hi).2.2.1; rw [e] at z; exact z) fl_J0_9 rfl 11 dJ0_charAt_5068e_8 rfl ?_
  refine jq_iload_n 1 12 dJ0_charAt_5068e_11 rfl rfl rfl ?_
  refine qs_J0_495 15 dJ0_charAt_5068e_12 rfl rfl (Nat.le_of_ble_eq_true rfl) (wq_charAtL hi hl hc hx hb ?_)
  refine jq_ireturn dJ0_charAt_5068e_15 rfl (pk_charN (by omega)).1 ?_
  exact h
theorem wq_isBlank {G : jq_G} {d : Nat} {σ : jr_Sg} {k : Value → jr_Sg → Prop} {x : Nat} (hx : x ≤ 255) (h1 : lx_bl x = true → k (.int 1) σ) (h0 : ¬ lx_bl x = true → k (.int 0) σ) : jq_M G d mi_X8_isBlank [.int (nI x)] σ (jr_k k) := by
  have e : ∀ n, n < 2 ^ 31 → (nI x = nI n ↔ x = n) := fun n hn => nI_eq (by omega) hn
  unfold lx_bl at h1 h0
  simp only [decide_eq_true_eq] at h1 h0
  refine jq_enter (L := [some (.int (nI x))]) (by decide) (Nat.le_of_ble_eq_true rfl) rfl ?_
  refine jq_iload_n 0 1 dX8_isBlank_0 rfl rfl rfl ?_
  refine jq_bipush (nI 32) 3 dX8_isBlank_1 rfl rfl ?_
  refine jq_icmp_eq 12 6 dX8_isBlank_3 rfl rfl (fun q3 => ?_) (fun q3 => ?_)
  · refine jq_iconst (nI 1) 13 dX8_isBlank_12 rfl rfl ?_
    refine jq_goto 17 dX8_isBlank_13 rfl ?_
    refine jq_ireturn dX8_isBlank_17 rfl rfl ?_
    exact h1 (by first | exact Or.inl ((e _ (by decide)).mp q3) | exact Or.inr ((e _ (by decide)).mp q9))
  · refine jq_iload_n 0 7 dX8_isBlank_6 rfl rfl rfl ?_
    refine jq_bipush (nI 10) 9 dX8_isBlank_7 rfl rfl ?_
    refine jq_icmp_ne 16 12 dX8_isBlank_9 rfl rfl (fun q9 => ?_) (fun q9 => ?_)
    · refine jq_iconst (nI 0) 17 dX8_isBlank_16 rfl rfl ?_
      refine jq_ireturn dX8_isBlank_17 rfl rfl ?_
      exact h0 (fun z => z.elim (fun z => q3 ((e _ (by decide)).mpr z)) (fun z => q9 ((e _ (by decide)).mpr z)))
    · refine jq_iconst (nI 1) 13 dX8_isBlank_12 rfl rfl ?_
      refine jq_goto 17 dX8_isBlank_13 rfl ?_
      refine jq_ireturn dX8_isBlank_17 rfl rfl ?_
      exact h1 (by first | exact Or.inl ((e _ (by decide)).mp q3) | exact Or.inr ((e _ (by decide)).mp q9))
theorem wq_isLetter {G : jq_G} {d : Nat} {σ : jr_Sg} {k : Value → jr_Sg → Prop} {x : Nat} (hx : x ≤ 255) (h1 : lx_le x = true → k (.int 1) σ) (h0 : ¬ lx_le x = true → k (.int 0) σ) : jq_M G d mi_X8_isLetter [.int (nI x)] σ (jr_k k) := by
  have e : ∀ n, n < 2 ^ 31 → (nI x < nI n ↔ x < n) := fun n hn => nI_ltI (by omega) hn
  have e2 : ∀ n, n < 2 ^ 31 → (nI n < nI x ↔ n < x) := fun n hn => nI_ltI hn (by omega)
  unfold lx_le at h1 h0
  simp only [decide_eq_true_eq] at h1 h0
  refine jq_enter (L := [some (.int (nI x))]) (by decide) (Nat.le_of_ble_eq_true rfl) rfl ?_
  refine jq_iload_n 0 1 dX8_isLetter_0 rfl rfl rfl ?_
  refine jq_bipush (nI 97) 3 dX8_isLetter_1 rfl rfl ?_
  refine jq_icmp_lt 16 6 dX8_isLetter_3 rfl rfl (fun q3 => ?_) (fun q3 => ?_)
  · refine jq_iconst (nI 0) 17 dX8_isLetter_16 rfl rfl ?_
    refine jq_ireturn dX8_isLetter_17 rfl rfl ?_
    exact h0 (fun z => by first | exact absurd ((e _ (by decide)).mp q3) (by omega) | exact absurd ((e2 _ (by decide)).mp q9) (by omega) | exact absurd ((e2 _ (by decide)).mp (Int32.not_le.mp q9)) (by omega))
  · refine jq_iload_n 0 7 dX8_isLetter_6 rfl rfl rfl ?_
    refine jq_bipush (nI 122) 9 dX8_isLetter_7 rfl rfl ?_
    refine jq_icmp_gt 16 12 dX8_isLetter_9 rfl rfl (fun q9 => ?_) (fun q9 => ?_)
    · refine jq_iconst (nI 0) 17 dX8_isLetter_16 rfl rfl ?_
      refine jq_ireturn dX8_isLetter_17 rfl rfl ?_
      exact h0 (fun z => by first | exact absurd ((e _ (by decide)).mp q3) (by omega) | exact absurd ((e2 _ (by decide)).mp q9) (by omega) | exact absurd ((e2 _ (by decide)).mp (Int32.not_le.mp q9)) (by omega))
    · refine jq_iconst (nI 1) 13 dX8_isLetter_12 rfl rfl ?_
      refine jq_goto 17 dX8_isLetter_13 rfl ?_
      refine jq_ireturn dX8_isLetter_17 rfl rfl ?_
      exact h1 ⟨Nat.le_of_not_lt (fun z => q3 ((e _ (by decide)).mpr z)), Nat.le_of_not_lt (fun z => q9 ((e2 _ (by decide)).mpr z))⟩
theorem wq_isDigit {G : jq_G} {d : Nat} {σ : jr_Sg} {k : Value → jr_Sg → Prop} {x : Nat} (hx : x ≤ 255) (h1 : lx_di x = true → k (.int 1) σ) (h0 : ¬ lx_di x = true → k (.int 0) σ) : jq_M G d mi_X8_isDigit [.int (nI x)] σ (jr_k k) := by
  have e : ∀ n, n < 2 ^ 31 → (nI x < nI n ↔ x < n) := fun n hn => nI_ltI (by omega) hn
  have e2 : ∀ n, n < 2 ^ 31 → (nI n < nI x ↔ n < x) := fun n hn => nI_ltI hn (by omega)
  unfold lx_di at h1 h0
  simp only [decide_eq_true_eq] at h1 h0
  refine jq_enter (L := [some (.int (nI x))]) (by decide) (Nat.le_of_ble_eq_true rfl) rfl ?_
  refine jq_iload_n 0 1 dX8_isDigit_0 rfl rfl rfl ?_
  refine jq_bipush (nI 48) 3 dX8_isDigit_1 rfl rfl ?_
  refine jq_icmp_lt 16 6 dX8_isDigit_3 rfl rfl (fun q3 => ?_) (fun q3 => ?_)
  · refine jq_iconst (nI 0) 17 dX8_isDigit_16 rfl rfl ?_
    refine jq_ireturn dX8_isDigit_17 rfl rfl ?_
    exact h0 (fun z => by first | exact absurd ((e _ (by decide)).mp q3) (by omega) | exact absurd ((e2 _ (by decide)).mp q9) (by omega) | exact absurd ((e2 _ (by decide)).mp (Int32.not_le.mp q9)) (by omega))
  · refine jq_iload_n 0 7 dX8_isDigit_6 rfl rfl rfl ?_
    refine jq_bipush (nI 57) 9 dX8_isDigit_7 rfl rfl ?_
    refine jq_icmp_gt 16 12 dX8_isDigit_9 rfl rfl (fun q9 => ?_) (fun q9 => ?_)
    · refine jq_iconst (nI 0) 17 dX8_isDigit_16 rfl rfl ?_
      refine jq_ireturn dX8_isDigit_17 rfl rfl ?_
      exact h0 (fun z => by first | exact absurd ((e _ (by decide)).mp q3) (by omega) | exact absurd ((e2 _ (by decide)).mp q9) (by omega) | exact absurd ((e2 _ (by decide)).mp (Int32.not_le.mp q9)) (by omega))
    · refine jq_iconst (nI 1) 13 dX8_isDigit_12 rfl rfl ?_
      refine jq_goto 17 dX8_isDigit_13 rfl ?_
      refine jq_ireturn dX8_isDigit_17 rfl rfl ?_
      exact h1 ⟨Nat.le_of_not_lt (fun z => q3 ((e _ (by decide)).mpr z)), Nat.le_of_not_lt (fun z => q9 ((e2 _ (by decide)).mpr z))⟩
theorem wq_signOf {G : jq_G} {d : Nat} {σ : jr_Sg} {k : Value → jr_Sg → Prop} {x : Nat} (hx : x ≤ 255) (h : k (.int (tk (lx_sg x))) σ) : jq_M G d mi_X8_signOf [.int (nI x)] σ (jr_k k) := by
  by_cases hr : 40 ≤ x ∧ x ≤ 61
  · obtain ⟨y, rfl⟩ : ∃ y, x = 40 + y := ⟨x - 40, by omega⟩
    rcases (by omega : y = 0 ∨ y = 1 ∨ y = 2 ∨ y = 3 ∨ y = 4 ∨ y = 5 ∨ y = 6 ∨ y = 7 ∨ y = 8 ∨ y = 9 ∨ y = 10 ∨ y = 11 ∨ y = 12 ∨ y = 13 ∨ y = 14 ∨ y = 15 ∨ y = 16 ∨ y = 17 ∨ y = 18 ∨ y = 19 ∨ y = 20 ∨ y = 21) with rfl | rfl | rfl | rfl | rfl | rfl | rfl | rfl | rfl | rfl | rfl | rfl | rfl | rfl | rfl | rfl | rfl | rfl | rfl | rfl | rfl | rfl
    · refine jq_enter (L := [some (.int (nI (40 + 0)))]) (by decide) (Nat.le_of_ble_eq_true rfl) rfl ?_
      refine jq_iload_n 0 1 dX8_signOf_0 rfl rfl rfl ?_
      refine jq_tableIn (off := 103) 104 dX8_signOf_1 (by decide) (by decide) (by decide) rfl ?_
      refine jq_bipush ((-20)) 106 dX8_signOf_104 rfl rfl ?_
      refine jq_ireturn dX8_signOf_106 rfl rfl ?_
      exact h
    · refine jq_enter (L := [some (.int (nI (40 + 1)))]) (by decide) (Nat.le_of_ble_eq_true rfl) rfl ?_
      refine jq_iload_n 0 1 dX8_signOf_0 rfl rfl rfl ?_
      refine jq_tableIn (off := 106) 107 dX8_signOf_1 (by decide) (by decide) (by decide) rfl ?_
      refine jq_bipush ((-21)) 109 dX8_signOf_107 rfl rfl ?_
      refine jq_ireturn dX8_signOf_109 rfl rfl ?_
      exact h
    · refine jq_enter (L := [some (.int (nI (40 + 2)))]) (by decide) (Nat.le_of_ble_eq_true rfl) rfl ?_
      refine jq_iload_n 0 1 dX8_signOf_0 rfl rfl rfl ?_
      refine jq_tableIn (off := 118) 119 dX8_signOf_1 (by decide) (by decide) (by decide) rfl ?_
      refine jq_bipush ((-17)) 121 dX8_signOf_119 rfl rfl ?_
      refine jq_ireturn dX8_signOf_121 rfl rfl ?_
      exact h
    · refine jq_enter (L := [some (.int (nI (40 + 3)))]) (by decide) (Nat.le_of_ble_eq_true rfl) rfl ?_
      refine jq_iload_n 0 1 dX8_signOf_0 rfl rfl rfl ?_
      refine jq_tableIn (off := 112) 113 dX8_signOf_1 (by decide) (by decide) (by decide) rfl ?_
      refine jq_bipush ((-15)) 115 dX8_signOf_113 rfl rfl ?_
      refine jq_ireturn dX8_signOf_115 rfl rfl ?_
      exact h
    · refine jq_enter (L := [some (.int (nI (40 + 4)))]) (by decide) (Nat.le_of_ble_eq_true rfl) rfl ?_
      refine jq_iload_n 0 1 dX8_signOf_0 rfl rfl rfl ?_
      refine jq_tableIn (off := 127) 128 dX8_signOf_1 (by decide) (by decide) (by decide) rfl ?_
      refine jq_bipush ((-24)) 130 dX8_signOf_128 rfl rfl ?_
      refine jq_ireturn dX8_signOf_130 rfl rfl ?_
      exact h
    · refine jq_enter (L := [some (.int (nI (40 + 5)))]) (by decide) (Nat.le_of_ble_eq_true rfl) rfl ?_
      refine jq_iload_n 0 1 dX8_signOf_0 rfl rfl rfl ?_
      refine jq_tableIn (off := 115) 116 dX8_signOf_1 (by decide) (by decide) (by decide) rfl ?_
      refine jq_bipush ((-16)) 118 dX8_signOf_116 rfl rfl ?_
      refine jq_ireturn dX8_signOf_118 rfl rfl ?_
      exact h
    · refine jq_enter (L := [some (.int (nI (40 + 6)))]) (by decide) (Nat.le_of_ble_eq_true rfl) rfl ?_
      refine jq_iload_n 0 1 dX8_signOf_0 rfl rfl rfl ?_
      refine jq_tableIn (off := 127) 128 dX8_signOf_1 (by decide) (by decide) (by decide) rfl ?_
      refine jq_bipush ((-24)) 130 dX8_signOf_128 rfl rfl ?_
      refine jq_ireturn dX8_signOf_130 rfl rfl ?_
      exact h
    · refine jq_enter (L := [some (.int (nI (40 + 7)))]) (by decide) (Nat.le_of_ble_eq_true rfl) rfl ?_
      refine jq_iload_n 0 1 dX8_signOf_0 rfl rfl rfl ?_
      refine jq_tableIn (off := 127) 128 dX8_signOf_1 (by decide) (by decide) (by decide) rfl ?_
      refine jq_bipush ((-24)) 130 dX8_signOf_128 rfl rfl ?_
      refine jq_ireturn dX8_signOf_130 rfl rfl ?_
      exact h
    · refine jq_enter (L := [some (.int (nI (40 + 8)))]) (by decide) (Nat.le_of_ble_eq_true rfl) rfl ?_
      refine jq_iload_n 0 1 dX8_signOf_0 rfl rfl rfl ?_
      refine jq_tableIn (off := 127) 128 dX8_signOf_1 (by decide) (by decide) (by decide) rfl ?_
      refine jq_bipush ((-24)) 130 dX8_signOf_128 rfl rfl ?_
      refine jq_ireturn dX8_signOf_130 rfl rfl ?_
      exact h
    · refine jq_enter (L := [some (.int (nI (40 + 9)))]) (by decide) (Nat.le_of_ble_eq_true rfl) rfl ?_
      refine jq_iload_n 0 1 dX8_signOf_0 rfl rfl rfl ?_
      refine jq_tableIn (off := 127) 128 dX8_signOf_1 (by decide) (by decide) (by decide) rfl ?_
      refine jq_bipush ((-24)) 130 dX8_signOf_128 rfl rfl ?_
      refine jq_ireturn dX8_signOf_130 rfl rfl ?_
      exact h
    · refine jq_enter (L := [some (.int (nI (40 + 10)))]) (by decide) (Nat.le_of_ble_eq_true rfl) rfl ?_
      refine jq_iload_n 0 1 dX8_signOf_0 rfl rfl rfl ?_
      refine jq_tableIn (off := 127) 128 dX8_signOf_1 (by decide) (by decide) (by decide) rfl ?_
      refine jq_bipush ((-24)) 130 dX8_signOf_128 rfl rfl ?_
      refine jq_ireturn dX8_signOf_130 rfl rfl ?_
      exact h
    · refine jq_enter (L := [some (.int (nI (40 + 11)))]) (by decide) (Nat.le_of_ble_eq_true rfl) rfl ?_
      refine jq_iload_n 0 1 dX8_signOf_0 rfl rfl rfl ?_
      refine jq_tableIn (off := 127) 128 dX8_signOf_1 (by decide) (by decide) (by decide) rfl ?_
      refine jq_bipush ((-24)) 130 dX8_signOf_128 rfl rfl ?_
      refine jq_ireturn dX8_signOf_130 rfl rfl ?_
      exact h
    · refine jq_enter (L := [some (.int (nI (40 + 12)))]) (by decide) (Nat.le_of_ble_eq_true rfl) rfl ?_
      refine jq_iload_n 0 1 dX8_signOf_0 rfl rfl rfl ?_
      refine jq_tableIn (off := 127) 128 dX8_signOf_1 (by decide) (by decide) (by decide) rfl ?_
      refine jq_bipush ((-24)) 130 dX8_signOf_128 rfl rfl ?_
      refine jq_ireturn dX8_signOf_130 rfl rfl ?_
      exact h
    · refine jq_enter (L := [some (.int (nI (40 + 13)))]) (by decide) (Nat.le_of_ble_eq_true rfl) rfl ?_
      refine jq_iload_n 0 1 dX8_signOf_0 rfl rfl rfl ?_
      refine jq_tableIn (off := 127) 128 dX8_signOf_1 (by decide) (by decide) (by decide) rfl ?_
      refine jq_bipush ((-24)) 130 dX8_signOf_128 rfl rfl ?_
      refine jq_ireturn dX8_signOf_130 rfl rfl ?_
      exact h
    · refine jq_enter (L := [some (.int (nI (40 + 14)))]) (by decide) (Nat.le_of_ble_eq_true rfl) rfl ?_
      refine jq_iload_n 0 1 dX8_signOf_0 rfl rfl rfl ?_
      refine jq_tableIn (off := 127) 128 dX8_signOf_1 (by decide) (by decide) (by decide) rfl ?_
      refine jq_bipush ((-24)) 130 dX8_signOf_128 rfl rfl ?_
      refine jq_ireturn dX8_signOf_130 rfl rfl ?_
      exact h
    · refine jq_enter (L := [some (.int (nI (40 + 15)))]) (by decide) (Nat.le_of_ble_eq_true rfl) rfl ?_
      refine jq_iload_n 0 1 dX8_signOf_0 rfl rfl rfl ?_
      refine jq_tableIn (off := 127) 128 dX8_signOf_1 (by decide) (by decide) (by decide) rfl ?_
      refine jq_bipush ((-24)) 130 dX8_signOf_128 rfl rfl ?_
      refine jq_ireturn dX8_signOf_130 rfl rfl ?_
      exact h
    · refine jq_enter (L := [some (.int (nI (40 + 16)))]) (by decide) (Nat.le_of_ble_eq_true rfl) rfl ?_
      refine jq_iload_n 0 1 dX8_signOf_0 rfl rfl rfl ?_
      refine jq_tableIn (off := 127) 128 dX8_signOf_1 (by decide) (by decide) (by decide) rfl ?_
      refine jq_bipush ((-24)) 130 dX8_signOf_128 rfl rfl ?_
      refine jq_ireturn dX8_signOf_130 rfl rfl ?_
      exact h
    · refine jq_enter (L := [some (.int (nI (40 + 17)))]) (by decide) (Nat.le_of_ble_eq_true rfl) rfl ?_
      refine jq_iload_n 0 1 dX8_signOf_0 rfl rfl rfl ?_
      refine jq_tableIn (off := 127) 128 dX8_signOf_1 (by decide) (by decide) (by decide) rfl ?_
      refine jq_bipush ((-24)) 130 dX8_signOf_128 rfl rfl ?_
      refine jq_ireturn dX8_signOf_130 rfl rfl ?_
      exact h
    · refine jq_enter (L := [some (.int (nI (40 + 18)))]) (by decide) (Nat.le_of_ble_eq_true rfl) rfl ?_
      refine jq_iload_n 0 1 dX8_signOf_0 rfl rfl rfl ?_
      refine jq_tableIn (off := 127) 128 dX8_signOf_1 (by decide) (by decide) (by decide) rfl ?_
      refine jq_bipush ((-24)) 130 dX8_signOf_128 rfl rfl ?_
      refine jq_ireturn dX8_signOf_130 rfl rfl ?_
      exact h
    · refine jq_enter (L := [some (.int (nI (40 + 19)))]) (by decide) (Nat.le_of_ble_eq_true rfl) rfl ?_
      refine jq_iload_n 0 1 dX8_signOf_0 rfl rfl rfl ?_
      refine jq_tableIn (off := 109) 110 dX8_signOf_1 (by decide) (by decide) (by decide) rfl ?_
      refine jq_bipush ((-22)) 112 dX8_signOf_110 rfl rfl ?_
      refine jq_ireturn dX8_signOf_112 rfl rfl ?_
      exact h
    · refine jq_enter (L := [some (.int (nI (40 + 20)))]) (by decide) (Nat.le_of_ble_eq_true rfl) rfl ?_
      refine jq_iload_n 0 1 dX8_signOf_0 rfl rfl rfl ?_
      refine jq_tableIn (off := 121) 122 dX8_signOf_1 (by decide) (by decide) (by decide) rfl ?_
      refine jq_bipush ((-13)) 124 dX8_signOf_122 rfl rfl ?_
      refine jq_ireturn dX8_signOf_124 rfl rfl ?_
      exact h
    · refine jq_enter (L := [some (.int (nI (40 + 21)))]) (by decide) (Nat.le_of_ble_eq_true rfl) rfl ?_
      refine jq_iload_n 0 1 dX8_signOf_0 rfl rfl rfl ?_
      refine jq_tableIn (off := 124) 125 dX8_signOf_1 (by decide) (by decide) (by decide) rfl ?_
      refine jq_bipush ((-14)) 127 dX8_signOf_125 rfl rfl ?_
      refine jq_ireturn dX8_signOf_127 rfl rfl ?_
      exact h
  · refine jq_enter (L := [some (.int (nI x))]) (by decide) (Nat.le_of_ble_eq_true rfl) rfl ?_
    refine jq_iload_n 0 1 dX8_signOf_0 rfl rfl rfl ?_
    refine jq_tableOut 128 dX8_signOf_1 (by rw [nI_toInt (by omega)]; omega) rfl ?_
    refine jq_bipush ((-24)) 130 dX8_signOf_128 rfl rfl ?_
    refine jq_ireturn dX8_signOf_130 rfl rfl ?_
    rw [show lx_sg x = 24 by
      unfold lx_sg
      split <;> first | rfl | omega] at h
    exact h
theorem wq_byteAt {G : jq_G} {d : Nat} {σ : jr_Sg} {k : Value → jr_Sg → Prop} {b : Nat → Nat} {tp q : Nat} (ht : tC b tp σ) (hq : q < tp) (h : k (.int (nI (b q))) σ) : jq_M G d mi_X2_byteAt [.ref 5, .int (nI q)] σ (jr_k k) := by
  have h160 := ht.2.1
  refine jq_enter (L := [some (.ref 5), some (.int (nI q))]) (by decide) (Nat.le_of_ble_eq_true rfl) rfl ?_
  refine jq_iload_n 1 1 dX2_byteAt_0 rfl rfl rfl ?_
  refine jq_if_lt 28 4 dX2_byteAt_1 rfl rfl (fun z => absurd z (nI_pos (by omega))) (fun q1 => ?_)
  refine jq_iload_n 1 5 dX2_byteAt_4 rfl rfl rfl ?_
  refine jq_aload_n 0 6 dX2_byteAt_5 rfl rfl rfl ?_
  refine qf_X2_15 9 dX2_byteAt_6 rfl rfl rfl rfl ?_
  refine jq_topi (y := nI tp) ht.1 ?_
  refine jq_icmp_ge 28 12 dX2_byteAt_9 rfl rfl (fun z => absurd z (nI_ge hq (by omega))) (fun q9 => ?_)
  refine jq_iload_n 1 13 dX2_byteAt_12 rfl rfl rfl ?_
  refine jq_sipush (nI 160) 16 dX2_byteAt_13 rfl rfl ?_
  refine jq_icmp_ge 28 19 dX2_byteAt_16 rfl rfl (fun z => absurd z (nI_ge (b := 160) (by omega) (by omega))) (fun q16 => ?_)
  refine jq_aload_n 0 20 dX2_byteAt_19 rfl rfl rfl ?_
  refine qf_X2_9 23 dX2_byteAt_20 rfl rfl rfl rfl ?_
  refine jq_iload_n 1 24 dX2_byteAt_23 rfl rfl rfl ?_
  refine jq_iald rfl rfl (by omega) 25 dX2_byteAt_24 rfl ?_
  refine jq_goto 29 dX2_byteAt_25 rfl ?_
  refine jq_ireturn dX2_byteAt_29 rfl rfl ?_
  rw [(ht.2.2 q hq).1]
  exact h
theorem lx_u_len (b : Nat → Nat) (q e : Nat) : (lx_u b q e).length = e - q := by simp [lx_u]
theorem lx_u_at (b : Nat → Nat) (q e i : Nat) (h : i < e - q) : (lx_u b q e).getD i 0 = b (q + i) := by simp [lx_u, List.getD, h]
theorem lx_u_eq {b : Nat → Nat} {q e : Nat} {u : List Nat} (hl : e - q = u.length) (h : ∀ i, i < u.length → b (q + i) = u.getD i 0) : lx_u b q e = u := by
  apply List.ext_getElem (by rw [lx_u_len, hl])
  intro i h1 h2
  have := h i h2
  simp only [lx_u, List.getElem_map, List.getElem_range]
  rw [this]
  simp [List.getD, h2]
theorem wq_spl {G : jq_G} {d : Nat} {σ : jr_Sg} {k : Value → jr_Sg → Prop} {b : Nat → Nat} {tp q e a : Nat} (ht : tC b tp σ) (ha : a < 12) (h5 : σ 5 5 = nI q) (he : e ≤ tp) (hq : q ≤ e) (hl : e - q = (lx_W.getD a []).length) (h : ∀ z : Int32, (lx_u b q e = lx_W.getD a [] ∧ z = 1) ∨ (lx_u b q e ≠ lx_W.getD a [] ∧ z = 0) → k (.int z) σ) : ∀ n i, i + n = e - q → (∀ j, j < i → b (q + j) = (lx_W.getD a []).getD j 0) → jq_R G (d + 4) mi_X2_isSpelled (jr_k k) 20 [some (.ref 5), some (.ref (1000 + (a + 1))), some (.int (nI i))] [] σ := by
  have h160 := ht.2.1
  obtain ⟨hw1, hw2, hw3⟩ := lx_Wk ⟨a, ha⟩
  simp only at hw1 hw2 hw3
  intro n
  induction n with
  | zero =>
    intro i hi hj
    refine jq_iload_n 2 21 dX2_isSpelled_20 rfl rfl rfl ?_
    refine jq_aload_n 1 22 dX2_isSpelled_21 rfl rfl rfl ?_
    refine qs_X2_122 25 dX2_isSpelled_22 rfl rfl (by omega) (Nat.le_of_ble_eq_true rfl) (wq_length (by omega) (by omega) ?_)
    rw [hw1]
    refine jq_icmp_ge 54 28 dX2_isSpelled_25 rfl rfl (fun q25 => ?_) (fun z => absurd (nI_le (by omega) (by omega)) z)
    refine jq_iconst (nI 1) 55 dX2_isSpelled_54 rfl rfl ?_
    refine jq_ireturn dX2_isSpelled_55 rfl rfl ?_
    exact h 1 (Or.inl ⟨lx_u_eq hl (fun j hj2 => hj j (by omega)), rfl⟩)
  | succ n ih =>
    intro i hi hj
    obtain ⟨hb1, hb2⟩ := hw3 ⟨i, by omega⟩ (by show i < _; omega)
    simp only at hb1 hb2
    have hbi := (ht.2.2 (q + i) (by omega)).2
    refine jq_iload_n 2 21 dX2_isSpelled_20 rfl rfl rfl ?_
    refine jq_aload_n 1 22 dX2_isSpelled_21 rfl rfl rfl ?_
    refine qs_X2_122 25 dX2_isSpelled_22 rfl rfl (by omega) (Nat.le_of_ble_eq_true rfl) (wq_length (by omega) (by omega) ?_)
    rw [hw1]
    refine jq_icmp_ge 54 28 dX2_isSpelled_25 rfl rfl (fun z => absurd z (nI_ge (by omega) (by omega))) (fun q25 => ?_)
    refine jq_aload_n 0 29 dX2_isSpelled_28 rfl rfl rfl ?_
    refine jq_aload_n 0 30 dX2_isSpelled_29 rfl rfl rfl ?_
    refine qf_X2_27 33 dX2_isSpelled_30 rfl rfl rfl rfl ?_
    refine jq_topi (y := nI q) h5 ?_
    refine jq_iload_n 2 34 dX2_isSpelled_33 rfl rfl rfl ?_
    refine jq_iadd 35 dX2_isSpelled_34 rfl ?_
    rw [nI_add]
    refine qs_X2_93 38 dX2_isSpelled_35 rfl rfl rfl (Nat.le_of_ble_eq_true rfl) (wq_byteAt ht (by omega) ?_)
    refine jq_aload_n 1 39 dX2_isSpelled_38 rfl rfl rfl ?_
    refine jq_iload_n 2 40 dX2_isSpelled_39 rfl rfl rfl ?_
    refine qs_X2_128 43 dX2_isSpelled_40 rfl rfl (by omega) (Nat.le_of_ble_eq_true rfl) (wq_charAt (x := (lx_W.getD a []).getD i 0) (by omega) (by omega) (by omega) hb2 hb1 ?_)
    refine jq_icmp_eq 48 46 dX2_isSpelled_43 rfl rfl (fun q43 => ?_) (fun q43 => ?_)
    · refine jq_iinc (v := nI (i + 1)) (L' := [_, _, _]) 51 dX2_isSpelled_48 rfl rfl (nI_1 i) (by decide) rfl ?_
      refine jq_goto 20 dX2_isSpelled_51 rfl ?_
      refine ih (i + 1) (by omega) (fun j hj2 => ?_)
      by_cases z : j = i
      · subst z
        exact (nI_eq (by omega) (by omega)).mp q43
      · exact hj j (by omega)
    · refine jq_iconst (nI 0) 47 dX2_isSpelled_46 rfl rfl ?_
      refine jq_ireturn dX2_isSpelled_47 rfl rfl ?_
      exact h 0 (Or.inr ⟨fun z => q43 (by rw [← z, lx_u_at _ _ _ _ (by omega)]), rfl⟩)
theorem wq_isSpelled {G : jq_G} {d : Nat} {σ : jr_Sg} {k : Value → jr_Sg → Prop} {b : Nat → Nat} {tp q e a : Nat} (ht : tC b tp σ) (ha : a < 12) (h5 : σ 5 5 = nI q) (h6 : σ 5 6 = nI e) (he : e ≤ tp) (hq : q ≤ e) (h : ∀ z : Int32, (lx_u b q e = lx_W.getD a [] ∧ z = 1) ∨ (lx_u b q e ≠ lx_W.getD a [] ∧ z = 0) → k (.int z) σ) : jq_M G (d + 4) mi_X2_isSpelled [.ref 5, .ref (1000 + (a + 1))] σ (jr_k k) := by
  have h160 := ht.2.1
  obtain ⟨hw1, hw2, hw3⟩ := lx_Wk ⟨a, ha⟩
  simp only at hw1 hw2 hw3
  by_cases hl : e - q = (lx_W.getD a []).length
  · refine jq_enter (L := [some (.ref 5), some (.ref (1000 + (a + 1))), none]) (by decide) (Nat.le_of_ble_eq_true rfl) rfl ?_
    refine jq_aload_n 0 1 dX2_isSpelled_0 rfl rfl rfl ?_
    refine qf_X2_30 4 dX2_isSpelled_1 rfl rfl rfl rfl ?_
    refine jq_topi (y := nI e) h6 ?_
    refine jq_aload_n 0 5 dX2_isSpelled_4 rfl rfl rfl ?_
    refine qf_X2_27 8 dX2_isSpelled_5 rfl rfl rfl rfl ?_
    refine jq_topi (y := nI q) h5 ?_
    refine jq_isub 9 dX2_isSpelled_8 rfl ?_
    rw [pk_sub hq]
    refine jq_aload_n 1 10 dX2_isSpelled_9 rfl rfl rfl ?_
    refine qs_X2_122 13 dX2_isSpelled_10 rfl rfl (by omega) (Nat.le_of_ble_eq_true rfl) (wq_length (by omega) (by omega) ?_)
    rw [hw1]
    refine jq_icmp_eq 18 16 dX2_isSpelled_13 rfl rfl (fun q13 => ?_) (fun z => absurd (by rw [hl]) z)
    refine jq_iconst (nI 0) 19 dX2_isSpelled_18 rfl rfl ?_
    refine jq_istore_n 2 (L' := [_, _, _]) 20 dX2_isSpelled_19 rfl rfl (by decide) rfl ?_
    exact wq_spl ht ha h5 he hq hl h (e - q) 0 (Nat.zero_add _) (fun j hj => absurd hj (Nat.not_lt_zero j))
  · refine jq_enter (L := [some (.ref 5), some (.ref (1000 + (a + 1))), none]) (by decide) (Nat.le_of_ble_eq_true rfl) rfl ?_
    refine jq_aload_n 0 1 dX2_isSpelled_0 rfl rfl rfl ?_
    refine qf_X2_30 4 dX2_isSpelled_1 rfl rfl rfl rfl ?_
    refine jq_topi (y := nI e) h6 ?_
    refine jq_aload_n 0 5 dX2_isSpelled_4 rfl rfl rfl ?_
    refine qf_X2_27 8 dX2_isSpelled_5 rfl rfl rfl rfl ?_
    refine jq_topi (y := nI q) h5 ?_
    refine jq_isub 9 dX2_isSpelled_8 rfl ?_
    rw [pk_sub hq]
    refine jq_aload_n 1 10 dX2_isSpelled_9 rfl rfl rfl ?_
    refine qs_X2_122 13 dX2_isSpelled_10 rfl rfl (by omega) (Nat.le_of_ble_eq_true rfl) (wq_length (by omega) (by omega) ?_)
    rw [hw1]
    refine jq_icmp_eq 18 16 dX2_isSpelled_13 rfl rfl (fun z => absurd ((nI_eq (by omega) (by omega)).mp z) hl) (fun q13 => ?_)
    refine jq_iconst (nI 0) 17 dX2_isSpelled_16 rfl rfl ?_
    refine jq_ireturn dX2_isSpelled_17 rfl rfl ?_
    exact h 0 (Or.inr ⟨fun z => hl (by rw [← z, lx_u_len]), rfl⟩)
theorem wq_spelled {G : jq_G} {d : Nat} {σ : jr_Sg} {k : Value → jr_Sg → Prop} {a : Nat} (ha : a < 12) (h : k (.ref (1000 + (a + 1))) σ) : jq_M G d mi_X8_spelled [.int (tk (a + 1))] σ (jr_k k) := by
  rcases (by omega : a = 0 ∨ a = 1 ∨ a = 2 ∨ a = 3 ∨ a = 4 ∨ a = 5 ∨ a = 6 ∨ a = 7 ∨ a = 8 ∨ a = 9 ∨ a = 10 ∨ a = 11) with rfl | rfl | rfl | rfl | rfl | rfl | rfl | rfl | rfl | rfl | rfl | rfl
  · refine jq_enter (L := [some (.int (tk (0 + 1)))]) (by decide) (Nat.le_of_ble_eq_true rfl) rfl ?_
    refine jq_iload_n 0 1 dX8_spelled_0 rfl rfl rfl ?_
    refine jq_tableIn (off := 63) 64 dX8_spelled_1 (by decide) (by decide) (by decide) rfl ?_
    refine jq_ldcS (i := 1) (by decide) rfl 66 dX8_spelled_64 rfl ?_
    refine jq_areturn dX8_spelled_66 rfl (Or.inl ⟨_, rfl⟩) ?_
    exact h
  · refine jq_enter (L := [some (.int (tk (1 + 1)))]) (by decide) (Nat.le_of_ble_eq_true rfl) rfl ?_
    refine jq_iload_n 0 1 dX8_spelled_0 rfl rfl rfl ?_
    refine jq_tableIn (off := 66) 67 dX8_spelled_1 (by decide) (by decide) (by decide) rfl ?_
    refine jq_ldcS (i := 2) (by decide) rfl 69 dX8_spelled_67 rfl ?_
    refine jq_areturn dX8_spelled_69 rfl (Or.inl ⟨_, rfl⟩) ?_
    exact h
  · refine jq_enter (L := [some (.int (tk (2 + 1)))]) (by decide) (Nat.le_of_ble_eq_true rfl) rfl ?_
    refine jq_iload_n 0 1 dX8_spelled_0 rfl rfl rfl ?_
    refine jq_tableIn (off := 69) 70 dX8_spelled_1 (by decide) (by decide) (by decide) rfl ?_
    refine jq_ldcS (i := 3) (by decide) rfl 72 dX8_spelled_70 rfl ?_
    refine jq_areturn dX8_spelled_72 rfl (Or.inl ⟨_, rfl⟩) ?_
    exact h
  · refine jq_enter (L := [some (.int (tk (3 + 1)))]) (by decide) (Nat.le_of_ble_eq_true rfl) rfl ?_
    refine jq_iload_n 0 1 dX8_spelled_0 rfl rfl rfl ?_
    refine jq_tableIn (off := 72) 73 dX8_spelled_1 (by decide) (by decide) (by decide) rfl ?_
    refine jq_ldcS (i := 4) (by decide) rfl 75 dX8_spelled_73 rfl ?_
    refine jq_areturn dX8_spelled_75 rfl (Or.inl ⟨_, rfl⟩) ?_
    exact h
  · refine jq_enter (L := [some (.int (tk (4 + 1)))]) (by decide) (Nat.le_of_ble_eq_true rfl) rfl ?_
    refine jq_iload_n 0 1 dX8_spelled_0 rfl rfl rfl ?_
    refine jq_tableIn (off := 75) 76 dX8_spelled_1 (by decide) (by decide) (by decide) rfl ?_
    refine jq_ldcS (i := 5) (by decide) rfl 78 dX8_spelled_76 rfl ?_
    refine jq_areturn dX8_spelled_78 rfl (Or.inl ⟨_, rfl⟩) ?_
    exact h
  · refine jq_enter (L := [some (.int (tk (5 + 1)))]) (by decide) (Nat.le_of_ble_eq_true rfl) rfl ?_
    refine jq_iload_n 0 1 dX8_spelled_0 rfl rfl rfl ?_
    refine jq_tableIn (off := 78) 79 dX8_spelled_1 (by decide) (by decide) (by decide) rfl ?_
    refine jq_ldcS (i := 6) (by decide) rfl 81 dX8_spelled_79 rfl ?_
    refine jq_areturn dX8_spelled_81 rfl (Or.inl ⟨_, rfl⟩) ?_
    exact h
  · refine jq_enter (L := [some (.int (tk (6 + 1)))]) (by decide) (Nat.le_of_ble_eq_true rfl) rfl ?_
    refine jq_iload_n 0 1 dX8_spelled_0 rfl rfl rfl ?_
    refine jq_tableIn (off := 81) 82 dX8_spelled_1 (by decide) (by decide) (by decide) rfl ?_
    refine jq_ldcS (i := 7) (by decide) rfl 84 dX8_spelled_82 rfl ?_
    refine jq_areturn dX8_spelled_84 rfl (Or.inl ⟨_, rfl⟩) ?_
    exact h
  · refine jq_enter (L := [some (.int (tk (7 + 1)))]) (by decide) (Nat.le_of_ble_eq_true rfl) rfl ?_
    refine jq_iload_n 0 1 dX8_spelled_0 rfl rfl rfl ?_
    refine jq_tableIn (off := 84) 85 dX8_spelled_1 (by decide) (by decide) (by decide) rfl ?_
    refine jq_ldcS (i := 8) (by decide) rfl 87 dX8_spelled_85 rfl ?_
    refine jq_areturn dX8_spelled_87 rfl (Or.inl ⟨_, rfl⟩) ?_
    exact h
  · refine jq_enter (L := [some (.int (tk (8 + 1)))]) (by decide) (Nat.le_of_ble_eq_true rfl) rfl ?_
    refine jq_iload_n 0 1 dX8_spelled_0 rfl rfl rfl ?_
    refine jq_tableIn (off := 87) 88 dX8_spelled_1 (by decide) (by decide) (by decide) rfl ?_
    refine jq_ldcS (i := 9) (by decide) rfl 90 dX8_spelled_88 rfl ?_
    refine jq_areturn dX8_spelled_90 rfl (Or.inl ⟨_, rfl⟩) ?_
    exact h
  · refine jq_enter (L := [some (.int (tk (9 + 1)))]) (by decide) (Nat.le_of_ble_eq_true rfl) rfl ?_
    refine jq_iload_n 0 1 dX8_spelled_0 rfl rfl rfl ?_
    refine jq_tableIn (off := 90) 91 dX8_spelled_1 (by decide) (by decide) (by decide) rfl ?_
    refine jq_ldcS (i := 10) (by decide) rfl 93 dX8_spelled_91 rfl ?_
    refine jq_areturn dX8_spelled_93 rfl (Or.inl ⟨_, rfl⟩) ?_
    exact h
  · refine jq_enter (L := [some (.int (tk (10 + 1)))]) (by decide) (Nat.le_of_ble_eq_true rfl) rfl ?_
    refine jq_iload_n 0 1 dX8_spelled_0 rfl rfl rfl ?_
    refine jq_tableIn (off := 93) 94 dX8_spelled_1 (by decide) (by decide) (by decide) rfl ?_
    refine jq_ldcS (i := 11) (by decide) rfl 96 dX8_spelled_94 rfl ?_
    refine jq_areturn dX8_spelled_96 rfl (Or.inl ⟨_, rfl⟩) ?_
    exact h
  · refine jq_enter (L := [some (.int (tk (11 + 1)))]) (by decide) (Nat.le_of_ble_eq_true rfl) rfl ?_
    refine jq_iload_n 0 1 dX8_spelled_0 rfl rfl rfl ?_
    refine jq_tableIn (off := 96) 97 dX8_spelled_1 (by decide) (by decide) (by decide) rfl ?_
    refine jq_ldcS (i := 12) (by decide) rfl 99 dX8_spelled_97 rfl ?_
    refine jq_areturn dX8_spelled_99 rfl (Or.inl ⟨_, rfl⟩) ?_
    exact h
theorem wq_skip {G : jq_G} {d : Nat} {σ : jr_Sg} {k : jr_Sg → Prop} {b : Nat → Nat} {tp q : Nat} (ht : tC b tp σ) (fin : ∀ σ' : jr_Sg, fr5 [5] σ σ' → σ' 5 5 = nI (lx_e lx_bl b tp q) → jq_R G (d + 1) mi_X2_step (jr_kv k) 46 [some (.ref 5)] [] σ') : ∀ n i, i + n = tp → lx_e lx_bl b tp q = lx_e lx_bl b tp i → ∀ σ1 : jr_Sg, fr5 [5] σ σ1 → σ1 5 5 = nI i → jq_R G (d + 1) mi_X2_step (jr_kv k) 8 [some (.ref 5)] [] σ1 := by
  have h160 := ht.2.1
  intro n
  induction n with
  | zero =>
    intro i hi he σ1 hf h5
    rw [lx_e_end (p := i) (by omega)] at he
    refine jq_aload_n 0 9 dX2_step_8 rfl rfl rfl ?_
    refine qf_X2_27 12 dX2_step_9 rfl rfl rfl rfl ?_
    refine jq_topi (y := nI i) h5 ?_
    refine jq_aload_n 0 13 dX2_step_12 rfl rfl rfl ?_
    refine qf_X2_15 16 dX2_step_13 rfl rfl rfl rfl ?_
    refine jq_topi (y := nI tp) ((hf.2 2 (by decide)).trans ht.1) ?_
    refine jq_icmp_ge 46 19 dX2_step_16 rfl rfl (fun q16 => ?_) (fun z => absurd (nI_le (by omega) (by omega)) z)
    exact fin σ1 hf (by rw [he]; exact h5)
  | succ n ih =>
    intro i hi he σ1 hf h5
    have hbi := (ht.2.2 i (by omega)).2
    have ht1 := tC_fr5 ht hf (by decide)
    refine jq_aload_n 0 9 dX2_step_8 rfl rfl rfl ?_
    refine qf_X2_27 12 dX2_step_9 rfl rfl rfl rfl ?_
    refine jq_topi (y := nI i) h5 ?_
    refine jq_aload_n 0 13 dX2_step_12 rfl rfl rfl ?_
    refine qf_X2_15 16 dX2_step_13 rfl rfl rfl rfl ?_
    refine jq_topi (y := nI tp) ((hf.2 2 (by decide)).trans ht.1) ?_
    refine jq_icmp_ge 46 19 dX2_step_16 rfl rfl (fun z => absurd z (nI_ge (by omega) (by omega))) (fun q16 => ?_)
    refine jq_aload_n 0 20 dX2_step_19 rfl rfl rfl ?_
    refine jq_aload_n 0 21 dX2_step_20 rfl rfl rfl ?_
    refine qf_X2_27 24 dX2_step_21 rfl rfl rfl rfl ?_
    refine jq_topi (y := nI i) h5 ?_
    refine qs_X2_93 27 dX2_step_24 rfl rfl rfl (Nat.le_of_ble_eq_true rfl) (wq_byteAt ht1 (by omega) ?_)
    refine qs_X2_96 30 dX2_step_27 rfl rfl (Nat.le_of_ble_eq_true rfl) (wq_isBlank hbi (fun hc => ?_) (fun hc => ?_))
    · refine jq_if_eq 46 33 dX2_step_30 rfl rfl (fun q => absurd q (by decide)) (fun q30 => ?_)
      refine jq_aload_n 0 34 dX2_step_33 rfl rfl rfl ?_
      refine jq_dup 35 dX2_step_34 rfl rfl ?_
      refine qf_X2_27 38 dX2_step_35 rfl rfl rfl rfl ?_
      refine jq_topi (y := nI i) h5 ?_
      refine jq_iconst (nI 1) 39 dX2_step_38 rfl rfl ?_
      refine jq_iadd 40 dX2_step_39 rfl ?_
      rw [nI_add]
      refine qp_X2_27 43 dX2_step_40 rfl rfl rfl rfl ?_
      refine jq_goto 8 dX2_step_43 rfl ?_
      exact ih (i + 1) (by omega) (by rw [he, lx_e_go (by omega) hc]) _ (fr5_up hf (by decide)) rfl
    · refine jq_if_eq 46 33 dX2_step_30 rfl rfl (fun q30 => ?_) (fun q => absurd (by decide) q)
      exact fin σ1 hf (by rw [he, lx_e_no hc]; exact h5)
theorem wq_word {G : jq_G} {d : Nat} {σ : jr_Sg} {k : jr_Sg → Prop} {b : Nat → Nat} {tp q : Nat} (ht : tC b tp σ) (fin : ∀ σ' : jr_Sg, fr5 [6] σ σ' → σ' 5 6 = nI (lx_e lx_le b tp q) → jq_R G (d + 1) mi_X2_stepWord (jr_kv k) 38 [some (.ref 5), none] [] σ') : ∀ n i, i + n = tp → lx_e lx_le b tp q = lx_e lx_le b tp i → ∀ σ1 : jr_Sg, fr5 [6] σ σ1 → σ1 5 6 = nI i → jq_R G (d + 1) mi_X2_stepWord (jr_kv k) 0 [some (.ref 5), none] [] σ1 := by
  have h160 := ht.2.1
  intro n
  induction n with
  | zero =>
    intro i hi he σ1 hf h5
    rw [lx_e_end (p := i) (by omega)] at he
    refine jq_aload_n 0 1 dX2_stepWord_0 rfl rfl rfl ?_
    refine qf_X2_30 4 dX2_stepWord_1 rfl rfl rfl rfl ?_
    refine jq_topi (y := nI i) h5 ?_
    refine jq_aload_n 0 5 dX2_stepWord_4 rfl rfl rfl ?_
    refine qf_X2_15 8 dX2_stepWord_5 rfl rfl rfl rfl ?_
    refine jq_topi (y := nI tp) ((hf.2 2 (by decide)).trans ht.1) ?_
    refine jq_icmp_ge 38 11 dX2_stepWord_8 rfl rfl (fun q8 => ?_) (fun z => absurd (nI_le (by omega) (by omega)) z)
    exact fin σ1 hf (by rw [he]; exact h5)
  | succ n ih =>
    intro i hi he σ1 hf h5
    have hbi := (ht.2.2 i (by omega)).2
    have ht1 := tC_fr5 ht hf (by decide)
    refine jq_aload_n 0 1 dX2_stepWord_0 rfl rfl rfl ?_
    refine qf_X2_30 4 dX2_stepWord_1 rfl rfl rfl rfl ?_
    refine jq_topi (y := nI i) h5 ?_
    refine jq_aload_n 0 5 dX2_stepWord_4 rfl rfl rfl ?_
    refine qf_X2_15 8 dX2_stepWord_5 rfl rfl rfl rfl ?_
    refine jq_topi (y := nI tp) ((hf.2 2 (by decide)).trans ht.1) ?_
    refine jq_icmp_ge 38 11 dX2_stepWord_8 rfl rfl (fun z => absurd z (nI_ge (by omega) (by omega))) (fun q8 => ?_)
    refine jq_aload_n 0 12 dX2_stepWord_11 rfl rfl rfl ?_
    refine jq_aload_n 0 13 dX2_stepWord_12 rfl rfl rfl ?_
    refine qf_X2_30 16 dX2_stepWord_13 rfl rfl rfl rfl ?_
    refine jq_topi (y := nI i) h5 ?_
    refine qs_X2_93 19 dX2_stepWord_16 rfl rfl rfl (Nat.le_of_ble_eq_true rfl) (wq_byteAt ht1 (by omega) ?_)
    refine qs_X2_99 22 dX2_stepWord_19 rfl rfl (Nat.le_of_ble_eq_true rfl) (wq_isLetter hbi (fun hc => ?_) (fun hc => ?_))
    · refine jq_if_eq 38 25 dX2_stepWord_22 rfl rfl (fun q => absurd q (by decide)) (fun q22 => ?_)
      refine jq_aload_n 0 26 dX2_stepWord_25 rfl rfl rfl ?_
      refine jq_dup 27 dX2_stepWord_26 rfl rfl ?_
      refine qf_X2_30 30 dX2_stepWord_27 rfl rfl rfl rfl ?_
      refine jq_topi (y := nI i) h5 ?_
      refine jq_iconst (nI 1) 31 dX2_stepWord_30 rfl rfl ?_
      refine jq_iadd 32 dX2_stepWord_31 rfl ?_
      rw [nI_add]
      refine qp_X2_30 35 dX2_stepWord_32 rfl rfl rfl rfl ?_
      refine jq_goto 0 dX2_stepWord_35 rfl ?_
      exact ih (i + 1) (by omega) (by rw [he, lx_e_go (by omega) hc]) _ (fr5_up hf (by decide)) rfl
    · refine jq_if_eq 38 25 dX2_stepWord_22 rfl rfl (fun q22 => ?_) (fun q => absurd (by decide) q)
      exact fin σ1 hf (by rw [he, lx_e_no hc]; exact h5)
theorem wq_find {G : jq_G} {d : Nat} {σ : jr_Sg} {k : jr_Sg → Prop} {b : Nat → Nat} {tp q e : Nat} (ht : tC b tp σ) (h5 : σ 5 5 = nI q) (h6 : σ 5 6 = nI e) (he : e ≤ tp) (hq : q ≤ e) (fin : ∀ σ' : jr_Sg, fr5 [3] σ σ' → σ' 5 3 = tk (lx_wl (lx_u b q e) 12) → k σ') : ∀ n i, i + n = 12 → ∀ σ1 : jr_Sg, fr5 [3] σ σ1 → σ1 5 3 = tk (lx_wl (lx_u b q e) i) → jq_R G (d + 5) mi_X2_stepWord (jr_kv k) 46 [some (.ref 5), some (.int (tk (i + 1)))] [] σ1 := by
  have h160 := ht.2.1
  have kl : ∀ x : Fin 13, tk (x.val + 1) + -1 = tk (x.val + 1 + 1) ∧ (x.val < 12 → ¬ tk (x.val + 1) < -12) ∧ tk 13 < -12 := by decide +kernel
  intro n
  induction n with
  | zero =>
    intro i hi σ1 hf h3
    have e12 : i = 12 := hi
    subst e12
    refine jq_iload_n 1 47 dX2_stepWord_46 rfl rfl rfl ?_
    refine jq_bipush ((-12)) 49 dX2_stepWord_47 rfl rfl ?_
    refine jq_icmp_lt 74 52 dX2_stepWord_49 rfl rfl (fun q49 => ?_) (fun z => absurd (kl ⟨0, by decide⟩).2.2 z)
    refine jq_return dX2_stepWord_74 rfl ?_
    exact fin σ1 hf h3
  | succ n ih =>
    intro i hi σ1 hf h3
    have hl := lx_wl_le (lx_u b q e) i (by omega)
    have ht1 := tC_fr5 ht hf (by decide)
    have g5 : σ1 5 5 = nI q := (hf.2 5 (by decide)).trans h5
    have g6 : σ1 5 6 = nI e := (hf.2 6 (by decide)).trans h6
    refine jq_iload_n 1 47 dX2_stepWord_46 rfl rfl rfl ?_
    refine jq_bipush ((-12)) 49 dX2_stepWord_47 rfl rfl ?_
    refine jq_icmp_lt 74 52 dX2_stepWord_49 rfl rfl (fun z => absurd z ((kl ⟨i, by omega⟩).2.1 (by show i < 12; omega))) (fun q49 => ?_)
    refine jq_aload_n 0 53 dX2_stepWord_52 rfl rfl rfl ?_
    refine jq_iload_n 1 54 dX2_stepWord_53 rfl rfl rfl ?_
    refine qs_X2_114 57 dX2_stepWord_54 rfl rfl (Nat.le_of_ble_eq_true rfl) (wq_spelled (by omega) ?_)
    refine qs_X2_118 60 dX2_stepWord_57 rfl rfl rfl (Nat.le_of_ble_eq_true rfl) (wq_isSpelled ht1 (by omega) g5 g6 he hq (fun z hz => ?_))
    refine jq_if_eq 68 63 dX2_stepWord_60 rfl rfl (fun q60 => ?_) (fun q60 => ?_)
    · refine jq_iinc (v := tk (i + 1 + 1)) (L' := [_, _]) 71 dX2_stepWord_68 rfl rfl ((kl ⟨i, by omega⟩).1) (by decide) rfl ?_
      refine jq_goto 46 dX2_stepWord_71 rfl ?_
      first
        | exact ih (i + 1) (by omega) σ1 hf (by rw [lx_wl, if_neg (fun z2 => hz.elim (fun z3 => absurd (z3.2.symm.trans q60) (by decide)) (fun z3 => z3.1 z2))]; exact h3)
        | exact ih (i + 1) (by omega) _ (fr5_up hf (by decide)) (by rw [lx_wl, if_pos (hz.elim (fun z3 => z3.1) (fun z3 => absurd z3.2 q60))]; rfl)
    · refine jq_aload_n 0 64 dX2_stepWord_63 rfl rfl rfl ?_
      refine jq_iload_n 1 65 dX2_stepWord_64 rfl rfl rfl ?_
      refine qp_X2_21 68 dX2_stepWord_65 rfl rfl rfl rfl ?_
      refine jq_iinc (v := tk (i + 1 + 1)) (L' := [_, _]) 71 dX2_stepWord_68 rfl rfl ((kl ⟨i, by omega⟩).1) (by decide) rfl ?_
      refine jq_goto 46 dX2_stepWord_71 rfl ?_
      first
        | exact ih (i + 1) (by omega) σ1 hf (by rw [lx_wl, if_neg (fun z2 => hz.elim (fun z3 => absurd (z3.2.symm.trans q60) (by decide)) (fun z3 => z3.1 z2))]; exact h3)
        | exact ih (i + 1) (by omega) _ (fr5_up hf (by decide)) (by rw [lx_wl, if_pos (hz.elim (fun z3 => z3.1) (fun z3 => absurd z3.2 q60))]; rfl)
theorem wq_stepWord {G : jq_G} {d : Nat} {σ : jr_Sg} {k : jr_Sg → Prop} {b : Nat → Nat} {tp q : Nat} (ht : tC b tp σ) (hq : q ≤ tp) (h5 : σ 5 5 = nI q) (h6 : σ 5 6 = nI q) (fin : ∀ σ' : jr_Sg, fr5 [3, 6] σ σ' → σ' 5 3 = tk (lx_wl (lx_u b q (lx_e lx_le b tp q)) 12) → σ' 5 6 = nI (lx_e lx_le b tp q) → k σ') : jq_M G (d + 5) mi_X2_stepWord [.ref 5] σ (jr_kv k) := by
  refine jq_enter (L := [some (.ref 5), none]) (by decide) (Nat.le_of_ble_eq_true rfl) rfl ?_
  refine wq_word ht (fun σ1 f1 e1 => ?_) (tp - q) q (by omega) rfl σ (fr5_rf _ _) h6
  have ht1 := tC_fr5 ht f1 (by decide)
  refine jq_aload_n 0 39 dX2_stepWord_38 rfl rfl rfl ?_
  refine jq_bipush ((-24)) 41 dX2_stepWord_39 rfl rfl ?_
  refine qp_X2_21 44 dX2_stepWord_41 rfl rfl rfl rfl ?_
  refine jq_iconst ((-1)) 45 dX2_stepWord_44 rfl rfl ?_
  refine jq_istore_n 1 (L' := [_, _]) 46 dX2_stepWord_45 rfl rfl (by decide) rfl ?_
  refine wq_find (σ := jr_up σ1 5 3 (-24)) (b := b) (tp := tp) (q := q) (e := lx_e lx_le b tp q) (tC_fr5 ht1 (fr5_up (F := [3]) (fr5_rf _ _) (by decide)) (by decide)) ((f1.2 5 (by decide)).trans h5) e1 (lx_e_le hq) lx_e_ge (fun σ2 f2 e2 => ?_) 12 0 rfl _ (fr5_rf _ _) rfl
  exact fin σ2 (fr5_tr (fr5_w f1 (by decide)) (fr5_tr (fr5_up (fr5_rf _ _) (by decide)) (fr5_w f2 (by decide)))) e2 ((f2.2 6 (by decide)).trans e1)
theorem lx_dig {b : Nat → Nat} {q n : Nat} (hx : lx_di (b (q + n)) = true) : nI 10 * nI (lx_nv b q n) + nI (b (q + n)) - nI 48 = nI (lx_nv b q (n + 1)) := by
  unfold lx_di at hx
  simp only [decide_eq_true_eq] at hx
  rw [pk_mul, nI_add, pk_sub (by omega), lx_nv]
  congr 1
  omega
theorem wq_digs {G : jq_G} {d : Nat} {σ : jr_Sg} {k : jr_Sg → Prop} {b : Nat → Nat} {tp q : Nat} (ht : tC b tp σ) (fin : ∀ σ' : jr_Sg, fr5 [4, 6] σ σ' → σ' 5 6 = nI (lx_e lx_di b tp q) → σ' 5 4 = nI (lx_nv b q (lx_e lx_di b tp q - q)) → jq_R G (d + 1) mi_X2_stepNumber (jr_kv k) 66 [some (.ref 5)] [] σ') : ∀ n i, q + i + n = tp → lx_e lx_di b tp q = lx_e lx_di b tp (q + i) → ∀ σ1 : jr_Sg, fr5 [4, 6] σ σ1 → σ1 5 6 = nI (q + i) → σ1 5 4 = nI (lx_nv b q i) → jq_R G (d + 1) mi_X2_stepNumber (jr_kv k) 5 [some (.ref 5)] [] σ1 := by
  have h160 := ht.2.1
  intro n
  induction n with
  | zero =>
    intro i hi he σ1 hf h5 h4
    rw [lx_e_end (p := q + i) (by omega)] at he
    refine jq_aload_n 0 6 dX2_stepNumber_5 rfl rfl rfl ?_
    refine qf_X2_30 9 dX2_stepNumber_6 rfl rfl rfl rfl ?_
    refine jq_topi (y := nI (q + i)) h5 ?_
    refine jq_aload_n 0 10 dX2_stepNumber_9 rfl rfl rfl ?_
    refine qf_X2_15 13 dX2_stepNumber_10 rfl rfl rfl rfl ?_
    refine jq_topi (y := nI tp) ((hf.2 2 (by decide)).trans ht.1) ?_
    refine jq_icmp_ge 66 16 dX2_stepNumber_13 rfl rfl (fun q13 => ?_) (fun z => absurd (nI_le (by omega) (by omega)) z)
    exact fin σ1 hf (by rw [he]; exact h5) (by rw [he, Nat.add_sub_cancel_left]; exact h4)
  | succ n ih =>
    intro i hi he σ1 hf h5 h4
    have hbi := (ht.2.2 (q + i) (by omega)).2
    have ht1 := tC_fr5 ht hf (by decide)
    have ht2 : ∀ v : Int32, tC b tp (jr_up σ1 5 4 v) := fun v => tC_fr5 ht1 (fr5_up (F := [4]) (fr5_rf _ _) (by decide)) (by decide)
    refine jq_aload_n 0 6 dX2_stepNumber_5 rfl rfl rfl ?_
    refine qf_X2_30 9 dX2_stepNumber_6 rfl rfl rfl rfl ?_
    refine jq_topi (y := nI (q + i)) h5 ?_
    refine jq_aload_n 0 10 dX2_stepNumber_9 rfl rfl rfl ?_
    refine qf_X2_15 13 dX2_stepNumber_10 rfl rfl rfl rfl ?_
    refine jq_topi (y := nI tp) ((hf.2 2 (by decide)).trans ht.1) ?_
    refine jq_icmp_ge 66 16 dX2_stepNumber_13 rfl rfl (fun z => absurd z (nI_ge (by omega) (by omega))) (fun q13 => ?_)
    refine jq_aload_n 0 17 dX2_stepNumber_16 rfl rfl rfl ?_
    refine jq_aload_n 0 18 dX2_stepNumber_17 rfl rfl rfl ?_
    refine qf_X2_30 21 dX2_stepNumber_18 rfl rfl rfl rfl ?_
    refine jq_topi (y := nI (q + i)) h5 ?_
    refine qs_X2_93 24 dX2_stepNumber_21 rfl rfl rfl (Nat.le_of_ble_eq_true rfl) (wq_byteAt ht1 (by omega) ?_)
    refine qs_X2_105 27 dX2_stepNumber_24 rfl rfl (Nat.le_of_ble_eq_true rfl) (wq_isDigit hbi (fun hc => ?_) (fun hc => ?_))
    · refine jq_if_eq 66 30 dX2_stepNumber_27 rfl rfl (fun q => absurd q (by decide)) (fun q27 => ?_)
      refine jq_aload_n 0 31 dX2_stepNumber_30 rfl rfl rfl ?_
      refine jq_bipush (nI 10) 33 dX2_stepNumber_31 rfl rfl ?_
      refine jq_aload_n 0 34 dX2_stepNumber_33 rfl rfl rfl ?_
      refine qf_X2_24 37 dX2_stepNumber_34 rfl rfl rfl rfl ?_
      refine jq_topi (y := nI (lx_nv b q i)) h4 ?_
      refine jq_imul 38 dX2_stepNumber_37 rfl ?_
      refine jq_aload_n 0 39 dX2_stepNumber_38 rfl rfl rfl ?_
      refine jq_aload_n 0 40 dX2_stepNumber_39 rfl rfl rfl ?_
      refine qf_X2_30 43 dX2_stepNumber_40 rfl rfl rfl rfl ?_
      refine jq_topi (y := nI (q + i)) h5 ?_
      refine qs_X2_93 46 dX2_stepNumber_43 rfl rfl rfl (Nat.le_of_ble_eq_true rfl) (wq_byteAt ht1 (by omega) ?_)
      refine jq_iadd 47 dX2_stepNumber_46 rfl ?_
      refine jq_bipush (nI 48) 49 dX2_stepNumber_47 rfl rfl ?_
      refine jq_isub 50 dX2_stepNumber_49 rfl ?_
      rw [lx_dig hc]
      refine qp_X2_24 53 dX2_stepNumber_50 rfl rfl rfl rfl ?_
      refine jq_aload_n 0 54 dX2_stepNumber_53 rfl rfl rfl ?_
      refine jq_dup 55 dX2_stepNumber_54 rfl rfl ?_
      refine qf_X2_30 58 dX2_stepNumber_55 rfl rfl rfl rfl ?_
      refine jq_topi (y := nI (q + i)) h5 ?_
      refine jq_iconst (nI 1) 59 dX2_stepNumber_58 rfl rfl ?_
      refine jq_iadd 60 dX2_stepNumber_59 rfl ?_
      rw [nI_add]
      refine qp_X2_30 63 dX2_stepNumber_60 rfl rfl rfl rfl ?_
      refine jq_goto 5 dX2_stepNumber_63 rfl ?_
      exact ih (i + 1) (by omega) (by rw [he, lx_e_go (by omega) hc, Nat.add_assoc]) _ (fr5_up (fr5_up hf (by decide)) (by decide)) rfl rfl
    · refine jq_if_eq 66 30 dX2_stepNumber_27 rfl rfl (fun q27 => ?_) (fun q => absurd (by decide) q)
      exact fin σ1 hf (by rw [he, lx_e_no hc]; exact h5) (by rw [he, lx_e_no hc, Nat.add_sub_cancel_left]; exact h4)
theorem wq_stepNumber {G : jq_G} {d : Nat} {σ : jr_Sg} {k : jr_Sg → Prop} {b : Nat → Nat} {tp q : Nat} (ht : tC b tp σ) (hq : q ≤ tp) (h5 : σ 5 5 = nI q) (h6 : σ 5 6 = nI q) (fin : ∀ σ' : jr_Sg, fr5 [3, 4, 6] σ σ' → σ' 5 3 = tk (if 4 < lx_e lx_di b tp q - q then 24 else 19) → σ' 5 4 = nI (lx_nv b q (lx_e lx_di b tp q - q)) → σ' 5 6 = nI (lx_e lx_di b tp q) → k σ') : jq_M G (d + 1) mi_X2_stepNumber [.ref 5] σ (jr_kv k) := by
  have h160 := ht.2.1
  refine jq_enter (L := [some (.ref 5)]) (by decide) (Nat.le_of_ble_eq_true rfl) rfl ?_
  refine jq_aload_n 0 1 dX2_stepNumber_0 rfl rfl rfl ?_
  refine jq_iconst (nI 0) 2 dX2_stepNumber_1 rfl rfl ?_
  refine qp_X2_24 5 dX2_stepNumber_2 rfl rfl rfl rfl ?_
  refine wq_digs (b := b) (tp := tp) (q := q) (tC_fr5 ht (fr5_up (F := [4]) (fr5_rf _ _) (by decide)) (by decide)) (fun σ1 f1 e1 e2 => ?_) (tp - q) 0 (by omega) rfl _ (fr5_rf _ _) h6 rfl
  refine jq_aload_n 0 67 dX2_stepNumber_66 rfl rfl rfl ?_
  refine jq_aload_n 0 68 dX2_stepNumber_67 rfl rfl rfl ?_
  refine qf_X2_30 71 dX2_stepNumber_68 rfl rfl rfl rfl ?_
  refine jq_topi (y := nI (lx_e lx_di b tp q)) e1 ?_
  refine jq_aload_n 0 72 dX2_stepNumber_71 rfl rfl rfl ?_
  refine qf_X2_27 75 dX2_stepNumber_72 rfl rfl rfl rfl ?_
  refine jq_topi (y := nI q) ((f1.2 5 (by decide)).trans h5) ?_
  refine jq_isub 76 dX2_stepNumber_75 rfl ?_
  rw [pk_sub lx_e_ge]
  refine jq_iconst (nI 4) 77 dX2_stepNumber_76 rfl rfl ?_
  refine jq_icmp_le 85 80 dX2_stepNumber_77 rfl rfl (fun q77 => ?_) (fun q77 => ?_)
  · refine jq_bipush ((-19)) 87 dX2_stepNumber_85 rfl rfl ?_
    refine qp_X2_21 90 dX2_stepNumber_87 rfl rfl rfl rfl ?_
    refine jq_return dX2_stepNumber_90 rfl ?_
    exact fin _ (fr5_up (fr5_tr (fr5_up (fr5_rf _ _) (by decide)) (fr5_w f1 (by decide))) (by decide)) (by rw [if_neg (fun z => absurd (nI_lt z (by have := lx_e_le (c := lx_di) (b := b) hq; omega)) (Int32.not_lt.mpr q77))]; rfl) e2 e1
  · refine jq_bipush ((-24)) 82 dX2_stepNumber_80 rfl rfl ?_
    refine jq_goto 87 dX2_stepNumber_82 rfl ?_
    refine qp_X2_21 90 dX2_stepNumber_87 rfl rfl rfl rfl ?_
    refine jq_return dX2_stepNumber_90 rfl ?_
    exact fin _ (fr5_up (fr5_tr (fr5_up (fr5_rf _ _) (by decide)) (fr5_w f1 (by decide))) (by decide)) (by rw [if_pos ((nI_ltI (by decide) (by have := lx_e_le (c := lx_di) (b := b) hq; omega)).mp (Int32.not_le.mp q77))]; rfl) e2 e1
theorem wq_step {G : jq_G} {d : Nat} {σ : jr_Sg} {k : jr_Sg → Prop} {b : Nat → Nat} {tp p : Nat} (ht : tC b tp σ) (hp : p ≤ tp) (h6 : σ 5 6 = nI p) (fin : ∀ σ' : jr_Sg, fr5 [3, 4, 5, 6] σ σ' → lxC b tp p σ' → k σ') : jq_M G (d + 6) mi_X2_step [.ref 5] σ (jr_kv k) := by
  have h160 := ht.2.1
  have hble := lx_b_le (b := b) hp
  refine jq_enter (L := [some (.ref 5)]) (by decide) (Nat.le_of_ble_eq_true rfl) rfl ?_
  refine jq_aload_n 0 1 dX2_step_0 rfl rfl rfl ?_
  refine jq_aload_n 0 2 dX2_step_1 rfl rfl rfl ?_
  refine qf_X2_30 5 dX2_step_2 rfl rfl rfl rfl ?_
  refine jq_topi (y := nI p) h6 ?_
  refine qp_X2_27 8 dX2_step_5 rfl rfl rfl rfl ?_
  refine wq_skip (b := b) (tp := tp) (q := p) (tC_fr5 ht (fr5_up (F := [5]) (fr5_rf _ _) (by decide)) (by decide)) (fun σ1 f1' e1 => ?_) (tp - p) p (by omega) rfl _ (fr5_rf _ _) rfl
  have f1 : fr5 [5] σ σ1 := fr5_tr (fr5_up (fr5_rf _ _) (by decide)) f1'
  have ht1 := tC_fr5 ht f1 (by decide)
  have htX : tC b tp (jr_up σ1 5 6 (nI (lx_b b tp p))) := tC_fr5 ht1 (fr5_up (F := [6]) (fr5_rf _ _) (by decide)) (by decide)
  have fX : fr5 [5, 6] σ (jr_up σ1 5 6 (nI (lx_b b tp p))) := fr5_up (fr5_w f1 (by decide)) (by decide)
  have eT : lx_t b tp p = lx_t0 b tp (lx_b b tp p) := rfl
  have eN : lx_n b tp p = lx_n0 b tp (lx_b b tp p) := rfl
  unfold lx_t0 at eT
  unfold lx_n0 at eN
  by_cases hE : tp ≤ lx_b b tp p
  · rw [if_pos hE] at eT eN
    refine jq_aload_n 0 47 dX2_step_46 rfl rfl rfl ?_
    refine jq_aload_n 0 48 dX2_step_47 rfl rfl rfl ?_
    refine qf_X2_27 51 dX2_step_48 rfl rfl rfl rfl ?_
    refine jq_topi (y := nI (lx_b b tp p)) e1 ?_
    refine qp_X2_30 54 dX2_step_51 rfl rfl rfl rfl ?_
    refine jq_aload_n 0 55 dX2_step_54 rfl rfl rfl ?_
    refine qf_X2_27 58 dX2_step_55 rfl rfl rfl rfl ?_
    refine jq_topi (y := nI (lx_b b tp p)) e1 ?_
    refine jq_aload_n 0 59 dX2_step_58 rfl rfl rfl ?_
    refine qf_X2_15 62 dX2_step_59 rfl rfl rfl rfl ?_
    refine jq_topi (y := nI tp) ((f1.2 2 (by decide)).trans ht.1) ?_
    refine jq_icmp_lt 74 65 dX2_step_62 rfl rfl (fun z => absurd z (nI_nlt hE (by omega))) (fun q62 => ?_)
    refine jq_aload_n 0 66 dX2_step_65 rfl rfl rfl ?_
    refine jq_bipush ((-23)) 68 dX2_step_66 rfl rfl ?_
    refine qp_X2_21 71 dX2_step_68 rfl rfl rfl rfl ?_
    refine jq_goto 141 dX2_step_71 rfl ?_
    refine jq_return dX2_step_141 rfl ?_
    exact fin _ (fr5_up (fr5_w fX (by decide)) (by decide)) ⟨by rw [eT]; rfl, fun z => absurd (eT.symm.trans z) (by decide), e1, by rw [eN]; rfl⟩
  · rw [if_neg hE] at eT eN
    have hbi := (ht.2.2 (lx_b b tp p) (by omega)).2
    by_cases hL : lx_le (b (lx_b b tp p)) = true
    · rw [if_pos hL] at eT eN
      refine jq_aload_n 0 47 dX2_step_46 rfl rfl rfl ?_
      refine jq_aload_n 0 48 dX2_step_47 rfl rfl rfl ?_
      refine qf_X2_27 51 dX2_step_48 rfl rfl rfl rfl ?_
      refine jq_topi (y := nI (lx_b b tp p)) e1 ?_
      refine qp_X2_30 54 dX2_step_51 rfl rfl rfl rfl ?_
      refine jq_aload_n 0 55 dX2_step_54 rfl rfl rfl ?_
      refine qf_X2_27 58 dX2_step_55 rfl rfl rfl rfl ?_
      refine jq_topi (y := nI (lx_b b tp p)) e1 ?_
      refine jq_aload_n 0 59 dX2_step_58 rfl rfl rfl ?_
      refine qf_X2_15 62 dX2_step_59 rfl rfl rfl rfl ?_
      refine jq_topi (y := nI tp) ((f1.2 2 (by decide)).trans ht.1) ?_
      refine jq_icmp_lt 74 65 dX2_step_62 rfl rfl (fun q62 => ?_) (fun z => absurd (nI_lt (by omega) (by omega)) z)
      refine jq_aload_n 0 75 dX2_step_74 rfl rfl rfl ?_
      refine jq_aload_n 0 76 dX2_step_75 rfl rfl rfl ?_
      refine qf_X2_27 79 dX2_step_76 rfl rfl rfl rfl ?_
      refine jq_topi (y := nI (lx_b b tp p)) e1 ?_
      refine qs_X2_93 82 dX2_step_79 rfl rfl rfl (Nat.le_of_ble_eq_true rfl) (wq_byteAt htX (by omega) ?_)
      refine qs_X2_99 85 dX2_step_82 rfl rfl (Nat.le_of_ble_eq_true rfl) (wq_isLetter hbi (fun _ => ?_) (fun z => absurd hL z))
      refine jq_if_eq 95 88 dX2_step_85 rfl rfl (fun q => absurd q (by decide)) (fun q85 => ?_)
      refine jq_aload_n 0 89 dX2_step_88 rfl rfl rfl ?_
      refine qs_X2_102 92 dX2_step_89 rfl rfl rfl (Nat.le_of_ble_eq_true rfl) (wq_stepWord htX hble e1 rfl (fun σ2 f2 e2 e3 => ?_))
      refine jq_goto 141 dX2_step_92 rfl ?_
      refine jq_return dX2_step_141 rfl ?_
      exact fin _ (fr5_tr (fr5_w fX (by decide)) (fr5_w f2 (by decide))) ⟨by rw [eT]; exact e2, fun z => absurd (eT.symm.trans z) (by have := lx_wl_le (lx_u b (lx_b b tp p) (lx_e lx_le b tp (lx_b b tp p))) 12 (Nat.le_refl _); omega), (f2.2 5 (by decide)).trans e1, by rw [eN]; exact e3⟩
    · rw [if_neg hL] at eT eN
      by_cases hD : lx_di (b (lx_b b tp p)) = true
      · rw [if_pos hD] at eT eN
        refine jq_aload_n 0 47 dX2_step_46 rfl rfl rfl ?_
        refine jq_aload_n 0 48 dX2_step_47 rfl rfl rfl ?_
        refine qf_X2_27 51 dX2_step_48 rfl rfl rfl rfl ?_
        refine jq_topi (y := nI (lx_b b tp p)) e1 ?_
        refine qp_X2_30 54 dX2_step_51 rfl rfl rfl rfl ?_
        refine jq_aload_n 0 55 dX2_step_54 rfl rfl rfl ?_
        refine qf_X2_27 58 dX2_step_55 rfl rfl rfl rfl ?_
        refine jq_topi (y := nI (lx_b b tp p)) e1 ?_
        refine jq_aload_n 0 59 dX2_step_58 rfl rfl rfl ?_
        refine qf_X2_15 62 dX2_step_59 rfl rfl rfl rfl ?_
        refine jq_topi (y := nI tp) ((f1.2 2 (by decide)).trans ht.1) ?_
        refine jq_icmp_lt 74 65 dX2_step_62 rfl rfl (fun q62 => ?_) (fun z => absurd (nI_lt (by omega) (by omega)) z)
        refine jq_aload_n 0 75 dX2_step_74 rfl rfl rfl ?_
        refine jq_aload_n 0 76 dX2_step_75 rfl rfl rfl ?_
        refine qf_X2_27 79 dX2_step_76 rfl rfl rfl rfl ?_
        refine jq_topi (y := nI (lx_b b tp p)) e1 ?_
        refine qs_X2_93 82 dX2_step_79 rfl rfl rfl (Nat.le_of_ble_eq_true rfl) (wq_byteAt htX (by omega) ?_)
        refine qs_X2_99 85 dX2_step_82 rfl rfl (Nat.le_of_ble_eq_true rfl) (wq_isLetter hbi (fun z => absurd z hL) (fun _ => ?_))
        refine jq_if_eq 95 88 dX2_step_85 rfl rfl (fun q85 => ?_) (fun q => absurd (by decide) q)
        refine jq_aload_n 0 96 dX2_step_95 rfl rfl rfl ?_
        refine jq_aload_n 0 97 dX2_step_96 rfl rfl rfl ?_
        refine qf_X2_27 100 dX2_step_97 rfl rfl rfl rfl ?_
        refine jq_topi (y := nI (lx_b b tp p)) e1 ?_
        refine qs_X2_93 103 dX2_step_100 rfl rfl rfl (Nat.le_of_ble_eq_true rfl) (wq_byteAt htX (by omega) ?_)
        refine qs_X2_105 106 dX2_step_103 rfl rfl (Nat.le_of_ble_eq_true rfl) (wq_isDigit hbi (fun _ => ?_) (fun z => absurd hD z))
        refine jq_if_eq 116 109 dX2_step_106 rfl rfl (fun q => absurd q (by decide)) (fun q106 => ?_)
        refine jq_aload_n 0 110 dX2_step_109 rfl rfl rfl ?_
        refine qs_X2_108 113 dX2_step_110 rfl rfl rfl (Nat.le_of_ble_eq_true rfl) (wq_stepNumber htX hble e1 rfl (fun σ2 f2 e2 e3 e4 => ?_))
        refine jq_goto 141 dX2_step_113 rfl ?_
        refine jq_return dX2_step_141 rfl ?_
        exact fin _ (fr5_tr (fr5_w fX (by decide)) (fr5_w f2 (by decide))) ⟨by rw [eT]; exact e2, fun _ => e3, (f2.2 5 (by decide)).trans e1, by rw [eN]; exact e4⟩
      · rw [if_neg hD] at eT eN
        refine jq_aload_n 0 47 dX2_step_46 rfl rfl rfl ?_
        refine jq_aload_n 0 48 dX2_step_47 rfl rfl rfl ?_
        refine qf_X2_27 51 dX2_step_48 rfl rfl rfl rfl ?_
        refine jq_topi (y := nI (lx_b b tp p)) e1 ?_
        refine qp_X2_30 54 dX2_step_51 rfl rfl rfl rfl ?_
        refine jq_aload_n 0 55 dX2_step_54 rfl rfl rfl ?_
        refine qf_X2_27 58 dX2_step_55 rfl rfl rfl rfl ?_
        refine jq_topi (y := nI (lx_b b tp p)) e1 ?_
        refine jq_aload_n 0 59 dX2_step_58 rfl rfl rfl ?_
        refine qf_X2_15 62 dX2_step_59 rfl rfl rfl rfl ?_
        refine jq_topi (y := nI tp) ((f1.2 2 (by decide)).trans ht.1) ?_
        refine jq_icmp_lt 74 65 dX2_step_62 rfl rfl (fun q62 => ?_) (fun z => absurd (nI_lt (by omega) (by omega)) z)
        refine jq_aload_n 0 75 dX2_step_74 rfl rfl rfl ?_
        refine jq_aload_n 0 76 dX2_step_75 rfl rfl rfl ?_
        refine qf_X2_27 79 dX2_step_76 rfl rfl rfl rfl ?_
        refine jq_topi (y := nI (lx_b b tp p)) e1 ?_
        refine qs_X2_93 82 dX2_step_79 rfl rfl rfl (Nat.le_of_ble_eq_true rfl) (wq_byteAt htX (by omega) ?_)
        refine qs_X2_99 85 dX2_step_82 rfl rfl (Nat.le_of_ble_eq_true rfl) (wq_isLetter hbi (fun z => absurd z hL) (fun _ => ?_))
        refine jq_if_eq 95 88 dX2_step_85 rfl rfl (fun q85 => ?_) (fun q => absurd (by decide) q)
        refine jq_aload_n 0 96 dX2_step_95 rfl rfl rfl ?_
        refine jq_aload_n 0 97 dX2_step_96 rfl rfl rfl ?_
        refine qf_X2_27 100 dX2_step_97 rfl rfl rfl rfl ?_
        refine jq_topi (y := nI (lx_b b tp p)) e1 ?_
        refine qs_X2_93 103 dX2_step_100 rfl rfl rfl (Nat.le_of_ble_eq_true rfl) (wq_byteAt htX (by omega) ?_)
        refine qs_X2_105 106 dX2_step_103 rfl rfl (Nat.le_of_ble_eq_true rfl) (wq_isDigit hbi (fun z => absurd z hD) (fun _ => ?_))
        refine jq_if_eq 116 109 dX2_step_106 rfl rfl (fun q106 => ?_) (fun q => absurd (by decide) q)
        refine jq_aload_n 0 117 dX2_step_116 rfl rfl rfl ?_
        refine jq_aload_n 0 118 dX2_step_117 rfl rfl rfl ?_
        refine jq_aload_n 0 119 dX2_step_118 rfl rfl rfl ?_
        refine qf_X2_27 122 dX2_step_119 rfl rfl rfl rfl ?_
        refine jq_topi (y := nI (lx_b b tp p)) e1 ?_
        refine qs_X2_93 125 dX2_step_122 rfl rfl rfl (Nat.le_of_ble_eq_true rfl) (wq_byteAt htX (by omega) ?_)
        refine qs_X2_111 128 dX2_step_125 rfl rfl (Nat.le_of_ble_eq_true rfl) (wq_signOf hbi ?_)
        refine qp_X2_21 131 dX2_step_128 rfl rfl rfl rfl ?_
        refine jq_aload_n 0 132 dX2_step_131 rfl rfl rfl ?_
        refine jq_aload_n 0 133 dX2_step_132 rfl rfl rfl ?_
        refine qf_X2_27 136 dX2_step_133 rfl rfl rfl rfl ?_
        refine jq_topi (y := nI (lx_b b tp p)) e1 ?_
        refine jq_iconst (nI 1) 137 dX2_step_136 rfl rfl ?_
        refine jq_iadd 138 dX2_step_137 rfl ?_
        rw [nI_add]
        refine qp_X2_30 141 dX2_step_138 rfl rfl rfl rfl ?_
        refine jq_return dX2_step_141 rfl ?_
        exact fin _ (fr5_up (fr5_up (fr5_w fX (by decide)) (by decide)) (by decide)) ⟨by rw [eT]; rfl, fun z => absurd (eT.symm.trans z) (lx_sg_le _).2.2.1, e1, by rw [eN]; rfl⟩

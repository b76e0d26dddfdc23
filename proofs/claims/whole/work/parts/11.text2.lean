def ti_o (T : Nat → Nat → List Nat) (t p : Nat) : Nat := match p with
  | 0 => 0
  | 1 => (T t 0).length
  | 2 => (T t 0).length + (T t 1).length
  | _ => (T t 0).length + (T t 1).length + (T t 2).length
def ti_C (T : Nat → Nat → List Nat) (n : Nat) (σ : jr_Sg) : Prop := σ 1 4 = nI n ∧ n ≤ 6 ∧ ∀ t, t < n → ti_o T t 3 ≤ 160 ∧ ∀ p, p < 3 → ev_wf 0 (T t p) ∧ σ 3 (3 * t + p) = nI (160 * t + ti_o T t (p + 1)) ∧ ∀ i, i < (T t p).length → σ 2 (160 * t + ti_o T t p + i) = ev_cc ((T t p).getD i 0)
def ti_R (T : Nat → Nat → List Nat) (n : Nat) (σ : jr_Sg) : Prop := σ 46 12 = nI n ∧ n ≤ 6 ∧ ∀ t, t < n → ti_o T t 3 ≤ 160 ∧ (∀ p, p < 4 → σ 55 (4 * t + p) = nI (ti_o T t p)) ∧ ∀ p, p < 3 → ev_wf 0 (T t p) ∧ ∀ i, i < (T t p).length → σ 54 (200 * t + ti_o T t p + i) = nI ((T t p).getD i 0)
theorem ti_o_succ (T : Nat → Nat → List Nat) (t p : Nat) (hp : p < 3) : ti_o T t (p + 1) = ti_o T t p + (T t p).length := by
  rcases (by omega : p = 0 ∨ p = 1 ∨ p = 2) with rfl | rfl | rfl
  · simp [ti_o]
  · rfl
  · rfl
theorem ti_o_le (T : Nat → Nat → List Nat) (t p : Nat) (hp : p < 4) : ti_o T t p ≤ ti_o T t 3 := by
  rcases (by omega : p = 0 ∨ p = 1 ∨ p = 2 ∨ p = 3) with rfl | rfl | rfl | rfl <;> simp [ti_o] <;> omega
def ev_t (T : Nat → Nat → List Nat) (t p : Nat) (nm : Nat → Int32) : Int32 := ev nm 0 (fun _ => 0) (T t p)
theorem ev_congr {nm nm' : Nat → Int32} (hn : ∀ j, j < 6 → nm j = nm' j) : ∀ (l : List Nat) (h : Nat) (s s' : Nat → Int32), (∀ j, j < h → s j = s' j) → ev_wf h l → ev nm h s l = ev nm' h s' l := by
  intro l
  induction l with
  | nil =>
    intro h s s' hs hw
    have e : h = 1 := hw
    subst e
    exact hs 0 (by omega)
  | cons o l ih =>
    intro h s s' hs hw
    rcases hw with ⟨ho, h40, hw2⟩ | ⟨ho, ho2, h40, hw2⟩ | ⟨ho, h1, hw2⟩ | ⟨ho, h2, hw2⟩
    · rw [ev, ev, if_pos ho, if_pos ho]
      refine ih _ _ _ (fun j hj => ?_) hw2
      unfold upd
      split
      · exact hn o ho
      · exact hs j (by omega)
    · rw [ev, ev, if_neg (by omega), if_pos ho, if_neg (by omega), if_pos ho]
      refine ih _ _ _ (fun j hj => ?_) hw2
      unfold upd
      split
      · rfl
      · exact hs j (by omega)
    · rcases ho with rfl | rfl
      · rw [show ev nm h s (13 :: l) = ev nm h (upd s (h - 1) (if s (h - 1) = 0 then 1 else 0)) l from rfl, show ev nm' h s' (13 :: l) = ev nm' h (upd s' (h - 1) (if s' (h - 1) = 0 then 1 else 0)) l from rfl, hs (h - 1) (by omega)]
        refine ih _ _ _ (fun j hj => ?_) hw2
        unfold upd
        split
        · rfl
        · exact hs j (by omega)
      · rw [show ev nm h s (19 :: l) = ev nm h (upd s (h - 1) (-(s (h - 1)))) l from rfl, show ev nm' h s' (19 :: l) = ev nm' h (upd s' (h - 1) (-(s' (h - 1)))) l from rfl, hs (h - 1) (by omega)]
        refine ih _ _ _ (fun j hj => ?_) hw2
        unfold upd
        split
        · rfl
        · exact hs j (by omega)
    · have key : ∀ (nm : Nat → Int32) (s : Nat → Int32), ev nm h s (o :: l) = ev nm (h - 1) (upd s (h - 2) (ev_two o (s (h - 2)) (s (h - 1)))) l := by
        intro nm s
        rw [ev, if_neg (by omega), if_neg (by omega), if_neg (by omega), if_neg (by omega)]
      rw [key, key, hs (h - 2) (by omega), hs (h - 1) (by omega)]
      refine ih _ _ _ (fun j hj => ?_) hw2
      unfold upd
      split
      · rfl
      · exact hs j (by omega)
theorem ev_t_congr {T : Nat → Nat → List Nat} {t p : Nat} {nm nm' : Nat → Int32} (hw : ev_wf 0 (T t p)) (hn : ∀ j, j < 6 → nm j = nm' j) : ev_t T t p nm = ev_t T t p nm' := ev_congr hn _ _ _ _ (fun j hj => by omega) hw
theorem ev_t_of {T : Nat → Nat → List Nat} {t p : Nat} {nm : Nat → Int32} {s : Nat → Int32} (hw : ev_wf 0 (T t p)) : ev nm 0 s (T t p) = ev_t T t p nm := ev_congr (fun _ _ => rfl) _ _ _ _ (fun j hj => by omega) hw
theorem pu_min_l {a b : Nat} (h : a ≤ b) (hb : b < 2 ^ 31) : pu_min (nI a) (nI b) = nI a := by
  unfold pu_min
  rw [if_neg (nI_nlt h hb)]
def pu_within (v lo hi : Int32) : Int32 := if v < lo then lo else if hi < v then hi else v
theorem pu_within_mm (v : Int32) : pu_max 0 (pu_min 99 v) = pu_within v 0 99 := by
  unfold pu_max pu_min pu_within
  grind

theorem wp_value {G : jr_G} {d : Nat} {σ : jr_Sg} {k : Value → jr_Sg → Prop} {T : Nat → Nat → List Nat} {n t p : Nat} (hT : ti_C T n σ) (ht : t < n) (hp : p < 3) (hk : ∀ f : Nat → Int32, k (.int (ev_t T t p (σ 11))) (jr_upc σ 4 f)) : jr_M G (d + 1) mi_X6_value [.ref 1, .int (nI t), .int (nI p), .ref 11] σ (jr_k k) := by
  obtain ⟨hn, hn6, hall⟩ := hT
  obtain ⟨h160, hps⟩ := hall t ht
  obtain ⟨hw, hend, hcod⟩ := hps p hp
  have ho1 := ti_o_succ T t p hp
  have ho2 := ti_o_le T t (p + 1) (by omega)
  have hbeg : 0 < p → σ 3 (3 * t + (p - 1)) = nI (160 * t + ti_o T t p) := fun h0 => by
    have := (hps (p - 1) (by omega)).2.1
    rw [show p - 1 + 1 = p by omega] at this
    exact this
  refine jr_enter (L := [some (.ref 1), some (.int (nI t)), some (.int (nI p)), some (.ref 11), none, none, none, none, none]) (by decide) (Nat.le_of_ble_eq_true rfl) rfl ?_
  rcases (by omega : p = 0 ∨ p = 1 ∨ p = 2) with rfl | rfl | rfl
  · refine jr_iload_n 1 1 dX6_value_0 rfl rfl rfl ?_
    refine jr_if_lt 28 4 dX6_value_1 rfl rfl (fun q => absurd q (nI_pos (by omega))) (fun q1 => ?_)
    refine jr_iload_n 1 5 dX6_value_4 rfl rfl rfl ?_
    refine jr_aload_n 0 6 dX6_value_5 rfl rfl rfl ?_
    refine gf_X6_25 9 dX6_value_6 rfl rfl rfl rfl ?_
    rw [hn]
    refine jr_icmp_ge 28 12 dX6_value_9 rfl rfl (fun q => absurd q (nI_ge ht (by omega))) (fun q9 => ?_)
    refine jr_iload_n 2 13 dX6_value_12 rfl rfl rfl ?_
    refine jr_if_lt 28 16 dX6_value_13 rfl rfl (fun q => absurd q (by decide)) (fun q13 => ?_)
    refine jr_iload_n 2 17 dX6_value_16 rfl rfl rfl ?_
    refine jr_iconst (nI 3) 18 dX6_value_17 rfl rfl ?_
    refine jr_icmp_ge 28 21 dX6_value_18 rfl rfl (fun q => absurd q (by decide)) (fun q18 => ?_)
    refine jr_aload_n 3 22 dX6_value_21 rfl rfl rfl ?_
    refine jr_alen rfl 23 dX6_value_22 rfl ?_
    refine jr_bipush (nI 6) 25 dX6_value_23 rfl rfl ?_
    refine jr_icmp_ge 30 28 dX6_value_25 rfl rfl (fun q25 => ?_) (fun q => absurd (by decide) q)
    refine jr_iload_n 2 31 dX6_value_30 rfl rfl rfl ?_
    refine jr_if_ne 42 34 dX6_value_31 rfl rfl (fun q => absurd (by decide) q) (fun q31 => ?_)
    refine jr_iload_n 1 35 dX6_value_34 rfl rfl rfl ?_
    refine jr_sipush (nI 160) 38 dX6_value_35 rfl rfl ?_
    refine jr_imul 39 dX6_value_38 rfl ?_
    rw [pk_mul]
    refine jr_goto 54 dX6_value_39 rfl ?_
    refine jr_istore (L' := [_, _, _, _, _, _, _, _, _]) 56 dX6_value_54 rfl (by decide) rfl ?_
    refine jr_aload_n 0 57 dX6_value_56 rfl rfl rfl ?_
    refine gf_X6_15 60 dX6_value_57 rfl rfl rfl rfl ?_
    refine jr_iload_n 1 61 dX6_value_60 rfl rfl rfl ?_
    refine jr_iconst (nI 3) 62 dX6_value_61 rfl rfl ?_
    refine jr_imul 63 dX6_value_62 rfl ?_
    refine jr_iload_n 2 64 dX6_value_63 rfl rfl rfl ?_
    refine jr_iadd 65 dX6_value_64 rfl ?_
    refine jr_iale (k := 3 * t + 0) rfl (by rw [pk_mul, nI_add]; congr 1; omega) (by omega) hend 66 dX6_value_65 rfl ?_
    refine jr_aload_n 0 67 dX6_value_66 rfl rfl rfl ?_
    refine gf_X6_9 70 dX6_value_67 rfl rfl rfl rfl ?_
    refine jr_alen rfl 71 dX6_value_70 rfl ?_
    refine jr_mmin 74 dX6_value_71 rfl ml_X6_32 (Nat.le_of_ble_eq_true rfl) ?_
    rw [pu_min_l (by omega) (by decide)]
    refine jr_istore (L' := [_, _, _, _, _, _, _, _, _]) 76 dX6_value_74 rfl (by decide) rfl ?_
    refine jr_iconst ((-1)) 77 dX6_value_76 rfl rfl ?_
    refine jr_istore (L' := [_, _, _, _, _, _, _, _, _]) 79 dX6_value_77 rfl (by decide) rfl ?_
    refine jr_iload 81 dX6_value_79 rfl rfl ?_
    refine jr_istore (L' := [_, _, _, _, _, _, _, _, _]) 83 dX6_value_81 rfl (by decide) rfl ?_
    rw [show t * 160 = 160 * t + ti_o T t 0 by rw [show ti_o T t 0 = 0 from rfl]; omega]
    exact value_loop (by omega) (T t 0) _ 0 _ _ _ (fun j hj => hcod j hj) (by rw [ho1]; omega) hw (by omega) (by decide) (fun f => by rw [ev_t_of hw]; exact hk f)
  · refine jr_iload_n 1 1 dX6_value_0 rfl rfl rfl ?_
    refine jr_if_lt 28 4 dX6_value_1 rfl rfl (fun q => absurd q (nI_pos (by omega))) (fun q1 => ?_)
    refine jr_iload_n 1 5 dX6_value_4 rfl rfl rfl ?_
    refine jr_aload_n 0 6 dX6_value_5 rfl rfl rfl ?_
    refine gf_X6_25 9 dX6_value_6 rfl rfl rfl rfl ?_
    rw [hn]
    refine jr_icmp_ge 28 12 dX6_value_9 rfl rfl (fun q => absurd q (nI_ge ht (by omega))) (fun q9 => ?_)
    refine jr_iload_n 2 13 dX6_value_12 rfl rfl rfl ?_
    refine jr_if_lt 28 16 dX6_value_13 rfl rfl (fun q => absurd q (by decide)) (fun q13 => ?_)
    refine jr_iload_n 2 17 dX6_value_16 rfl rfl rfl ?_
    refine jr_iconst (nI 3) 18 dX6_value_17 rfl rfl ?_
    refine jr_icmp_ge 28 21 dX6_value_18 rfl rfl (fun q => absurd q (by decide)) (fun q18 => ?_)
    refine jr_aload_n 3 22 dX6_value_21 rfl rfl rfl ?_
    refine jr_alen rfl 23 dX6_value_22 rfl ?_
    refine jr_bipush (nI 6) 25 dX6_value_23 rfl rfl ?_
    refine jr_icmp_ge 30 28 dX6_value_25 rfl rfl (fun q25 => ?_) (fun q => absurd (by decide) q)
    refine jr_iload_n 2 31 dX6_value_30 rfl rfl rfl ?_
    refine jr_if_ne 42 34 dX6_value_31 rfl rfl (fun q31 => ?_) (fun q => absurd q (by decide))
    refine jr_aload_n 0 43 dX6_value_42 rfl rfl rfl ?_
    refine gf_X6_15 46 dX6_value_43 rfl rfl rfl rfl ?_
    refine jr_iload_n 1 47 dX6_value_46 rfl rfl rfl ?_
    refine jr_iconst (nI 3) 48 dX6_value_47 rfl rfl ?_
    refine jr_imul 49 dX6_value_48 rfl ?_
    refine jr_iload_n 2 50 dX6_value_49 rfl rfl rfl ?_
    refine jr_iadd 51 dX6_value_50 rfl ?_
    refine jr_iconst (nI 1) 52 dX6_value_51 rfl rfl ?_
    refine jr_isub 53 dX6_value_52 rfl ?_
    refine jr_iale (k := 3 * t + 0) (v := nI (160 * t + ti_o T t 1)) rfl (by rw [pk_mul, nI_add, pk_sub (by omega)]; congr 1; omega) (by omega) (hbeg (by omega)) 54 dX6_value_53 rfl ?_
    refine jr_istore (L' := [_, _, _, _, _, _, _, _, _]) 56 dX6_value_54 rfl (by decide) rfl ?_
    refine jr_aload_n 0 57 dX6_value_56 rfl rfl rfl ?_
    refine gf_X6_15 60 dX6_value_57 rfl rfl rfl rfl ?_
    refine jr_iload_n 1 61 dX6_value_60 rfl rfl rfl ?_
    refine jr_iconst (nI 3) 62 dX6_value_61 rfl rfl ?_
    refine jr_imul 63 dX6_value_62 rfl ?_
    refine jr_iload_n 2 64 dX6_value_63 rfl rfl rfl ?_
    refine jr_iadd 65 dX6_value_64 rfl ?_
    refine jr_iale (k := 3 * t + 1) rfl (by rw [pk_mul, nI_add]; congr 1; omega) (by omega) hend 66 dX6_value_65 rfl ?_
    refine jr_aload_n 0 67 dX6_value_66 rfl rfl rfl ?_
    refine gf_X6_9 70 dX6_value_67 rfl rfl rfl rfl ?_
    refine jr_alen rfl 71 dX6_value_70 rfl ?_
    refine jr_mmin 74 dX6_value_71 rfl ml_X6_32 (Nat.le_of_ble_eq_true rfl) ?_
    rw [pu_min_l (by omega) (by decide)]
    refine jr_istore (L' := [_, _, _, _, _, _, _, _, _]) 76 dX6_value_74 rfl (by decide) rfl ?_
    refine jr_iconst ((-1)) 77 dX6_value_76 rfl rfl ?_
    refine jr_istore (L' := [_, _, _, _, _, _, _, _, _]) 79 dX6_value_77 rfl (by decide) rfl ?_
    refine jr_iload 81 dX6_value_79 rfl rfl ?_
    refine jr_istore (L' := [_, _, _, _, _, _, _, _, _]) 83 dX6_value_81 rfl (by decide) rfl ?_
    exact value_loop (by omega) (T t 1) _ 0 _ _ _ (fun j hj => hcod j hj) (by rw [ho1]; omega) hw (by omega) (by decide) (fun f => by rw [ev_t_of hw]; exact hk f)
  · refine jr_iload_n 1 1 dX6_value_0 rfl rfl rfl ?_
    refine jr_if_lt 28 4 dX6_value_1 rfl rfl (fun q => absurd q (nI_pos (by omega))) (fun q1 => ?_)
    refine jr_iload_n 1 5 dX6_value_4 rfl rfl rfl ?_
    refine jr_aload_n 0 6 dX6_value_5 rfl rfl rfl ?_
    refine gf_X6_25 9 dX6_value_6 rfl rfl rfl rfl ?_
    rw [hn]
    refine jr_icmp_ge 28 12 dX6_value_9 rfl rfl (fun q => absurd q (nI_ge ht (by omega))) (fun q9 => ?_)
    refine jr_iload_n 2 13 dX6_value_12 rfl rfl rfl ?_
    refine jr_if_lt 28 16 dX6_value_13 rfl rfl (fun q => absurd q (by decide)) (fun q13 => ?_)
    refine jr_iload_n 2 17 dX6_value_16 rfl rfl rfl ?_
    refine jr_iconst (nI 3) 18 dX6_value_17 rfl rfl ?_
    refine jr_icmp_ge 28 21 dX6_value_18 rfl rfl (fun q => absurd q (by decide)) (fun q18 => ?_)
    refine jr_aload_n 3 22 dX6_value_21 rfl rfl rfl ?_
    refine jr_alen rfl 23 dX6_value_22 rfl ?_
    refine jr_bipush (nI 6) 25 dX6_value_23 rfl rfl ?_
    refine jr_icmp_ge 30 28 dX6_value_25 rfl rfl (fun q25 => ?_) (fun q => absurd (by decide) q)
    refine jr_iload_n 2 31 dX6_value_30 rfl rfl rfl ?_
    refine jr_if_ne 42 34 dX6_value_31 rfl rfl (fun q31 => ?_) (fun q => absurd q (by decide))
    refine jr_aload_n 0 43 dX6_value_42 rfl rfl rfl ?_
    refine gf_X6_15 46 dX6_value_43 rfl rfl rfl rfl ?_
    refine jr_iload_n 1 47 dX6_value_46 rfl rfl rfl ?_
    refine jr_iconst (nI 3) 48 dX6_value_47 rfl rfl ?_
    refine jr_imul 49 dX6_value_48 rfl ?_
    refine jr_iload_n 2 50 dX6_value_49 rfl rfl rfl ?_
    refine jr_iadd 51 dX6_value_50 rfl ?_
    refine jr_iconst (nI 1) 52 dX6_value_51 rfl rfl ?_
    refine jr_isub 53 dX6_value_52 rfl ?_
    refine jr_iale (k := 3 * t + 1) (v := nI (160 * t + ti_o T t 2)) rfl (by rw [pk_mul, nI_add, pk_sub (by omega)]; congr 1; omega) (by omega) (hbeg (by omega)) 54 dX6_value_53 rfl ?_
    refine jr_istore (L' := [_, _, _, _, _, _, _, _, _]) 56 dX6_value_54 rfl (by decide) rfl ?_
    refine jr_aload_n 0 57 dX6_value_56 rfl rfl rfl ?_
    refine gf_X6_15 60 dX6_value_57 rfl rfl rfl rfl ?_
    refine jr_iload_n 1 61 dX6_value_60 rfl rfl rfl ?_
    refine jr_iconst (nI 3) 62 dX6_value_61 rfl rfl ?_
    refine jr_imul 63 dX6_value_62 rfl ?_
    refine jr_iload_n 2 64 dX6_value_63 rfl rfl rfl ?_
    refine jr_iadd 65 dX6_value_64 rfl ?_
    refine jr_iale (k := 3 * t + 2) rfl (by rw [pk_mul, nI_add]; congr 1; omega) (by omega) hend 66 dX6_value_65 rfl ?_
    refine jr_aload_n 0 67 dX6_value_66 rfl rfl rfl ?_
    refine gf_X6_9 70 dX6_value_67 rfl rfl rfl rfl ?_
    refine jr_alen rfl 71 dX6_value_70 rfl ?_
    refine jr_mmin 74 dX6_value_71 rfl ml_X6_32 (Nat.le_of_ble_eq_true rfl) ?_
    rw [pu_min_l (by omega) (by decide)]
    refine jr_istore (L' := [_, _, _, _, _, _, _, _, _]) 76 dX6_value_74 rfl (by decide) rfl ?_
    refine jr_iconst ((-1)) 77 dX6_value_76 rfl rfl ?_
    refine jr_istore (L' := [_, _, _, _, _, _, _, _, _]) 79 dX6_value_77 rfl (by decide) rfl ?_
    refine jr_iload 81 dX6_value_79 rfl rfl ?_
    refine jr_istore (L' := [_, _, _, _, _, _, _, _, _]) 83 dX6_value_81 rfl (by decide) rfl ?_
    exact value_loop (by omega) (T t 2) _ 0 _ _ _ (fun j hj => hcod j hj) (by rw [ho1]; omega) hw (by omega) (by decide) (fun f => by rw [ev_t_of hw]; exact hk f)
theorem wp_bounded {G : jr_G} {d : Nat} {σ : jr_Sg} {k : Value → jr_Sg → Prop} {T : Nat → Nat → List Nat} {n t p : Nat} (hT : ti_C T n σ) (ht : t < n) (hp : p < 3) (hk : ∀ f : Nat → Int32, k (.int (pu_within (ev_t T t p (σ 11)) 0 99)) (jr_upc σ 4 f)) : jr_M G (d + 2) mi_X6_bounded [.ref 1, .int (nI t), .int (nI p), .ref 11] σ (jr_k k) := by
  refine jr_enter (L := [some (.ref 1), some (.int (nI t)), some (.int (nI p)), some (.ref 11)]) (by decide) (Nat.le_of_ble_eq_true rfl) rfl ?_
  refine jr_iconst (0) 1 dX6_bounded_0 rfl rfl ?_
  refine jr_bipush (99) 3 dX6_bounded_1 rfl rfl ?_
  refine jr_aload_n 0 4 dX6_bounded_3 rfl rfl rfl ?_
  refine jr_iload_n 1 5 dX6_bounded_4 rfl rfl rfl ?_
  refine jr_iload_n 2 6 dX6_bounded_5 rfl rfl rfl ?_
  refine jr_aload_n 3 7 dX6_bounded_6 rfl rfl rfl ?_
  refine cs_X6_28 10 dX6_bounded_7 rfl rfl rfl (Nat.le_of_ble_eq_true rfl) (wp_value hT ht hp (fun f => ?_))
  refine jr_mmin 13 dX6_bounded_10 rfl ml_X6_32 (Nat.le_of_ble_eq_true rfl) ?_
  refine jr_mmax 16 dX6_bounded_13 rfl ml_X6_38 (Nat.le_of_ble_eq_true rfl) ?_
  refine jr_ireturn dX6_bounded_16 rfl rfl ?_
  rw [pu_within_mm]
  exact hk f
theorem wp_within {G : jr_G} {d : Nat} {σ : jr_Sg} {k : Value → jr_Sg → Prop} {v lo hi : Int32} (h : k (.int (pu_within v lo hi)) σ) : jr_M G d mi_X10_within [.int v, .int lo, .int hi] σ (jr_k k) := by
  refine jr_enter (L := [some (.int v), some (.int lo), some (.int hi)]) (by decide) (Nat.le_of_ble_eq_true rfl) rfl ?_
  refine jr_iload_n 0 1 dX10_within_0 rfl rfl rfl ?_
  refine jr_iload_n 1 2 dX10_within_1 rfl rfl rfl ?_
  refine jr_icmp_ge 9 5 dX10_within_2 rfl rfl (fun q2 => ?_) (fun q2 => ?_)
  · refine jr_iload_n 0 10 dX10_within_9 rfl rfl rfl ?_
    refine jr_iload_n 2 11 dX10_within_10 rfl rfl rfl ?_
    refine jr_icmp_le 18 14 dX10_within_11 rfl rfl (fun q11 => ?_) (fun q11 => ?_)
    · refine jr_iload_n 0 19 dX10_within_18 rfl rfl rfl ?_
      refine jr_ireturn dX10_within_19 rfl rfl ?_
      exact jr_eqk (by unfold pu_within; grind) h
    · refine jr_iload_n 2 15 dX10_within_14 rfl rfl rfl ?_
      refine jr_goto 19 dX10_within_15 rfl ?_
      refine jr_ireturn dX10_within_19 rfl rfl ?_
      exact jr_eqk (by unfold pu_within; grind) h
  · refine jr_iload_n 1 6 dX10_within_5 rfl rfl rfl ?_
    refine jr_goto 19 dX10_within_6 rfl ?_
    refine jr_ireturn dX10_within_19 rfl rfl ?_
    exact jr_eqk (by unfold pu_within; grind) h
theorem wp_in {G : jr_G} {d : Nat} {σ : jr_Sg} {k : Value → jr_Sg → Prop} {v lo hi : Int32} (h1 : lo ≤ v → v ≤ hi → k (.int 1) σ) (h0 : ¬ (lo ≤ v ∧ v ≤ hi) → k (.int 0) σ) : jr_M G d mi_X10_in [.int v, .int lo, .int hi] σ (jr_k k) := by
  refine jr_enter (L := [some (.int v), some (.int lo), some (.int hi)]) (by decide) (Nat.le_of_ble_eq_true rfl) rfl ?_
  refine jr_iload_n 0 1 dX10_in_0 rfl rfl rfl ?_
  refine jr_iload_n 1 2 dX10_in_1 rfl rfl rfl ?_
  refine jr_icmp_lt 14 5 dX10_in_2 rfl rfl (fun q2 => ?_) (fun q2 => ?_)
  · refine jr_iconst (0) 15 dX10_in_14 rfl rfl ?_
    refine jr_ireturn dX10_in_15 rfl rfl ?_
    exact h0 (by grind)
  · refine jr_iload_n 0 6 dX10_in_5 rfl rfl rfl ?_
    refine jr_iload_n 2 7 dX10_in_6 rfl rfl rfl ?_
    refine jr_icmp_gt 14 10 dX10_in_7 rfl rfl (fun q7 => ?_) (fun q7 => ?_)
    · refine jr_iconst (0) 15 dX10_in_14 rfl rfl ?_
      refine jr_ireturn dX10_in_15 rfl rfl ?_
      exact h0 (by grind)
    · refine jr_iconst (1) 11 dX10_in_10 rfl rfl ?_
      refine jr_goto 15 dX10_in_11 rfl ?_
      refine jr_ireturn dX10_in_15 rfl rfl ?_
      first | exact h1 (by grind) (by grind) | exact h0 (by grind)
theorem says_loop {G : jr_G} {d : Nat} {k : Value → jr_Sg → Prop} {r p to : Nat} (hr : r < 6) (hp : p < 3) (hto : to ≤ 160) : ∀ (l : List Nat) (i h : Nat) (σ : jr_Sg) (x4 : Option Value), σ 46 13 = nI r → σ 55 (4 * r + (p + 1)) = nI to → (∀ j, j < l.length → σ 54 (200 * r + i + j) = nI (l.getD j 0)) → i + l.length = to → ev_wf h l → h ≤ 40 → (∀ f : Nat → Int32, k (.int (ev (σ 64) h (σ 63) l)) (jr_upc σ 63 f)) → jr_R G (d + 1) mi_X10_says (jr_k k) 16 [some (.ref 46), some (.int (nI p)), some (.int (nI h)), some (.int (nI i)), x4] [] σ := by
  intro l
  induction l with
  | nil =>
    intro i h σ x4 hru hend hc hi hw hh hk
    have e1 : h = 1 := hw
    subst e1
    have e3 : i = to := hi
    subst e3
    refine jr_iload_n 3 17 dX10_says_16 rfl rfl rfl ?_
    refine jr_aload_n 0 18 dX10_says_17 rfl rfl rfl ?_
    refine gf_X10_34 21 dX10_says_18 rfl rfl rfl rfl ?_
    refine jr_iconst (nI 4) 22 dX10_says_21 rfl rfl ?_
    refine jr_aload_n 0 23 dX10_says_22 rfl rfl rfl ?_
    refine gf_X10_118 26 dX10_says_23 rfl rfl rfl rfl ?_
    rw [hru]
    refine jr_imul 27 dX10_says_26 rfl ?_
    refine jr_iload_n 1 28 dX10_says_27 rfl rfl rfl ?_
    refine jr_iadd 29 dX10_says_28 rfl ?_
    refine jr_iconst (nI 1) 30 dX10_says_29 rfl rfl ?_
    refine jr_iadd 31 dX10_says_30 rfl ?_
    refine jr_iale (k := 4 * r + (p + 1)) rfl (by rw [pk_mul, nI_add, nI_add]; congr 1) (by omega) hend 32 dX10_says_31 rfl ?_
    refine jr_icmp_ge 197 35 dX10_says_32 rfl rfl (fun q32 => ?_) (fun q => absurd (Int32.le_refl _) q)
    refine jr_aload_n 0 198 dX10_says_197 rfl rfl rfl ?_
    refine gf_X10_58 201 dX10_says_198 rfl rfl rfl rfl ?_
    refine jr_iconst (nI 0) 202 dX10_says_201 rfl rfl ?_
    refine jr_iald rfl (k := 0) rfl (by decide) 203 dX10_says_202 rfl ?_
    refine jr_ireturn dX10_says_203 rfl rfl ?_
    exact (jr_upc_self σ 63) ▸ hk (σ 63)
  | cons o l ih =>
    intro i h σ x4 hru hend hc hi hw hh hk
    have hlen : i + l.length + 1 = to := by rw [← hi]; simp; omega
    have hc0 : σ 54 (200 * r + i) = nI o := hc 0 (by simp)
    have hc1 : ∀ j, j < l.length → σ 54 (200 * r + (i + 1) + j) = nI (l.getD j 0) := by
      intro j hj
      have := hc (j + 1) (by simp; omega)
      rw [show 200 * r + (i + 1) + j = 200 * r + i + (j + 1) by omega]
      simpa using this
    rcases hw with ⟨ho, h40, hw2⟩ | ⟨ho, ho2, h40, hw2⟩ | ⟨ho, h1, hw2⟩ | ⟨ho, h2, hw2⟩
    · rcases (by omega : o = 0 ∨ o = 1 ∨ o = 2 ∨ o = 3 ∨ o = 4 ∨ o = 5) with rfl | rfl | rfl | rfl | rfl | rfl
      · refine jr_iload_n 3 17 dX10_says_16 rfl rfl rfl ?_
        refine jr_aload_n 0 18 dX10_says_17 rfl rfl rfl ?_
        refine gf_X10_34 21 dX10_says_18 rfl rfl rfl rfl ?_
        refine jr_iconst (nI 4) 22 dX10_says_21 rfl rfl ?_
        refine jr_aload_n 0 23 dX10_says_22 rfl rfl rfl ?_
        refine gf_X10_118 26 dX10_says_23 rfl rfl rfl rfl ?_
        rw [hru]
        refine jr_imul 27 dX10_says_26 rfl ?_
        refine jr_iload_n 1 28 dX10_says_27 rfl rfl rfl ?_
        refine jr_iadd 29 dX10_says_28 rfl ?_
        refine jr_iconst (nI 1) 30 dX10_says_29 rfl rfl ?_
        refine jr_iadd 31 dX10_says_30 rfl ?_
        refine jr_iale (k := 4 * r + (p + 1)) rfl (by rw [pk_mul, nI_add, nI_add]; congr 1) (by omega) hend 32 dX10_says_31 rfl ?_
        refine jr_icmp_ge 197 35 dX10_says_32 rfl rfl (fun q => absurd q (nI_ge (by omega) (by omega))) (fun q32 => ?_)
        refine jr_aload_n 0 36 dX10_says_35 rfl rfl rfl ?_
        refine gf_X10_31 39 dX10_says_36 rfl rfl rfl rfl ?_
        refine jr_sipush (nI 200) 42 dX10_says_39 rfl rfl ?_
        refine jr_aload_n 0 43 dX10_says_42 rfl rfl rfl ?_
        refine gf_X10_118 46 dX10_says_43 rfl rfl rfl rfl ?_
        rw [hru]
        refine jr_imul 47 dX10_says_46 rfl ?_
        refine jr_iload_n 3 48 dX10_says_47 rfl rfl rfl ?_
        refine jr_iadd 49 dX10_says_48 rfl ?_
        refine jr_iale (k := 200 * r + i) rfl (by rw [pk_mul, nI_add]) (by omega) hc0 50 dX10_says_49 rfl ?_
        refine jr_istore (L' := [_, _, _, _, _]) 52 dX10_says_50 rfl (by decide) rfl ?_
        refine jr_iload 54 dX10_says_52 rfl rfl ?_
        refine jr_ldc kc_X10_167 56 dX10_says_54 rfl ?_
        refine jr_icmp_ge 66 59 dX10_says_56 rfl rfl (fun q => absurd q (by decide)) (fun q56 => ?_)
        refine jr_iload 61 dX10_says_59 rfl rfl ?_
        refine jr_bipush (nI 11) 63 dX10_says_61 rfl rfl ?_
        refine jr_icmp_ge 100 66 dX10_says_63 rfl rfl (fun q => absurd q (by decide)) (fun q63 => ?_)
        refine jr_aload_n 0 67 dX10_says_66 rfl rfl rfl ?_
        refine gf_X10_58 70 dX10_says_67 rfl rfl rfl rfl ?_
        refine jr_iload_n 2 71 dX10_says_70 rfl rfl rfl ?_
        refine jr_iload 73 dX10_says_71 rfl rfl ?_
        refine jr_bipush (nI 11) 75 dX10_says_73 rfl rfl ?_
        refine jr_icmp_ge 88 78 dX10_says_75 rfl rfl (fun q => absurd q (by decide)) (fun q75 => ?_)
        refine jr_aload_n 0 79 dX10_says_78 rfl rfl rfl ?_
        refine gf_X10_61 82 dX10_says_79 rfl rfl rfl rfl ?_
        refine jr_iload 84 dX10_says_82 rfl rfl ?_
        refine jr_iald rfl (k := 0) rfl (by decide) 85 dX10_says_84 rfl ?_
        refine jr_goto 93 dX10_says_85 rfl ?_
        refine jr_iast rfl (k := h) rfl (by omega) 94 dX10_says_93 rfl ?_
        refine jr_iinc (v := nI (h + 1)) (L' := [_, _, _, _, _]) 97 dX10_says_94 rfl rfl (nI_1 h) (by decide) rfl ?_
        refine jr_goto 191 dX10_says_97 rfl ?_
        refine jr_iinc (v := nI (i + 1)) (L' := [_, _, _, _, _]) 194 dX10_says_191 rfl rfl (nI_1 i) (by decide) rfl ?_
        refine jr_goto 16 dX10_says_194 rfl ?_
        exact ih (i + 1) (h + 1) _ _ hru hend hc1 (by omega) hw2 (by omega) (fun f => by have := hk f; rw [show ev (σ 64) h (σ 63) (0 :: l) = ev (σ 64) (h + 1) (upd (σ 63) h (σ 64 0)) l from rfl] at this; rw [jr_upc_up]; exact this)
      · refine jr_iload_n 3 17 dX10_says_16 rfl rfl rfl ?_
        refine jr_aload_n 0 18 dX10_says_17 rfl rfl rfl ?_
        refine gf_X10_34 21 dX10_says_18 rfl rfl rfl rfl ?_
        refine jr_iconst (nI 4) 22 dX10_says_21 rfl rfl ?_
        refine jr_aload_n 0 23 dX10_says_22 rfl rfl rfl ?_
        refine gf_X10_118 26 dX10_says_23 rfl rfl rfl rfl ?_
        rw [hru]
        refine jr_imul 27 dX10_says_26 rfl ?_
        refine jr_iload_n 1 28 dX10_says_27 rfl rfl rfl ?_
        refine jr_iadd 29 dX10_says_28 rfl ?_
        refine jr_iconst (nI 1) 30 dX10_says_29 rfl rfl ?_
        refine jr_iadd 31 dX10_says_30 rfl ?_
        refine jr_iale (k := 4 * r + (p + 1)) rfl (by rw [pk_mul, nI_add, nI_add]; congr 1) (by omega) hend 32 dX10_says_31 rfl ?_
        refine jr_icmp_ge 197 35 dX10_says_32 rfl rfl (fun q => absurd q (nI_ge (by omega) (by omega))) (fun q32 => ?_)
        refine jr_aload_n 0 36 dX10_says_35 rfl rfl rfl ?_
        refine gf_X10_31 39 dX10_says_36 rfl rfl rfl rfl ?_
        refine jr_sipush (nI 200) 42 dX10_says_39 rfl rfl ?_
        refine jr_aload_n 0 43 dX10_says_42 rfl rfl rfl ?_
        refine gf_X10_118 46 dX10_says_43 rfl rfl rfl rfl ?_
        rw [hru]
        refine jr_imul 47 dX10_says_46 rfl ?_
        refine jr_iload_n 3 48 dX10_says_47 rfl rfl rfl ?_
        refine jr_iadd 49 dX10_says_48 rfl ?_
        refine jr_iale (k := 200 * r + i) rfl (by rw [pk_mul, nI_add]) (by omega) hc0 50 dX10_says_49 rfl ?_
        refine jr_istore (L' := [_, _, _, _, _]) 52 dX10_says_50 rfl (by decide) rfl ?_
        refine jr_iload 54 dX10_says_52 rfl rfl ?_
        refine jr_ldc kc_X10_167 56 dX10_says_54 rfl ?_
        refine jr_icmp_ge 66 59 dX10_says_56 rfl rfl (fun q => absurd q (by decide)) (fun q56 => ?_)
        refine jr_iload 61 dX10_says_59 rfl rfl ?_
        refine jr_bipush (nI 11) 63 dX10_says_61 rfl rfl ?_
        refine jr_icmp_ge 100 66 dX10_says_63 rfl rfl (fun q => absurd q (by decide)) (fun q63 => ?_)
        refine jr_aload_n 0 67 dX10_says_66 rfl rfl rfl ?_
        refine gf_X10_58 70 dX10_says_67 rfl rfl rfl rfl ?_
        refine jr_iload_n 2 71 dX10_says_70 rfl rfl rfl ?_
        refine jr_iload 73 dX10_says_71 rfl rfl ?_
        refine jr_bipush (nI 11) 75 dX10_says_73 rfl rfl ?_
        refine jr_icmp_ge 88 78 dX10_says_75 rfl rfl (fun q => absurd q (by decide)) (fun q75 => ?_)
        refine jr_aload_n 0 79 dX10_says_78 rfl rfl rfl ?_
        refine gf_X10_61 82 dX10_says_79 rfl rfl rfl rfl ?_
        refine jr_iload 84 dX10_says_82 rfl rfl ?_
        refine jr_iald rfl (k := 1) rfl (by decide) 85 dX10_says_84 rfl ?_
        refine jr_goto 93 dX10_says_85 rfl ?_
        refine jr_iast rfl (k := h) rfl (by omega) 94 dX10_says_93 rfl ?_
        refine jr_iinc (v := nI (h + 1)) (L' := [_, _, _, _, _]) 97 dX10_says_94 rfl rfl (nI_1 h) (by decide) rfl ?_
        refine jr_goto 191 dX10_says_97 rfl ?_
        refine jr_iinc (v := nI (i + 1)) (L' := [_, _, _, _, _]) 194 dX10_says_191 rfl rfl (nI_1 i) (by decide) rfl ?_
        refine jr_goto 16 dX10_says_194 rfl ?_
        exact ih (i + 1) (h + 1) _ _ hru hend hc1 (by omega) hw2 (by omega) (fun f => by have := hk f; rw [show ev (σ 64) h (σ 63) (1 :: l) = ev (σ 64) (h + 1) (upd (σ 63) h (σ 64 1)) l from rfl] at this; rw [jr_upc_up]; exact this)
      · refine jr_iload_n 3 17 dX10_says_16 rfl rfl rfl ?_
        refine jr_aload_n 0 18 dX10_says_17 rfl rfl rfl ?_
        refine gf_X10_34 21 dX10_says_18 rfl rfl rfl rfl ?_
        refine jr_iconst (nI 4) 22 dX10_says_21 rfl rfl ?_
        refine jr_aload_n 0 23 dX10_says_22 rfl rfl rfl ?_
        refine gf_X10_118 26 dX10_says_23 rfl rfl rfl rfl ?_
        rw [hru]
        refine jr_imul 27 dX10_says_26 rfl ?_
        refine jr_iload_n 1 28 dX10_says_27 rfl rfl rfl ?_
        refine jr_iadd 29 dX10_says_28 rfl ?_
        refine jr_iconst (nI 1) 30 dX10_says_29 rfl rfl ?_
        refine jr_iadd 31 dX10_says_30 rfl ?_
        refine jr_iale (k := 4 * r + (p + 1)) rfl (by rw [pk_mul, nI_add, nI_add]; congr 1) (by omega) hend 32 dX10_says_31 rfl ?_
        refine jr_icmp_ge 197 35 dX10_says_32 rfl rfl (fun q => absurd q (nI_ge (by omega) (by omega))) (fun q32 => ?_)
        refine jr_aload_n 0 36 dX10_says_35 rfl rfl rfl ?_
        refine gf_X10_31 39 dX10_says_36 rfl rfl rfl rfl ?_
        refine jr_sipush (nI 200) 42 dX10_says_39 rfl rfl ?_
        refine jr_aload_n 0 43 dX10_says_42 rfl rfl rfl ?_
        refine gf_X10_118 46 dX10_says_43 rfl rfl rfl rfl ?_
        rw [hru]
        refine jr_imul 47 dX10_says_46 rfl ?_
        refine jr_iload_n 3 48 dX10_says_47 rfl rfl rfl ?_
        refine jr_iadd 49 dX10_says_48 rfl ?_
        refine jr_iale (k := 200 * r + i) rfl (by rw [pk_mul, nI_add]) (by omega) hc0 50 dX10_says_49 rfl ?_
        refine jr_istore (L' := [_, _, _, _, _]) 52 dX10_says_50 rfl (by decide) rfl ?_
        refine jr_iload 54 dX10_says_52 rfl rfl ?_
        refine jr_ldc kc_X10_167 56 dX10_says_54 rfl ?_
        refine jr_icmp_ge 66 59 dX10_says_56 rfl rfl (fun q => absurd q (by decide)) (fun q56 => ?_)
        refine jr_iload 61 dX10_says_59 rfl rfl ?_
        refine jr_bipush (nI 11) 63 dX10_says_61 rfl rfl ?_
        refine jr_icmp_ge 100 66 dX10_says_63 rfl rfl (fun q => absurd q (by decide)) (fun q63 => ?_)
        refine jr_aload_n 0 67 dX10_says_66 rfl rfl rfl ?_
        refine gf_X10_58 70 dX10_says_67 rfl rfl rfl rfl ?_
        refine jr_iload_n 2 71 dX10_says_70 rfl rfl rfl ?_
        refine jr_iload 73 dX10_says_71 rfl rfl ?_
        refine jr_bipush (nI 11) 75 dX10_says_73 rfl rfl ?_
        refine jr_icmp_ge 88 78 dX10_says_75 rfl rfl (fun q => absurd q (by decide)) (fun q75 => ?_)
        refine jr_aload_n 0 79 dX10_says_78 rfl rfl rfl ?_
        refine gf_X10_61 82 dX10_says_79 rfl rfl rfl rfl ?_
        refine jr_iload 84 dX10_says_82 rfl rfl ?_
        refine jr_iald rfl (k := 2) rfl (by decide) 85 dX10_says_84 rfl ?_
        refine jr_goto 93 dX10_says_85 rfl ?_
        refine jr_iast rfl (k := h) rfl (by omega) 94 dX10_says_93 rfl ?_
        refine jr_iinc (v := nI (h + 1)) (L' := [_, _, _, _, _]) 97 dX10_says_94 rfl rfl (nI_1 h) (by decide) rfl ?_
        refine jr_goto 191 dX10_says_97 rfl ?_
        refine jr_iinc (v := nI (i + 1)) (L' := [_, _, _, _, _]) 194 dX10_says_191 rfl rfl (nI_1 i) (by decide) rfl ?_
        refine jr_goto 16 dX10_says_194 rfl ?_
        exact ih (i + 1) (h + 1) _ _ hru hend hc1 (by omega) hw2 (by omega) (fun f => by have := hk f; rw [show ev (σ 64) h (σ 63) (2 :: l) = ev (σ 64) (h + 1) (upd (σ 63) h (σ 64 2)) l from rfl] at this; rw [jr_upc_up]; exact this)
      · refine jr_iload_n 3 17 dX10_says_16 rfl rfl rfl ?_
        refine jr_aload_n 0 18 dX10_says_17 rfl rfl rfl ?_
        refine gf_X10_34 21 dX10_says_18 rfl rfl rfl rfl ?_
        refine jr_iconst (nI 4) 22 dX10_says_21 rfl rfl ?_
        refine jr_aload_n 0 23 dX10_says_22 rfl rfl rfl ?_
        refine gf_X10_118 26 dX10_says_23 rfl rfl rfl rfl ?_
        rw [hru]
        refine jr_imul 27 dX10_says_26 rfl ?_
        refine jr_iload_n 1 28 dX10_says_27 rfl rfl rfl ?_
        refine jr_iadd 29 dX10_says_28 rfl ?_
        refine jr_iconst (nI 1) 30 dX10_says_29 rfl rfl ?_
        refine jr_iadd 31 dX10_says_30 rfl ?_
        refine jr_iale (k := 4 * r + (p + 1)) rfl (by rw [pk_mul, nI_add, nI_add]; congr 1) (by omega) hend 32 dX10_says_31 rfl ?_
        refine jr_icmp_ge 197 35 dX10_says_32 rfl rfl (fun q => absurd q (nI_ge (by omega) (by omega))) (fun q32 => ?_)
        refine jr_aload_n 0 36 dX10_says_35 rfl rfl rfl ?_
        refine gf_X10_31 39 dX10_says_36 rfl rfl rfl rfl ?_
        refine jr_sipush (nI 200) 42 dX10_says_39 rfl rfl ?_
        refine jr_aload_n 0 43 dX10_says_42 rfl rfl rfl ?_
        refine gf_X10_118 46 dX10_says_43 rfl rfl rfl rfl ?_
        rw [hru]
        refine jr_imul 47 dX10_says_46 rfl ?_
        refine jr_iload_n 3 48 dX10_says_47 rfl rfl rfl ?_
        refine jr_iadd 49 dX10_says_48 rfl ?_
        refine jr_iale (k := 200 * r + i) rfl (by rw [pk_mul, nI_add]) (by omega) hc0 50 dX10_says_49 rfl ?_
        refine jr_istore (L' := [_, _, _, _, _]) 52 dX10_says_50 rfl (by decide) rfl ?_
        refine jr_iload 54 dX10_says_52 rfl rfl ?_
        refine jr_ldc kc_X10_167 56 dX10_says_54 rfl ?_
        refine jr_icmp_ge 66 59 dX10_says_56 rfl rfl (fun q => absurd q (by decide)) (fun q56 => ?_)
        refine jr_iload 61 dX10_says_59 rfl rfl ?_
        refine jr_bipush (nI 11) 63 dX10_says_61 rfl rfl ?_
        refine jr_icmp_ge 100 66 dX10_says_63 rfl rfl (fun q => absurd q (by decide)) (fun q63 => ?_)
        refine jr_aload_n 0 67 dX10_says_66 rfl rfl rfl ?_
        refine gf_X10_58 70 dX10_says_67 rfl rfl rfl rfl ?_
        refine jr_iload_n 2 71 dX10_says_70 rfl rfl rfl ?_
        refine jr_iload 73 dX10_says_71 rfl rfl ?_
        refine jr_bipush (nI 11) 75 dX10_says_73 rfl rfl ?_
        refine jr_icmp_ge 88 78 dX10_says_75 rfl rfl (fun q => absurd q (by decide)) (fun q75 => ?_)
        refine jr_aload_n 0 79 dX10_says_78 rfl rfl rfl ?_
        refine gf_X10_61 82 dX10_says_79 rfl rfl rfl rfl ?_
        refine jr_iload 84 dX10_says_82 rfl rfl ?_
        refine jr_iald rfl (k := 3) rfl (by decide) 85 dX10_says_84 rfl ?_
        refine jr_goto 93 dX10_says_85 rfl ?_
        refine jr_iast rfl (k := h) rfl (by omega) 94 dX10_says_93 rfl ?_
        refine jr_iinc (v := nI (h + 1)) (L' := [_, _, _, _, _]) 97 dX10_says_94 rfl rfl (nI_1 h) (by decide) rfl ?_
        refine jr_goto 191 dX10_says_97 rfl ?_
        refine jr_iinc (v := nI (i + 1)) (L' := [_, _, _, _, _]) 194 dX10_says_191 rfl rfl (nI_1 i) (by decide) rfl ?_
        refine jr_goto 16 dX10_says_194 rfl ?_
        exact ih (i + 1) (h + 1) _ _ hru hend hc1 (by omega) hw2 (by omega) (fun f => by have := hk f; rw [show ev (σ 64) h (σ 63) (3 :: l) = ev (σ 64) (h + 1) (upd (σ 63) h (σ 64 3)) l from rfl] at this; rw [jr_upc_up]; exact this)
      · refine jr_iload_n 3 17 dX10_says_16 rfl rfl rfl ?_
        refine jr_aload_n 0 18 dX10_says_17 rfl rfl rfl ?_
        refine gf_X10_34 21 dX10_says_18 rfl rfl rfl rfl ?_
        refine jr_iconst (nI 4) 22 dX10_says_21 rfl rfl ?_
        refine jr_aload_n 0 23 dX10_says_22 rfl rfl rfl ?_
        refine gf_X10_118 26 dX10_says_23 rfl rfl rfl rfl ?_
        rw [hru]
        refine jr_imul 27 dX10_says_26 rfl ?_
        refine jr_iload_n 1 28 dX10_says_27 rfl rfl rfl ?_
        refine jr_iadd 29 dX10_says_28 rfl ?_
        refine jr_iconst (nI 1) 30 dX10_says_29 rfl rfl ?_
        refine jr_iadd 31 dX10_says_30 rfl ?_
        refine jr_iale (k := 4 * r + (p + 1)) rfl (by rw [pk_mul, nI_add, nI_add]; congr 1) (by omega) hend 32 dX10_says_31 rfl ?_
        refine jr_icmp_ge 197 35 dX10_says_32 rfl rfl (fun q => absurd q (nI_ge (by omega) (by omega))) (fun q32 => ?_)
        refine jr_aload_n 0 36 dX10_says_35 rfl rfl rfl ?_
        refine gf_X10_31 39 dX10_says_36 rfl rfl rfl rfl ?_
        refine jr_sipush (nI 200) 42 dX10_says_39 rfl rfl ?_
        refine jr_aload_n 0 43 dX10_says_42 rfl rfl rfl ?_
        refine gf_X10_118 46 dX10_says_43 rfl rfl rfl rfl ?_
        rw [hru]
        refine jr_imul 47 dX10_says_46 rfl ?_
        refine jr_iload_n 3 48 dX10_says_47 rfl rfl rfl ?_
        refine jr_iadd 49 dX10_says_48 rfl ?_
        refine jr_iale (k := 200 * r + i) rfl (by rw [pk_mul, nI_add]) (by omega) hc0 50 dX10_says_49 rfl ?_
        refine jr_istore (L' := [_, _, _, _, _]) 52 dX10_says_50 rfl (by decide) rfl ?_
        refine jr_iload 54 dX10_says_52 rfl rfl ?_
        refine jr_ldc kc_X10_167 56 dX10_says_54 rfl ?_
        refine jr_icmp_ge 66 59 dX10_says_56 rfl rfl (fun q => absurd q (by decide)) (fun q56 => ?_)
        refine jr_iload 61 dX10_says_59 rfl rfl ?_
        refine jr_bipush (nI 11) 63 dX10_says_61 rfl rfl ?_
        refine jr_icmp_ge 100 66 dX10_says_63 rfl rfl (fun q => absurd q (by decide)) (fun q63 => ?_)
        refine jr_aload_n 0 67 dX10_says_66 rfl rfl rfl ?_
        refine gf_X10_58 70 dX10_says_67 rfl rfl rfl rfl ?_
        refine jr_iload_n 2 71 dX10_says_70 rfl rfl rfl ?_
        refine jr_iload 73 dX10_says_71 rfl rfl ?_
        refine jr_bipush (nI 11) 75 dX10_says_73 rfl rfl ?_
        refine jr_icmp_ge 88 78 dX10_says_75 rfl rfl (fun q => absurd q (by decide)) (fun q75 => ?_)
        refine jr_aload_n 0 79 dX10_says_78 rfl rfl rfl ?_
        refine gf_X10_61 82 dX10_says_79 rfl rfl rfl rfl ?_
        refine jr_iload 84 dX10_says_82 rfl rfl ?_
        refine jr_iald rfl (k := 4) rfl (by decide) 85 dX10_says_84 rfl ?_
        refine jr_goto 93 dX10_says_85 rfl ?_
        refine jr_iast rfl (k := h) rfl (by omega) 94 dX10_says_93 rfl ?_
        refine jr_iinc (v := nI (h + 1)) (L' := [_, _, _, _, _]) 97 dX10_says_94 rfl rfl (nI_1 h) (by decide) rfl ?_
        refine jr_goto 191 dX10_says_97 rfl ?_
        refine jr_iinc (v := nI (i + 1)) (L' := [_, _, _, _, _]) 194 dX10_says_191 rfl rfl (nI_1 i) (by decide) rfl ?_
        refine jr_goto 16 dX10_says_194 rfl ?_
        exact ih (i + 1) (h + 1) _ _ hru hend hc1 (by omega) hw2 (by omega) (fun f => by have := hk f; rw [show ev (σ 64) h (σ 63) (4 :: l) = ev (σ 64) (h + 1) (upd (σ 63) h (σ 64 4)) l from rfl] at this; rw [jr_upc_up]; exact this)
      · refine jr_iload_n 3 17 dX10_says_16 rfl rfl rfl ?_
        refine jr_aload_n 0 18 dX10_says_17 rfl rfl rfl ?_
        refine gf_X10_34 21 dX10_says_18 rfl rfl rfl rfl ?_
        refine jr_iconst (nI 4) 22 dX10_says_21 rfl rfl ?_
        refine jr_aload_n 0 23 dX10_says_22 rfl rfl rfl ?_
        refine gf_X10_118 26 dX10_says_23 rfl rfl rfl rfl ?_
        rw [hru]
        refine jr_imul 27 dX10_says_26 rfl ?_
        refine jr_iload_n 1 28 dX10_says_27 rfl rfl rfl ?_
        refine jr_iadd 29 dX10_says_28 rfl ?_
        refine jr_iconst (nI 1) 30 dX10_says_29 rfl rfl ?_
        refine jr_iadd 31 dX10_says_30 rfl ?_
        refine jr_iale (k := 4 * r + (p + 1)) rfl (by rw [pk_mul, nI_add, nI_add]; congr 1) (by omega) hend 32 dX10_says_31 rfl ?_
        refine jr_icmp_ge 197 35 dX10_says_32 rfl rfl (fun q => absurd q (nI_ge (by omega) (by omega))) (fun q32 => ?_)
        refine jr_aload_n 0 36 dX10_says_35 rfl rfl rfl ?_
        refine gf_X10_31 39 dX10_says_36 rfl rfl rfl rfl ?_
        refine jr_sipush (nI 200) 42 dX10_says_39 rfl rfl ?_
        refine jr_aload_n 0 43 dX10_says_42 rfl rfl rfl ?_
        refine gf_X10_118 46 dX10_says_43 rfl rfl rfl rfl ?_
        rw [hru]
        refine jr_imul 47 dX10_says_46 rfl ?_
        refine jr_iload_n 3 48 dX10_says_47 rfl rfl rfl ?_
        refine jr_iadd 49 dX10_says_48 rfl ?_
        refine jr_iale (k := 200 * r + i) rfl (by rw [pk_mul, nI_add]) (by omega) hc0 50 dX10_says_49 rfl ?_
        refine jr_istore (L' := [_, _, _, _, _]) 52 dX10_says_50 rfl (by decide) rfl ?_
        refine jr_iload 54 dX10_says_52 rfl rfl ?_
        refine jr_ldc kc_X10_167 56 dX10_says_54 rfl ?_
        refine jr_icmp_ge 66 59 dX10_says_56 rfl rfl (fun q => absurd q (by decide)) (fun q56 => ?_)
        refine jr_iload 61 dX10_says_59 rfl rfl ?_
        refine jr_bipush (nI 11) 63 dX10_says_61 rfl rfl ?_
        refine jr_icmp_ge 100 66 dX10_says_63 rfl rfl (fun q => absurd q (by decide)) (fun q63 => ?_)
        refine jr_aload_n 0 67 dX10_says_66 rfl rfl rfl ?_
        refine gf_X10_58 70 dX10_says_67 rfl rfl rfl rfl ?_
        refine jr_iload_n 2 71 dX10_says_70 rfl rfl rfl ?_
        refine jr_iload 73 dX10_says_71 rfl rfl ?_
        refine jr_bipush (nI 11) 75 dX10_says_73 rfl rfl ?_
        refine jr_icmp_ge 88 78 dX10_says_75 rfl rfl (fun q => absurd q (by decide)) (fun q75 => ?_)
        refine jr_aload_n 0 79 dX10_says_78 rfl rfl rfl ?_
        refine gf_X10_61 82 dX10_says_79 rfl rfl rfl rfl ?_
        refine jr_iload 84 dX10_says_82 rfl rfl ?_
        refine jr_iald rfl (k := 5) rfl (by decide) 85 dX10_says_84 rfl ?_
        refine jr_goto 93 dX10_says_85 rfl ?_
        refine jr_iast rfl (k := h) rfl (by omega) 94 dX10_says_93 rfl ?_
        refine jr_iinc (v := nI (h + 1)) (L' := [_, _, _, _, _]) 97 dX10_says_94 rfl rfl (nI_1 h) (by decide) rfl ?_
        refine jr_goto 191 dX10_says_97 rfl ?_
        refine jr_iinc (v := nI (i + 1)) (L' := [_, _, _, _, _]) 194 dX10_says_191 rfl rfl (nI_1 i) (by decide) rfl ?_
        refine jr_goto 16 dX10_says_194 rfl ?_
        exact ih (i + 1) (h + 1) _ _ hru hend hc1 (by omega) hw2 (by omega) (fun f => by have := hk f; rw [show ev (σ 64) h (σ 63) (5 :: l) = ev (σ 64) (h + 1) (upd (σ 63) h (σ 64 5)) l from rfl] at this; rw [jr_upc_up]; exact this)
    · obtain ⟨v, rfl⟩ : ∃ v, o = 100000 + v := ⟨o - 100000, by omega⟩
      have hv : v ≤ 9999 := by omega
      refine jr_iload_n 3 17 dX10_says_16 rfl rfl rfl ?_
      refine jr_aload_n 0 18 dX10_says_17 rfl rfl rfl ?_
      refine gf_X10_34 21 dX10_says_18 rfl rfl rfl rfl ?_
      refine jr_iconst (nI 4) 22 dX10_says_21 rfl rfl ?_
      refine jr_aload_n 0 23 dX10_says_22 rfl rfl rfl ?_
      refine gf_X10_118 26 dX10_says_23 rfl rfl rfl rfl ?_
      rw [hru]
      refine jr_imul 27 dX10_says_26 rfl ?_
      refine jr_iload_n 1 28 dX10_says_27 rfl rfl rfl ?_
      refine jr_iadd 29 dX10_says_28 rfl ?_
      refine jr_iconst (nI 1) 30 dX10_says_29 rfl rfl ?_
      refine jr_iadd 31 dX10_says_30 rfl ?_
      refine jr_iale (k := 4 * r + (p + 1)) rfl (by rw [pk_mul, nI_add, nI_add]; congr 1) (by omega) hend 32 dX10_says_31 rfl ?_
      refine jr_icmp_ge 197 35 dX10_says_32 rfl rfl (fun q => absurd q (nI_ge (by omega) (by omega))) (fun q32 => ?_)
      refine jr_aload_n 0 36 dX10_says_35 rfl rfl rfl ?_
      refine gf_X10_31 39 dX10_says_36 rfl rfl rfl rfl ?_
      refine jr_sipush (nI 200) 42 dX10_says_39 rfl rfl ?_
      refine jr_aload_n 0 43 dX10_says_42 rfl rfl rfl ?_
      refine gf_X10_118 46 dX10_says_43 rfl rfl rfl rfl ?_
      rw [hru]
      refine jr_imul 47 dX10_says_46 rfl ?_
      refine jr_iload_n 3 48 dX10_says_47 rfl rfl rfl ?_
      refine jr_iadd 49 dX10_says_48 rfl ?_
      refine jr_iale (k := 200 * r + i) rfl (by rw [pk_mul, nI_add]) (by omega) hc0 50 dX10_says_49 rfl ?_
      refine jr_istore (L' := [_, _, _, _, _]) 52 dX10_says_50 rfl (by decide) rfl ?_
      refine jr_iload 54 dX10_says_52 rfl rfl ?_
      refine jr_ldc kc_X10_167 56 dX10_says_54 rfl ?_
      refine jr_icmp_ge 66 59 dX10_says_56 rfl rfl (fun q56 => ?_) (fun q => absurd (nI_le (a := 100000) (Nat.le_add_right _ _) (by omega)) q)
      refine jr_aload_n 0 67 dX10_says_66 rfl rfl rfl ?_
      refine gf_X10_58 70 dX10_says_67 rfl rfl rfl rfl ?_
      refine jr_iload_n 2 71 dX10_says_70 rfl rfl rfl ?_
      refine jr_iload 73 dX10_says_71 rfl rfl ?_
      refine jr_bipush (nI 11) 75 dX10_says_73 rfl rfl ?_
      refine jr_icmp_ge 88 78 dX10_says_75 rfl rfl (fun q75 => ?_) (fun q => absurd (nI_le (a := 11) (b := 100000 + v) (by omega) (by omega)) q)
      refine jr_iload 90 dX10_says_88 rfl rfl ?_
      refine jr_ldc kc_X10_167 92 dX10_says_90 rfl ?_
      refine jr_isub 93 dX10_says_92 rfl ?_
      refine jr_iast rfl (k := h) rfl (by omega) 94 dX10_says_93 rfl ?_
      refine jr_iinc (v := nI (h + 1)) (L' := [_, _, _, _, _]) 97 dX10_says_94 rfl rfl (nI_1 h) (by decide) rfl ?_
      refine jr_goto 191 dX10_says_97 rfl ?_
      refine jr_iinc (v := nI (i + 1)) (L' := [_, _, _, _, _]) 194 dX10_says_191 rfl rfl (nI_1 i) (by decide) rfl ?_
      refine jr_goto 16 dX10_says_194 rfl ?_
      exact ih (i + 1) (h + 1) _ _ hru hend hc1 (by omega) hw2 (by omega) (fun f => by have := hk f; rw [show ev (σ 64) h (σ 63) ((100000 + v) :: l) = ev (σ 64) (h + 1) (upd (σ 63) h (nI (100000 + v) - 100000)) l by rw [ev, if_neg (by omega), if_pos (Nat.le_add_right _ _), Nat.add_sub_cancel_left, show (100000 : Int32) = nI 100000 from rfl, pk_sub (Nat.le_add_right _ _), Nat.add_sub_cancel_left]] at this; rw [jr_upc_up]; exact this)
    · obtain ⟨h0, rfl⟩ : ∃ h0, h = h0 + 1 := ⟨h - 1, by omega⟩
      rcases ho with rfl | rfl
      · refine jr_iload_n 3 17 dX10_says_16 rfl rfl rfl ?_
        refine jr_aload_n 0 18 dX10_says_17 rfl rfl rfl ?_
        refine gf_X10_34 21 dX10_says_18 rfl rfl rfl rfl ?_
        refine jr_iconst (nI 4) 22 dX10_says_21 rfl rfl ?_
        refine jr_aload_n 0 23 dX10_says_22 rfl rfl rfl ?_
        refine gf_X10_118 26 dX10_says_23 rfl rfl rfl rfl ?_
        rw [hru]
        refine jr_imul 27 dX10_says_26 rfl ?_
        refine jr_iload_n 1 28 dX10_says_27 rfl rfl rfl ?_
        refine jr_iadd 29 dX10_says_28 rfl ?_
        refine jr_iconst (nI 1) 30 dX10_says_29 rfl rfl ?_
        refine jr_iadd 31 dX10_says_30 rfl ?_
        refine jr_iale (k := 4 * r + (p + 1)) rfl (by rw [pk_mul, nI_add, nI_add]; congr 1) (by omega) hend 32 dX10_says_31 rfl ?_
        refine jr_icmp_ge 197 35 dX10_says_32 rfl rfl (fun q => absurd q (nI_ge (by omega) (by omega))) (fun q32 => ?_)
        refine jr_aload_n 0 36 dX10_says_35 rfl rfl rfl ?_
        refine gf_X10_31 39 dX10_says_36 rfl rfl rfl rfl ?_
        refine jr_sipush (nI 200) 42 dX10_says_39 rfl rfl ?_
        refine jr_aload_n 0 43 dX10_says_42 rfl rfl rfl ?_
        refine gf_X10_118 46 dX10_says_43 rfl rfl rfl rfl ?_
        rw [hru]
        refine jr_imul 47 dX10_says_46 rfl ?_
        refine jr_iload_n 3 48 dX10_says_47 rfl rfl rfl ?_
        refine jr_iadd 49 dX10_says_48 rfl ?_
        refine jr_iale (k := 200 * r + i) rfl (by rw [pk_mul, nI_add]) (by omega) hc0 50 dX10_says_49 rfl ?_
        refine jr_istore (L' := [_, _, _, _, _]) 52 dX10_says_50 rfl (by decide) rfl ?_
        refine jr_iload 54 dX10_says_52 rfl rfl ?_
        refine jr_ldc kc_X10_167 56 dX10_says_54 rfl ?_
        refine jr_icmp_ge 66 59 dX10_says_56 rfl rfl (fun q => absurd q (by decide)) (fun q56 => ?_)
        refine jr_iload 61 dX10_says_59 rfl rfl ?_
        refine jr_bipush (nI 11) 63 dX10_says_61 rfl rfl ?_
        refine jr_icmp_ge 100 66 dX10_says_63 rfl rfl (fun q63 => ?_) (fun q => absurd (by decide) q)
        refine jr_iload 102 dX10_says_100 rfl rfl ?_
        refine jr_bipush (nI 13) 104 dX10_says_102 rfl rfl ?_
        refine jr_icmp_ne 134 107 dX10_says_104 rfl rfl (fun q => absurd (by decide) q) (fun q104 => ?_)
        refine jr_aload_n 0 108 dX10_says_107 rfl rfl rfl ?_
        refine gf_X10_58 111 dX10_says_108 rfl rfl rfl rfl ?_
        refine jr_iload_n 2 112 dX10_says_111 rfl rfl rfl ?_
        refine jr_iconst (nI 1) 113 dX10_says_112 rfl rfl ?_
        refine jr_isub 114 dX10_says_113 rfl ?_
        refine jr_aload_n 0 115 dX10_says_114 rfl rfl rfl ?_
        refine gf_X10_58 118 dX10_says_115 rfl rfl rfl rfl ?_
        refine jr_iload_n 2 119 dX10_says_118 rfl rfl rfl ?_
        refine jr_iconst (nI 1) 120 dX10_says_119 rfl rfl ?_
        refine jr_isub 121 dX10_says_120 rfl ?_
        refine jr_iald rfl (k := h0) (by rw [pk_sub (by omega)]; rfl) (by omega) 122 dX10_says_121 rfl ?_
        refine jr_if_ne 129 125 dX10_says_122 rfl rfl (fun q122 => ?_) (fun q122 => ?_)
        · refine jr_iconst (nI 0) 130 dX10_says_129 rfl rfl ?_
          refine jr_iast rfl (k := h0) (by rw [pk_sub (by omega)]; rfl) (by omega) 131 dX10_says_130 rfl ?_
          refine jr_goto 191 dX10_says_131 rfl ?_
          refine jr_iinc (v := nI (i + 1)) (L' := [_, _, _, _, _]) 194 dX10_says_191 rfl rfl (nI_1 i) (by decide) rfl ?_
          refine jr_goto 16 dX10_says_194 rfl ?_
          exact ih (i + 1) (h0 + 1) _ _ hru hend hc1 (by omega) hw2 (by omega) (fun f => by have := hk f; rw [show ev (σ 64) (h0 + 1) (σ 63) (13 :: l) = ev (σ 64) (h0 + 1) (upd (σ 63) h0 0) l by rw [show ev (σ 64) (h0 + 1) (σ 63) (13 :: l) = ev (σ 64) (h0 + 1) (upd (σ 63) h0 (if σ 63 h0 = 0 then 1 else 0)) l from rfl, if_neg q122]] at this; rw [jr_upc_up]; exact this)
        · refine jr_iconst (nI 1) 126 dX10_says_125 rfl rfl ?_
          refine jr_goto 130 dX10_says_126 rfl ?_
          refine jr_iast rfl (k := h0) (by rw [pk_sub (by omega)]; rfl) (by omega) 131 dX10_says_130 rfl ?_
          refine jr_goto 191 dX10_says_131 rfl ?_
          refine jr_iinc (v := nI (i + 1)) (L' := [_, _, _, _, _]) 194 dX10_says_191 rfl rfl (nI_1 i) (by decide) rfl ?_
          refine jr_goto 16 dX10_says_194 rfl ?_
          exact ih (i + 1) (h0 + 1) _ _ hru hend hc1 (by omega) hw2 (by omega) (fun f => by have := hk f; rw [show ev (σ 64) (h0 + 1) (σ 63) (13 :: l) = ev (σ 64) (h0 + 1) (upd (σ 63) h0 1) l by rw [show ev (σ 64) (h0 + 1) (σ 63) (13 :: l) = ev (σ 64) (h0 + 1) (upd (σ 63) h0 (if σ 63 h0 = 0 then 1 else 0)) l from rfl, if_pos q122]] at this; rw [jr_upc_up]; exact this)
      · refine jr_iload_n 3 17 dX10_says_16 rfl rfl rfl ?_
        refine jr_aload_n 0 18 dX10_says_17 rfl rfl rfl ?_
        refine gf_X10_34 21 dX10_says_18 rfl rfl rfl rfl ?_
        refine jr_iconst (nI 4) 22 dX10_says_21 rfl rfl ?_
        refine jr_aload_n 0 23 dX10_says_22 rfl rfl rfl ?_
        refine gf_X10_118 26 dX10_says_23 rfl rfl rfl rfl ?_
        rw [hru]
        refine jr_imul 27 dX10_says_26 rfl ?_
        refine jr_iload_n 1 28 dX10_says_27 rfl rfl rfl ?_
        refine jr_iadd 29 dX10_says_28 rfl ?_
        refine jr_iconst (nI 1) 30 dX10_says_29 rfl rfl ?_
        refine jr_iadd 31 dX10_says_30 rfl ?_
        refine jr_iale (k := 4 * r + (p + 1)) rfl (by rw [pk_mul, nI_add, nI_add]; congr 1) (by omega) hend 32 dX10_says_31 rfl ?_
        refine jr_icmp_ge 197 35 dX10_says_32 rfl rfl (fun q => absurd q (nI_ge (by omega) (by omega))) (fun q32 => ?_)
        refine jr_aload_n 0 36 dX10_says_35 rfl rfl rfl ?_
        refine gf_X10_31 39 dX10_says_36 rfl rfl rfl rfl ?_
        refine jr_sipush (nI 200) 42 dX10_says_39 rfl rfl ?_
        refine jr_aload_n 0 43 dX10_says_42 rfl rfl rfl ?_
        refine gf_X10_118 46 dX10_says_43 rfl rfl rfl rfl ?_
        rw [hru]
        refine jr_imul 47 dX10_says_46 rfl ?_
        refine jr_iload_n 3 48 dX10_says_47 rfl rfl rfl ?_
        refine jr_iadd 49 dX10_says_48 rfl ?_
        refine jr_iale (k := 200 * r + i) rfl (by rw [pk_mul, nI_add]) (by omega) hc0 50 dX10_says_49 rfl ?_
        refine jr_istore (L' := [_, _, _, _, _]) 52 dX10_says_50 rfl (by decide) rfl ?_
        refine jr_iload 54 dX10_says_52 rfl rfl ?_
        refine jr_ldc kc_X10_167 56 dX10_says_54 rfl ?_
        refine jr_icmp_ge 66 59 dX10_says_56 rfl rfl (fun q => absurd q (by decide)) (fun q56 => ?_)
        refine jr_iload 61 dX10_says_59 rfl rfl ?_
        refine jr_bipush (nI 11) 63 dX10_says_61 rfl rfl ?_
        refine jr_icmp_ge 100 66 dX10_says_63 rfl rfl (fun q63 => ?_) (fun q => absurd (by decide) q)
        refine jr_iload 102 dX10_says_100 rfl rfl ?_
        refine jr_bipush (nI 13) 104 dX10_says_102 rfl rfl ?_
        refine jr_icmp_ne 134 107 dX10_says_104 rfl rfl (fun q104 => ?_) (fun q => absurd q (by decide))
        refine jr_iload 136 dX10_says_134 rfl rfl ?_
        refine jr_bipush (nI 19) 138 dX10_says_136 rfl rfl ?_
        refine jr_icmp_ne 161 141 dX10_says_138 rfl rfl (fun q => absurd (by decide) q) (fun q138 => ?_)
        refine jr_aload_n 0 142 dX10_says_141 rfl rfl rfl ?_
        refine gf_X10_58 145 dX10_says_142 rfl rfl rfl rfl ?_
        refine jr_iload_n 2 146 dX10_says_145 rfl rfl rfl ?_
        refine jr_iconst (nI 1) 147 dX10_says_146 rfl rfl ?_
        refine jr_isub 148 dX10_says_147 rfl ?_
        refine jr_aload_n 0 149 dX10_says_148 rfl rfl rfl ?_
        refine gf_X10_58 152 dX10_says_149 rfl rfl rfl rfl ?_
        refine jr_iload_n 2 153 dX10_says_152 rfl rfl rfl ?_
        refine jr_iconst (nI 1) 154 dX10_says_153 rfl rfl ?_
        refine jr_isub 155 dX10_says_154 rfl ?_
        refine jr_iald rfl (k := h0) (by rw [pk_sub (by omega)]; rfl) (by omega) 156 dX10_says_155 rfl ?_
        refine jr_ineg 157 dX10_says_156 rfl ?_
        refine jr_iast rfl (k := h0) (by rw [pk_sub (by omega)]; rfl) (by omega) 158 dX10_says_157 rfl ?_
        refine jr_goto 191 dX10_says_158 rfl ?_
        refine jr_iinc (v := nI (i + 1)) (L' := [_, _, _, _, _]) 194 dX10_says_191 rfl rfl (nI_1 i) (by decide) rfl ?_
        refine jr_goto 16 dX10_says_194 rfl ?_
        exact ih (i + 1) (h0 + 1) _ _ hru hend hc1 (by omega) hw2 (by omega) (fun f => by have := hk f; rw [show ev (σ 64) (h0 + 1) (σ 63) (19 :: l) = ev (σ 64) (h0 + 1) (upd (σ 63) h0 (-(σ 63 h0))) l from rfl] at this; rw [jr_upc_up]; exact this)
    · obtain ⟨h0, rfl⟩ : ∃ h0, h = h0 + 2 := ⟨h - 2, by omega⟩
      replace hw2 : ev_wf (h0 + 1) l := hw2
      rcases ho with rfl | rfl | rfl | rfl | rfl | rfl | rfl
      · refine jr_iload_n 3 17 dX10_says_16 rfl rfl rfl ?_
        refine jr_aload_n 0 18 dX10_says_17 rfl rfl rfl ?_
        refine gf_X10_34 21 dX10_says_18 rfl rfl rfl rfl ?_
        refine jr_iconst (nI 4) 22 dX10_says_21 rfl rfl ?_
        refine jr_aload_n 0 23 dX10_says_22 rfl rfl rfl ?_
        refine gf_X10_118 26 dX10_says_23 rfl rfl rfl rfl ?_
        rw [hru]
        refine jr_imul 27 dX10_says_26 rfl ?_
        refine jr_iload_n 1 28 dX10_says_27 rfl rfl rfl ?_
        refine jr_iadd 29 dX10_says_28 rfl ?_
        refine jr_iconst (nI 1) 30 dX10_says_29 rfl rfl ?_
        refine jr_iadd 31 dX10_says_30 rfl ?_
        refine jr_iale (k := 4 * r + (p + 1)) rfl (by rw [pk_mul, nI_add, nI_add]; congr 1) (by omega) hend 32 dX10_says_31 rfl ?_
        refine jr_icmp_ge 197 35 dX10_says_32 rfl rfl (fun q => absurd q (nI_ge (by omega) (by omega))) (fun q32 => ?_)
        refine jr_aload_n 0 36 dX10_says_35 rfl rfl rfl ?_
        refine gf_X10_31 39 dX10_says_36 rfl rfl rfl rfl ?_
        refine jr_sipush (nI 200) 42 dX10_says_39 rfl rfl ?_
        refine jr_aload_n 0 43 dX10_says_42 rfl rfl rfl ?_
        refine gf_X10_118 46 dX10_says_43 rfl rfl rfl rfl ?_
        rw [hru]
        refine jr_imul 47 dX10_says_46 rfl ?_
        refine jr_iload_n 3 48 dX10_says_47 rfl rfl rfl ?_
        refine jr_iadd 49 dX10_says_48 rfl ?_
        refine jr_iale (k := 200 * r + i) rfl (by rw [pk_mul, nI_add]) (by omega) hc0 50 dX10_says_49 rfl ?_
        refine jr_istore (L' := [_, _, _, _, _]) 52 dX10_says_50 rfl (by decide) rfl ?_
        refine jr_iload 54 dX10_says_52 rfl rfl ?_
        refine jr_ldc kc_X10_167 56 dX10_says_54 rfl ?_
        refine jr_icmp_ge 66 59 dX10_says_56 rfl rfl (fun q => absurd q (by decide)) (fun q56 => ?_)
        refine jr_iload 61 dX10_says_59 rfl rfl ?_
        refine jr_bipush (nI 11) 63 dX10_says_61 rfl rfl ?_
        refine jr_icmp_ge 100 66 dX10_says_63 rfl rfl (fun q63 => ?_) (fun q => absurd (by decide) q)
        refine jr_iload 102 dX10_says_100 rfl rfl ?_
        refine jr_bipush (nI 13) 104 dX10_says_102 rfl rfl ?_
        refine jr_icmp_ne 134 107 dX10_says_104 rfl rfl (fun q104 => ?_) (fun q => absurd q (by decide))
        refine jr_iload 136 dX10_says_134 rfl rfl ?_
        refine jr_bipush (nI 19) 138 dX10_says_136 rfl rfl ?_
        refine jr_icmp_ne 161 141 dX10_says_138 rfl rfl (fun q138 => ?_) (fun q => absurd q (by decide))
        refine jr_iinc (v := nI (h0 + 1)) (L' := [_, _, _, _, _]) 164 dX10_says_161 rfl rfl (pk_m1 (h0 + 1)) (by decide) rfl ?_
        refine jr_aload_n 0 165 dX10_says_164 rfl rfl rfl ?_
        refine gf_X10_58 168 dX10_says_165 rfl rfl rfl rfl ?_
        refine jr_iload_n 2 169 dX10_says_168 rfl rfl rfl ?_
        refine jr_iconst (nI 1) 170 dX10_says_169 rfl rfl ?_
        refine jr_isub 171 dX10_says_170 rfl ?_
        refine jr_iload 173 dX10_says_171 rfl rfl ?_
        refine jr_aload_n 0 174 dX10_says_173 rfl rfl rfl ?_
        refine gf_X10_58 177 dX10_says_174 rfl rfl rfl rfl ?_
        refine jr_iload_n 2 178 dX10_says_177 rfl rfl rfl ?_
        refine jr_iconst (nI 1) 179 dX10_says_178 rfl rfl ?_
        refine jr_isub 180 dX10_says_179 rfl ?_
        refine jr_iald rfl (k := h0) (by rw [pk_sub (by omega)]; rfl) (by omega) 181 dX10_says_180 rfl ?_
        refine jr_aload_n 0 182 dX10_says_181 rfl rfl rfl ?_
        refine gf_X10_58 185 dX10_says_182 rfl rfl rfl rfl ?_
        refine jr_iload_n 2 186 dX10_says_185 rfl rfl rfl ?_
        refine jr_iald rfl (k := h0 + 1) rfl (by omega) 187 dX10_says_186 rfl ?_
        refine cs_X10_181 190 dX10_says_187 rfl rfl (Nat.le_of_ble_eq_true rfl) (wp_two_11 ?_)
        refine jr_iast rfl (k := h0) (by rw [pk_sub (by omega)]; rfl) (by omega) 191 dX10_says_190 rfl ?_
        refine jr_iinc (v := nI (i + 1)) (L' := [_, _, _, _, _]) 194 dX10_says_191 rfl rfl (nI_1 i) (by decide) rfl ?_
        refine jr_goto 16 dX10_says_194 rfl ?_
        exact ih (i + 1) (h0 + 1) _ _ hru hend hc1 (by omega) hw2 (by omega) (fun f => by have := hk f; rw [show ev (σ 64) (h0 + 2) (σ 63) (11 :: l) = ev (σ 64) (h0 + 1) (upd (σ 63) h0 (ev_two 11 (σ 63 h0) (σ 63 (h0 + 1)))) l from rfl] at this; rw [jr_upc_up]; exact this)
      · refine jr_iload_n 3 17 dX10_says_16 rfl rfl rfl ?_
        refine jr_aload_n 0 18 dX10_says_17 rfl rfl rfl ?_
        refine gf_X10_34 21 dX10_says_18 rfl rfl rfl rfl ?_
        refine jr_iconst (nI 4) 22 dX10_says_21 rfl rfl ?_
        refine jr_aload_n 0 23 dX10_says_22 rfl rfl rfl ?_
        refine gf_X10_118 26 dX10_says_23 rfl rfl rfl rfl ?_
        rw [hru]
        refine jr_imul 27 dX10_says_26 rfl ?_
        refine jr_iload_n 1 28 dX10_says_27 rfl rfl rfl ?_
        refine jr_iadd 29 dX10_says_28 rfl ?_
        refine jr_iconst (nI 1) 30 dX10_says_29 rfl rfl ?_
        refine jr_iadd 31 dX10_says_30 rfl ?_
        refine jr_iale (k := 4 * r + (p + 1)) rfl (by rw [pk_mul, nI_add, nI_add]; congr 1) (by omega) hend 32 dX10_says_31 rfl ?_
        refine jr_icmp_ge 197 35 dX10_says_32 rfl rfl (fun q => absurd q (nI_ge (by omega) (by omega))) (fun q32 => ?_)
        refine jr_aload_n 0 36 dX10_says_35 rfl rfl rfl ?_
        refine gf_X10_31 39 dX10_says_36 rfl rfl rfl rfl ?_
        refine jr_sipush (nI 200) 42 dX10_says_39 rfl rfl ?_
        refine jr_aload_n 0 43 dX10_says_42 rfl rfl rfl ?_
        refine gf_X10_118 46 dX10_says_43 rfl rfl rfl rfl ?_
        rw [hru]
        refine jr_imul 47 dX10_says_46 rfl ?_
        refine jr_iload_n 3 48 dX10_says_47 rfl rfl rfl ?_
        refine jr_iadd 49 dX10_says_48 rfl ?_
        refine jr_iale (k := 200 * r + i) rfl (by rw [pk_mul, nI_add]) (by omega) hc0 50 dX10_says_49 rfl ?_
        refine jr_istore (L' := [_, _, _, _, _]) 52 dX10_says_50 rfl (by decide) rfl ?_
        refine jr_iload 54 dX10_says_52 rfl rfl ?_
        refine jr_ldc kc_X10_167 56 dX10_says_54 rfl ?_
        refine jr_icmp_ge 66 59 dX10_says_56 rfl rfl (fun q => absurd q (by decide)) (fun q56 => ?_)
        refine jr_iload 61 dX10_says_59 rfl rfl ?_
        refine jr_bipush (nI 11) 63 dX10_says_61 rfl rfl ?_
        refine jr_icmp_ge 100 66 dX10_says_63 rfl rfl (fun q63 => ?_) (fun q => absurd (by decide) q)
        refine jr_iload 102 dX10_says_100 rfl rfl ?_
        refine jr_bipush (nI 13) 104 dX10_says_102 rfl rfl ?_
        refine jr_icmp_ne 134 107 dX10_says_104 rfl rfl (fun q104 => ?_) (fun q => absurd q (by decide))
        refine jr_iload 136 dX10_says_134 rfl rfl ?_
        refine jr_bipush (nI 19) 138 dX10_says_136 rfl rfl ?_
        refine jr_icmp_ne 161 141 dX10_says_138 rfl rfl (fun q138 => ?_) (fun q => absurd q (by decide))
        refine jr_iinc (v := nI (h0 + 1)) (L' := [_, _, _, _, _]) 164 dX10_says_161 rfl rfl (pk_m1 (h0 + 1)) (by decide) rfl ?_
        refine jr_aload_n 0 165 dX10_says_164 rfl rfl rfl ?_
        refine gf_X10_58 168 dX10_says_165 rfl rfl rfl rfl ?_
        refine jr_iload_n 2 169 dX10_says_168 rfl rfl rfl ?_
        refine jr_iconst (nI 1) 170 dX10_says_169 rfl rfl ?_
        refine jr_isub 171 dX10_says_170 rfl ?_
        refine jr_iload 173 dX10_says_171 rfl rfl ?_
        refine jr_aload_n 0 174 dX10_says_173 rfl rfl rfl ?_
        refine gf_X10_58 177 dX10_says_174 rfl rfl rfl rfl ?_
        refine jr_iload_n 2 178 dX10_says_177 rfl rfl rfl ?_
        refine jr_iconst (nI 1) 179 dX10_says_178 rfl rfl ?_
        refine jr_isub 180 dX10_says_179 rfl ?_
        refine jr_iald rfl (k := h0) (by rw [pk_sub (by omega)]; rfl) (by omega) 181 dX10_says_180 rfl ?_
        refine jr_aload_n 0 182 dX10_says_181 rfl rfl rfl ?_
        refine gf_X10_58 185 dX10_says_182 rfl rfl rfl rfl ?_
        refine jr_iload_n 2 186 dX10_says_185 rfl rfl rfl ?_
        refine jr_iald rfl (k := h0 + 1) rfl (by omega) 187 dX10_says_186 rfl ?_
        refine cs_X10_181 190 dX10_says_187 rfl rfl (Nat.le_of_ble_eq_true rfl) (wp_two_12 ?_)
        refine jr_iast rfl (k := h0) (by rw [pk_sub (by omega)]; rfl) (by omega) 191 dX10_says_190 rfl ?_
        refine jr_iinc (v := nI (i + 1)) (L' := [_, _, _, _, _]) 194 dX10_says_191 rfl rfl (nI_1 i) (by decide) rfl ?_
        refine jr_goto 16 dX10_says_194 rfl ?_
        exact ih (i + 1) (h0 + 1) _ _ hru hend hc1 (by omega) hw2 (by omega) (fun f => by have := hk f; rw [show ev (σ 64) (h0 + 2) (σ 63) (12 :: l) = ev (σ 64) (h0 + 1) (upd (σ 63) h0 (ev_two 12 (σ 63 h0) (σ 63 (h0 + 1)))) l from rfl] at this; rw [jr_upc_up]; exact this)
      · refine jr_iload_n 3 17 dX10_says_16 rfl rfl rfl ?_
        refine jr_aload_n 0 18 dX10_says_17 rfl rfl rfl ?_
        refine gf_X10_34 21 dX10_says_18 rfl rfl rfl rfl ?_
        refine jr_iconst (nI 4) 22 dX10_says_21 rfl rfl ?_
        refine jr_aload_n 0 23 dX10_says_22 rfl rfl rfl ?_
        refine gf_X10_118 26 dX10_says_23 rfl rfl rfl rfl ?_
        rw [hru]
        refine jr_imul 27 dX10_says_26 rfl ?_
        refine jr_iload_n 1 28 dX10_says_27 rfl rfl rfl ?_
        refine jr_iadd 29 dX10_says_28 rfl ?_
        refine jr_iconst (nI 1) 30 dX10_says_29 rfl rfl ?_
        refine jr_iadd 31 dX10_says_30 rfl ?_
        refine jr_iale (k := 4 * r + (p + 1)) rfl (by rw [pk_mul, nI_add, nI_add]; congr 1) (by omega) hend 32 dX10_says_31 rfl ?_
        refine jr_icmp_ge 197 35 dX10_says_32 rfl rfl (fun q => absurd q (nI_ge (by omega) (by omega))) (fun q32 => ?_)
        refine jr_aload_n 0 36 dX10_says_35 rfl rfl rfl ?_
        refine gf_X10_31 39 dX10_says_36 rfl rfl rfl rfl ?_
        refine jr_sipush (nI 200) 42 dX10_says_39 rfl rfl ?_
        refine jr_aload_n 0 43 dX10_says_42 rfl rfl rfl ?_
        refine gf_X10_118 46 dX10_says_43 rfl rfl rfl rfl ?_
        rw [hru]
        refine jr_imul 47 dX10_says_46 rfl ?_
        refine jr_iload_n 3 48 dX10_says_47 rfl rfl rfl ?_
        refine jr_iadd 49 dX10_says_48 rfl ?_
        refine jr_iale (k := 200 * r + i) rfl (by rw [pk_mul, nI_add]) (by omega) hc0 50 dX10_says_49 rfl ?_
        refine jr_istore (L' := [_, _, _, _, _]) 52 dX10_says_50 rfl (by decide) rfl ?_
        refine jr_iload 54 dX10_says_52 rfl rfl ?_
        refine jr_ldc kc_X10_167 56 dX10_says_54 rfl ?_
        refine jr_icmp_ge 66 59 dX10_says_56 rfl rfl (fun q => absurd q (by decide)) (fun q56 => ?_)
        refine jr_iload 61 dX10_says_59 rfl rfl ?_
        refine jr_bipush (nI 11) 63 dX10_says_61 rfl rfl ?_
        refine jr_icmp_ge 100 66 dX10_says_63 rfl rfl (fun q63 => ?_) (fun q => absurd (by decide) q)
        refine jr_iload 102 dX10_says_100 rfl rfl ?_
        refine jr_bipush (nI 13) 104 dX10_says_102 rfl rfl ?_
        refine jr_icmp_ne 134 107 dX10_says_104 rfl rfl (fun q104 => ?_) (fun q => absurd q (by decide))
        refine jr_iload 136 dX10_says_134 rfl rfl ?_
        refine jr_bipush (nI 19) 138 dX10_says_136 rfl rfl ?_
        refine jr_icmp_ne 161 141 dX10_says_138 rfl rfl (fun q138 => ?_) (fun q => absurd q (by decide))
        refine jr_iinc (v := nI (h0 + 1)) (L' := [_, _, _, _, _]) 164 dX10_says_161 rfl rfl (pk_m1 (h0 + 1)) (by decide) rfl ?_
        refine jr_aload_n 0 165 dX10_says_164 rfl rfl rfl ?_
        refine gf_X10_58 168 dX10_says_165 rfl rfl rfl rfl ?_
        refine jr_iload_n 2 169 dX10_says_168 rfl rfl rfl ?_
        refine jr_iconst (nI 1) 170 dX10_says_169 rfl rfl ?_
        refine jr_isub 171 dX10_says_170 rfl ?_
        refine jr_iload 173 dX10_says_171 rfl rfl ?_
        refine jr_aload_n 0 174 dX10_says_173 rfl rfl rfl ?_
        refine gf_X10_58 177 dX10_says_174 rfl rfl rfl rfl ?_
        refine jr_iload_n 2 178 dX10_says_177 rfl rfl rfl ?_
        refine jr_iconst (nI 1) 179 dX10_says_178 rfl rfl ?_
        refine jr_isub 180 dX10_says_179 rfl ?_
        refine jr_iald rfl (k := h0) (by rw [pk_sub (by omega)]; rfl) (by omega) 181 dX10_says_180 rfl ?_
        refine jr_aload_n 0 182 dX10_says_181 rfl rfl rfl ?_
        refine gf_X10_58 185 dX10_says_182 rfl rfl rfl rfl ?_
        refine jr_iload_n 2 186 dX10_says_185 rfl rfl rfl ?_
        refine jr_iald rfl (k := h0 + 1) rfl (by omega) 187 dX10_says_186 rfl ?_
        refine cs_X10_181 190 dX10_says_187 rfl rfl (Nat.le_of_ble_eq_true rfl) (wp_two_14 ?_)
        refine jr_iast rfl (k := h0) (by rw [pk_sub (by omega)]; rfl) (by omega) 191 dX10_says_190 rfl ?_
        refine jr_iinc (v := nI (i + 1)) (L' := [_, _, _, _, _]) 194 dX10_says_191 rfl rfl (nI_1 i) (by decide) rfl ?_
        refine jr_goto 16 dX10_says_194 rfl ?_
        exact ih (i + 1) (h0 + 1) _ _ hru hend hc1 (by omega) hw2 (by omega) (fun f => by have := hk f; rw [show ev (σ 64) (h0 + 2) (σ 63) (14 :: l) = ev (σ 64) (h0 + 1) (upd (σ 63) h0 (ev_two 14 (σ 63 h0) (σ 63 (h0 + 1)))) l from rfl] at this; rw [jr_upc_up]; exact this)
      · refine jr_iload_n 3 17 dX10_says_16 rfl rfl rfl ?_
        refine jr_aload_n 0 18 dX10_says_17 rfl rfl rfl ?_
        refine gf_X10_34 21 dX10_says_18 rfl rfl rfl rfl ?_
        refine jr_iconst (nI 4) 22 dX10_says_21 rfl rfl ?_
        refine jr_aload_n 0 23 dX10_says_22 rfl rfl rfl ?_
        refine gf_X10_118 26 dX10_says_23 rfl rfl rfl rfl ?_
        rw [hru]
        refine jr_imul 27 dX10_says_26 rfl ?_
        refine jr_iload_n 1 28 dX10_says_27 rfl rfl rfl ?_
        refine jr_iadd 29 dX10_says_28 rfl ?_
        refine jr_iconst (nI 1) 30 dX10_says_29 rfl rfl ?_
        refine jr_iadd 31 dX10_says_30 rfl ?_
        refine jr_iale (k := 4 * r + (p + 1)) rfl (by rw [pk_mul, nI_add, nI_add]; congr 1) (by omega) hend 32 dX10_says_31 rfl ?_
        refine jr_icmp_ge 197 35 dX10_says_32 rfl rfl (fun q => absurd q (nI_ge (by omega) (by omega))) (fun q32 => ?_)
        refine jr_aload_n 0 36 dX10_says_35 rfl rfl rfl ?_
        refine gf_X10_31 39 dX10_says_36 rfl rfl rfl rfl ?_
        refine jr_sipush (nI 200) 42 dX10_says_39 rfl rfl ?_
        refine jr_aload_n 0 43 dX10_says_42 rfl rfl rfl ?_
        refine gf_X10_118 46 dX10_says_43 rfl rfl rfl rfl ?_
        rw [hru]
        refine jr_imul 47 dX10_says_46 rfl ?_
        refine jr_iload_n 3 48 dX10_says_47 rfl rfl rfl ?_
        refine jr_iadd 49 dX10_says_48 rfl ?_
        refine jr_iale (k := 200 * r + i) rfl (by rw [pk_mul, nI_add]) (by omega) hc0 50 dX10_says_49 rfl ?_
        refine jr_istore (L' := [_, _, _, _, _]) 52 dX10_says_50 rfl (by decide) rfl ?_
        refine jr_iload 54 dX10_says_52 rfl rfl ?_
        refine jr_ldc kc_X10_167 56 dX10_says_54 rfl ?_
        refine jr_icmp_ge 66 59 dX10_says_56 rfl rfl (fun q => absurd q (by decide)) (fun q56 => ?_)
        refine jr_iload 61 dX10_says_59 rfl rfl ?_
        refine jr_bipush (nI 11) 63 dX10_says_61 rfl rfl ?_
        refine jr_icmp_ge 100 66 dX10_says_63 rfl rfl (fun q63 => ?_) (fun q => absurd (by decide) q)
        refine jr_iload 102 dX10_says_100 rfl rfl ?_
        refine jr_bipush (nI 13) 104 dX10_says_102 rfl rfl ?_
        refine jr_icmp_ne 134 107 dX10_says_104 rfl rfl (fun q104 => ?_) (fun q => absurd q (by decide))
        refine jr_iload 136 dX10_says_134 rfl rfl ?_
        refine jr_bipush (nI 19) 138 dX10_says_136 rfl rfl ?_
        refine jr_icmp_ne 161 141 dX10_says_138 rfl rfl (fun q138 => ?_) (fun q => absurd q (by decide))
        refine jr_iinc (v := nI (h0 + 1)) (L' := [_, _, _, _, _]) 164 dX10_says_161 rfl rfl (pk_m1 (h0 + 1)) (by decide) rfl ?_
        refine jr_aload_n 0 165 dX10_says_164 rfl rfl rfl ?_
        refine gf_X10_58 168 dX10_says_165 rfl rfl rfl rfl ?_
        refine jr_iload_n 2 169 dX10_says_168 rfl rfl rfl ?_
        refine jr_iconst (nI 1) 170 dX10_says_169 rfl rfl ?_
        refine jr_isub 171 dX10_says_170 rfl ?_
        refine jr_iload 173 dX10_says_171 rfl rfl ?_
        refine jr_aload_n 0 174 dX10_says_173 rfl rfl rfl ?_
        refine gf_X10_58 177 dX10_says_174 rfl rfl rfl rfl ?_
        refine jr_iload_n 2 178 dX10_says_177 rfl rfl rfl ?_
        refine jr_iconst (nI 1) 179 dX10_says_178 rfl rfl ?_
        refine jr_isub 180 dX10_says_179 rfl ?_
        refine jr_iald rfl (k := h0) (by rw [pk_sub (by omega)]; rfl) (by omega) 181 dX10_says_180 rfl ?_
        refine jr_aload_n 0 182 dX10_says_181 rfl rfl rfl ?_
        refine gf_X10_58 185 dX10_says_182 rfl rfl rfl rfl ?_
        refine jr_iload_n 2 186 dX10_says_185 rfl rfl rfl ?_
        refine jr_iald rfl (k := h0 + 1) rfl (by omega) 187 dX10_says_186 rfl ?_
        refine cs_X10_181 190 dX10_says_187 rfl rfl (Nat.le_of_ble_eq_true rfl) (wp_two_15 ?_)
        refine jr_iast rfl (k := h0) (by rw [pk_sub (by omega)]; rfl) (by omega) 191 dX10_says_190 rfl ?_
        refine jr_iinc (v := nI (i + 1)) (L' := [_, _, _, _, _]) 194 dX10_says_191 rfl rfl (nI_1 i) (by decide) rfl ?_
        refine jr_goto 16 dX10_says_194 rfl ?_
        exact ih (i + 1) (h0 + 1) _ _ hru hend hc1 (by omega) hw2 (by omega) (fun f => by have := hk f; rw [show ev (σ 64) (h0 + 2) (σ 63) (15 :: l) = ev (σ 64) (h0 + 1) (upd (σ 63) h0 (ev_two 15 (σ 63 h0) (σ 63 (h0 + 1)))) l from rfl] at this; rw [jr_upc_up]; exact this)
      · refine jr_iload_n 3 17 dX10_says_16 rfl rfl rfl ?_
        refine jr_aload_n 0 18 dX10_says_17 rfl rfl rfl ?_
        refine gf_X10_34 21 dX10_says_18 rfl rfl rfl rfl ?_
        refine jr_iconst (nI 4) 22 dX10_says_21 rfl rfl ?_
        refine jr_aload_n 0 23 dX10_says_22 rfl rfl rfl ?_
        refine gf_X10_118 26 dX10_says_23 rfl rfl rfl rfl ?_
        rw [hru]
        refine jr_imul 27 dX10_says_26 rfl ?_
        refine jr_iload_n 1 28 dX10_says_27 rfl rfl rfl ?_
        refine jr_iadd 29 dX10_says_28 rfl ?_
        refine jr_iconst (nI 1) 30 dX10_says_29 rfl rfl ?_
        refine jr_iadd 31 dX10_says_30 rfl ?_
        refine jr_iale (k := 4 * r + (p + 1)) rfl (by rw [pk_mul, nI_add, nI_add]; congr 1) (by omega) hend 32 dX10_says_31 rfl ?_
        refine jr_icmp_ge 197 35 dX10_says_32 rfl rfl (fun q => absurd q (nI_ge (by omega) (by omega))) (fun q32 => ?_)
        refine jr_aload_n 0 36 dX10_says_35 rfl rfl rfl ?_
        refine gf_X10_31 39 dX10_says_36 rfl rfl rfl rfl ?_
        refine jr_sipush (nI 200) 42 dX10_says_39 rfl rfl ?_
        refine jr_aload_n 0 43 dX10_says_42 rfl rfl rfl ?_
        refine gf_X10_118 46 dX10_says_43 rfl rfl rfl rfl ?_
        rw [hru]
        refine jr_imul 47 dX10_says_46 rfl ?_
        refine jr_iload_n 3 48 dX10_says_47 rfl rfl rfl ?_
        refine jr_iadd 49 dX10_says_48 rfl ?_
        refine jr_iale (k := 200 * r + i) rfl (by rw [pk_mul, nI_add]) (by omega) hc0 50 dX10_says_49 rfl ?_
        refine jr_istore (L' := [_, _, _, _, _]) 52 dX10_says_50 rfl (by decide) rfl ?_
        refine jr_iload 54 dX10_says_52 rfl rfl ?_
        refine jr_ldc kc_X10_167 56 dX10_says_54 rfl ?_
        refine jr_icmp_ge 66 59 dX10_says_56 rfl rfl (fun q => absurd q (by decide)) (fun q56 => ?_)
        refine jr_iload 61 dX10_says_59 rfl rfl ?_
        refine jr_bipush (nI 11) 63 dX10_says_61 rfl rfl ?_
        refine jr_icmp_ge 100 66 dX10_says_63 rfl rfl (fun q63 => ?_) (fun q => absurd (by decide) q)
        refine jr_iload 102 dX10_says_100 rfl rfl ?_
        refine jr_bipush (nI 13) 104 dX10_says_102 rfl rfl ?_
        refine jr_icmp_ne 134 107 dX10_says_104 rfl rfl (fun q104 => ?_) (fun q => absurd q (by decide))
        refine jr_iload 136 dX10_says_134 rfl rfl ?_
        refine jr_bipush (nI 19) 138 dX10_says_136 rfl rfl ?_
        refine jr_icmp_ne 161 141 dX10_says_138 rfl rfl (fun q138 => ?_) (fun q => absurd q (by decide))
        refine jr_iinc (v := nI (h0 + 1)) (L' := [_, _, _, _, _]) 164 dX10_says_161 rfl rfl (pk_m1 (h0 + 1)) (by decide) rfl ?_
        refine jr_aload_n 0 165 dX10_says_164 rfl rfl rfl ?_
        refine gf_X10_58 168 dX10_says_165 rfl rfl rfl rfl ?_
        refine jr_iload_n 2 169 dX10_says_168 rfl rfl rfl ?_
        refine jr_iconst (nI 1) 170 dX10_says_169 rfl rfl ?_
        refine jr_isub 171 dX10_says_170 rfl ?_
        refine jr_iload 173 dX10_says_171 rfl rfl ?_
        refine jr_aload_n 0 174 dX10_says_173 rfl rfl rfl ?_
        refine gf_X10_58 177 dX10_says_174 rfl rfl rfl rfl ?_
        refine jr_iload_n 2 178 dX10_says_177 rfl rfl rfl ?_
        refine jr_iconst (nI 1) 179 dX10_says_178 rfl rfl ?_
        refine jr_isub 180 dX10_says_179 rfl ?_
        refine jr_iald rfl (k := h0) (by rw [pk_sub (by omega)]; rfl) (by omega) 181 dX10_says_180 rfl ?_
        refine jr_aload_n 0 182 dX10_says_181 rfl rfl rfl ?_
        refine gf_X10_58 185 dX10_says_182 rfl rfl rfl rfl ?_
        refine jr_iload_n 2 186 dX10_says_185 rfl rfl rfl ?_
        refine jr_iald rfl (k := h0 + 1) rfl (by omega) 187 dX10_says_186 rfl ?_
        refine cs_X10_181 190 dX10_says_187 rfl rfl (Nat.le_of_ble_eq_true rfl) (wp_two_16 ?_)
        refine jr_iast rfl (k := h0) (by rw [pk_sub (by omega)]; rfl) (by omega) 191 dX10_says_190 rfl ?_
        refine jr_iinc (v := nI (i + 1)) (L' := [_, _, _, _, _]) 194 dX10_says_191 rfl rfl (nI_1 i) (by decide) rfl ?_
        refine jr_goto 16 dX10_says_194 rfl ?_
        exact ih (i + 1) (h0 + 1) _ _ hru hend hc1 (by omega) hw2 (by omega) (fun f => by have := hk f; rw [show ev (σ 64) (h0 + 2) (σ 63) (16 :: l) = ev (σ 64) (h0 + 1) (upd (σ 63) h0 (ev_two 16 (σ 63 h0) (σ 63 (h0 + 1)))) l from rfl] at this; rw [jr_upc_up]; exact this)
      · refine jr_iload_n 3 17 dX10_says_16 rfl rfl rfl ?_
        refine jr_aload_n 0 18 dX10_says_17 rfl rfl rfl ?_
        refine gf_X10_34 21 dX10_says_18 rfl rfl rfl rfl ?_
        refine jr_iconst (nI 4) 22 dX10_says_21 rfl rfl ?_
        refine jr_aload_n 0 23 dX10_says_22 rfl rfl rfl ?_
        refine gf_X10_118 26 dX10_says_23 rfl rfl rfl rfl ?_
        rw [hru]
        refine jr_imul 27 dX10_says_26 rfl ?_
        refine jr_iload_n 1 28 dX10_says_27 rfl rfl rfl ?_
        refine jr_iadd 29 dX10_says_28 rfl ?_
        refine jr_iconst (nI 1) 30 dX10_says_29 rfl rfl ?_
        refine jr_iadd 31 dX10_says_30 rfl ?_
        refine jr_iale (k := 4 * r + (p + 1)) rfl (by rw [pk_mul, nI_add, nI_add]; congr 1) (by omega) hend 32 dX10_says_31 rfl ?_
        refine jr_icmp_ge 197 35 dX10_says_32 rfl rfl (fun q => absurd q (nI_ge (by omega) (by omega))) (fun q32 => ?_)
        refine jr_aload_n 0 36 dX10_says_35 rfl rfl rfl ?_
        refine gf_X10_31 39 dX10_says_36 rfl rfl rfl rfl ?_
        refine jr_sipush (nI 200) 42 dX10_says_39 rfl rfl ?_
        refine jr_aload_n 0 43 dX10_says_42 rfl rfl rfl ?_
        refine gf_X10_118 46 dX10_says_43 rfl rfl rfl rfl ?_
        rw [hru]
        refine jr_imul 47 dX10_says_46 rfl ?_
        refine jr_iload_n 3 48 dX10_says_47 rfl rfl rfl ?_
        refine jr_iadd 49 dX10_says_48 rfl ?_
        refine jr_iale (k := 200 * r + i) rfl (by rw [pk_mul, nI_add]) (by omega) hc0 50 dX10_says_49 rfl ?_
        refine jr_istore (L' := [_, _, _, _, _]) 52 dX10_says_50 rfl (by decide) rfl ?_
        refine jr_iload 54 dX10_says_52 rfl rfl ?_
        refine jr_ldc kc_X10_167 56 dX10_says_54 rfl ?_
        refine jr_icmp_ge 66 59 dX10_says_56 rfl rfl (fun q => absurd q (by decide)) (fun q56 => ?_)
        refine jr_iload 61 dX10_says_59 rfl rfl ?_
        refine jr_bipush (nI 11) 63 dX10_says_61 rfl rfl ?_
        refine jr_icmp_ge 100 66 dX10_says_63 rfl rfl (fun q63 => ?_) (fun q => absurd (by decide) q)
        refine jr_iload 102 dX10_says_100 rfl rfl ?_
        refine jr_bipush (nI 13) 104 dX10_says_102 rfl rfl ?_
        refine jr_icmp_ne 134 107 dX10_says_104 rfl rfl (fun q104 => ?_) (fun q => absurd q (by decide))
        refine jr_iload 136 dX10_says_134 rfl rfl ?_
        refine jr_bipush (nI 19) 138 dX10_says_136 rfl rfl ?_
        refine jr_icmp_ne 161 141 dX10_says_138 rfl rfl (fun q138 => ?_) (fun q => absurd q (by decide))
        refine jr_iinc (v := nI (h0 + 1)) (L' := [_, _, _, _, _]) 164 dX10_says_161 rfl rfl (pk_m1 (h0 + 1)) (by decide) rfl ?_
        refine jr_aload_n 0 165 dX10_says_164 rfl rfl rfl ?_
        refine gf_X10_58 168 dX10_says_165 rfl rfl rfl rfl ?_
        refine jr_iload_n 2 169 dX10_says_168 rfl rfl rfl ?_
        refine jr_iconst (nI 1) 170 dX10_says_169 rfl rfl ?_
        refine jr_isub 171 dX10_says_170 rfl ?_
        refine jr_iload 173 dX10_says_171 rfl rfl ?_
        refine jr_aload_n 0 174 dX10_says_173 rfl rfl rfl ?_
        refine gf_X10_58 177 dX10_says_174 rfl rfl rfl rfl ?_
        refine jr_iload_n 2 178 dX10_says_177 rfl rfl rfl ?_
        refine jr_iconst (nI 1) 179 dX10_says_178 rfl rfl ?_
        refine jr_isub 180 dX10_says_179 rfl ?_
        refine jr_iald rfl (k := h0) (by rw [pk_sub (by omega)]; rfl) (by omega) 181 dX10_says_180 rfl ?_
        refine jr_aload_n 0 182 dX10_says_181 rfl rfl rfl ?_
        refine gf_X10_58 185 dX10_says_182 rfl rfl rfl rfl ?_
        refine jr_iload_n 2 186 dX10_says_185 rfl rfl rfl ?_
        refine jr_iald rfl (k := h0 + 1) rfl (by omega) 187 dX10_says_186 rfl ?_
        refine cs_X10_181 190 dX10_says_187 rfl rfl (Nat.le_of_ble_eq_true rfl) (wp_two_17 ?_)
        refine jr_iast rfl (k := h0) (by rw [pk_sub (by omega)]; rfl) (by omega) 191 dX10_says_190 rfl ?_
        refine jr_iinc (v := nI (i + 1)) (L' := [_, _, _, _, _]) 194 dX10_says_191 rfl rfl (nI_1 i) (by decide) rfl ?_
        refine jr_goto 16 dX10_says_194 rfl ?_
        exact ih (i + 1) (h0 + 1) _ _ hru hend hc1 (by omega) hw2 (by omega) (fun f => by have := hk f; rw [show ev (σ 64) (h0 + 2) (σ 63) (17 :: l) = ev (σ 64) (h0 + 1) (upd (σ 63) h0 (ev_two 17 (σ 63 h0) (σ 63 (h0 + 1)))) l from rfl] at this; rw [jr_upc_up]; exact this)
      · refine jr_iload_n 3 17 dX10_says_16 rfl rfl rfl ?_
        refine jr_aload_n 0 18 dX10_says_17 rfl rfl rfl ?_
        refine gf_X10_34 21 dX10_says_18 rfl rfl rfl rfl ?_
        refine jr_iconst (nI 4) 22 dX10_says_21 rfl rfl ?_
        refine jr_aload_n 0 23 dX10_says_22 rfl rfl rfl ?_
        refine gf_X10_118 26 dX10_says_23 rfl rfl rfl rfl ?_
        rw [hru]
        refine jr_imul 27 dX10_says_26 rfl ?_
        refine jr_iload_n 1 28 dX10_says_27 rfl rfl rfl ?_
        refine jr_iadd 29 dX10_says_28 rfl ?_
        refine jr_iconst (nI 1) 30 dX10_says_29 rfl rfl ?_
        refine jr_iadd 31 dX10_says_30 rfl ?_
        refine jr_iale (k := 4 * r + (p + 1)) rfl (by rw [pk_mul, nI_add, nI_add]; congr 1) (by omega) hend 32 dX10_says_31 rfl ?_
        refine jr_icmp_ge 197 35 dX10_says_32 rfl rfl (fun q => absurd q (nI_ge (by omega) (by omega))) (fun q32 => ?_)
        refine jr_aload_n 0 36 dX10_says_35 rfl rfl rfl ?_
        refine gf_X10_31 39 dX10_says_36 rfl rfl rfl rfl ?_
        refine jr_sipush (nI 200) 42 dX10_says_39 rfl rfl ?_
        refine jr_aload_n 0 43 dX10_says_42 rfl rfl rfl ?_
        refine gf_X10_118 46 dX10_says_43 rfl rfl rfl rfl ?_
        rw [hru]
        refine jr_imul 47 dX10_says_46 rfl ?_
        refine jr_iload_n 3 48 dX10_says_47 rfl rfl rfl ?_
        refine jr_iadd 49 dX10_says_48 rfl ?_
        refine jr_iale (k := 200 * r + i) rfl (by rw [pk_mul, nI_add]) (by omega) hc0 50 dX10_says_49 rfl ?_
        refine jr_istore (L' := [_, _, _, _, _]) 52 dX10_says_50 rfl (by decide) rfl ?_
        refine jr_iload 54 dX10_says_52 rfl rfl ?_
        refine jr_ldc kc_X10_167 56 dX10_says_54 rfl ?_
        refine jr_icmp_ge 66 59 dX10_says_56 rfl rfl (fun q => absurd q (by decide)) (fun q56 => ?_)
        refine jr_iload 61 dX10_says_59 rfl rfl ?_
        refine jr_bipush (nI 11) 63 dX10_says_61 rfl rfl ?_
        refine jr_icmp_ge 100 66 dX10_says_63 rfl rfl (fun q63 => ?_) (fun q => absurd (by decide) q)
        refine jr_iload 102 dX10_says_100 rfl rfl ?_
        refine jr_bipush (nI 13) 104 dX10_says_102 rfl rfl ?_
        refine jr_icmp_ne 134 107 dX10_says_104 rfl rfl (fun q104 => ?_) (fun q => absurd q (by decide))
        refine jr_iload 136 dX10_says_134 rfl rfl ?_
        refine jr_bipush (nI 19) 138 dX10_says_136 rfl rfl ?_
        refine jr_icmp_ne 161 141 dX10_says_138 rfl rfl (fun q138 => ?_) (fun q => absurd q (by decide))
        refine jr_iinc (v := nI (h0 + 1)) (L' := [_, _, _, _, _]) 164 dX10_says_161 rfl rfl (pk_m1 (h0 + 1)) (by decide) rfl ?_
        refine jr_aload_n 0 165 dX10_says_164 rfl rfl rfl ?_
        refine gf_X10_58 168 dX10_says_165 rfl rfl rfl rfl ?_
        refine jr_iload_n 2 169 dX10_says_168 rfl rfl rfl ?_
        refine jr_iconst (nI 1) 170 dX10_says_169 rfl rfl ?_
        refine jr_isub 171 dX10_says_170 rfl ?_
        refine jr_iload 173 dX10_says_171 rfl rfl ?_
        refine jr_aload_n 0 174 dX10_says_173 rfl rfl rfl ?_
        refine gf_X10_58 177 dX10_says_174 rfl rfl rfl rfl ?_
        refine jr_iload_n 2 178 dX10_says_177 rfl rfl rfl ?_
        refine jr_iconst (nI 1) 179 dX10_says_178 rfl rfl ?_
        refine jr_isub 180 dX10_says_179 rfl ?_
        refine jr_iald rfl (k := h0) (by rw [pk_sub (by omega)]; rfl) (by omega) 181 dX10_says_180 rfl ?_
        refine jr_aload_n 0 182 dX10_says_181 rfl rfl rfl ?_
        refine gf_X10_58 185 dX10_says_182 rfl rfl rfl rfl ?_
        refine jr_iload_n 2 186 dX10_says_185 rfl rfl rfl ?_
        refine jr_iald rfl (k := h0 + 1) rfl (by omega) 187 dX10_says_186 rfl ?_
        refine cs_X10_181 190 dX10_says_187 rfl rfl (Nat.le_of_ble_eq_true rfl) (wp_two_18 ?_)
        refine jr_iast rfl (k := h0) (by rw [pk_sub (by omega)]; rfl) (by omega) 191 dX10_says_190 rfl ?_
        refine jr_iinc (v := nI (i + 1)) (L' := [_, _, _, _, _]) 194 dX10_says_191 rfl rfl (nI_1 i) (by decide) rfl ?_
        refine jr_goto 16 dX10_says_194 rfl ?_
        exact ih (i + 1) (h0 + 1) _ _ hru hend hc1 (by omega) hw2 (by omega) (fun f => by have := hk f; rw [show ev (σ 64) (h0 + 2) (σ 63) (18 :: l) = ev (σ 64) (h0 + 1) (upd (σ 63) h0 (ev_two 18 (σ 63 h0) (σ 63 (h0 + 1)))) l from rfl] at this; rw [jr_upc_up]; exact this)
theorem wp_says {G : jr_G} {d : Nat} {σ : jr_Sg} {k : Value → jr_Sg → Prop} {T : Nat → Nat → List Nat} {n r p : Nat} (hT : ti_R T n σ) (hr : r < n) (hru : σ 46 13 = nI r) (hp : p < 3) (hk : ∀ f : Nat → Int32, k (.int (ev_t T r p (σ 64))) (jr_upc σ 63 f)) : jr_M G (d + 1) mi_X10_says [.ref 46, .int (nI p)] σ (jr_k k) := by
  obtain ⟨hn, hn6, hall⟩ := hT
  obtain ⟨h160, hst, hps⟩ := hall r hr
  obtain ⟨hw, hcod⟩ := hps p hp
  have ho1 := ti_o_succ T r p hp
  have ho2 := ti_o_le T r (p + 1) (by omega)
  refine jr_enter (L := [some (.ref 46), some (.int (nI p)), none, none, none]) (by decide) (Nat.le_of_ble_eq_true rfl) rfl ?_
  refine jr_iconst (nI 0) 1 dX10_says_0 rfl rfl ?_
  refine jr_istore_n 2 (L' := [_, _, _, _, _]) 2 dX10_says_1 rfl rfl (by decide) rfl ?_
  refine jr_aload_n 0 3 dX10_says_2 rfl rfl rfl ?_
  refine gf_X10_34 6 dX10_says_3 rfl rfl rfl rfl ?_
  refine jr_iconst (nI 4) 7 dX10_says_6 rfl rfl ?_
  refine jr_aload_n 0 8 dX10_says_7 rfl rfl rfl ?_
  refine gf_X10_118 11 dX10_says_8 rfl rfl rfl rfl ?_
  rw [hru]
  refine jr_imul 12 dX10_says_11 rfl ?_
  refine jr_iload_n 1 13 dX10_says_12 rfl rfl rfl ?_
  refine jr_iadd 14 dX10_says_13 rfl ?_
  refine jr_iale (k := 4 * r + p) rfl (by rw [pk_mul, nI_add]) (by omega) (hst p (by omega)) 15 dX10_says_14 rfl ?_
  refine jr_istore_n 3 (L' := [_, _, _, _, _]) 16 dX10_says_15 rfl rfl (by decide) rfl ?_
  exact says_loop (to := ti_o T r (p + 1)) (by omega) hp (by omega) (T r p) _ 0 _ _ hru (hst (p + 1) (by omega)) (fun j hj => hcod j hj) (by rw [ho1]) hw (by omega) (fun f => by rw [ev_t_of hw]; exact hk f)
theorem jr_upc_at (σ : jr_Sg) (i : Nat) (f : Nat → Int32) : jr_upc σ i f i = f := by
  unfold jr_upc
  rw [if_pos rfl]
def pu_say (p : Nat) (v : Int32) : Int32 := if p = 2 then (if v = 0 then 0 else 1) else pu_within v 0 99
theorem wp_asksOf {G : jr_G} {d : Nat} {σ : jr_Sg} {k : Value → jr_Sg → Prop} {T : Nat → Nat → List Nat} {n r p : Nat} {wm gl li se sn mo : Int32} (hT : ti_R T n σ) (hr : r < n) (hru : σ 46 13 = nI r) (hp : p < 3) (hk : ∀ g f : Nat → Int32, k (.int (pu_say p (ev_t T r p (pu_nm wm gl li se sn mo)))) (jr_upc (jr_upc σ 64 g) 63 f)) : jr_M G (d + 2) mi_X10_asksOf [.ref 46, .int (nI p), .int wm, .int gl, .int li, .int se, .int sn, .int mo] σ (jr_k k) := by
  have hw := ((hT.2.2 r hr).2.2 p hp).1
  have hk2 : ∀ g f : Nat → Int32, (∀ j, j < 6 → g j = pu_nm wm gl li se sn mo j) → k (.int (pu_say p (ev_t T r p g))) (jr_upc (jr_upc σ 64 g) 63 f) := fun g f hg => by
    rw [ev_t_congr hw hg]
    exact hk g f
  refine jr_enter (L := [some (.ref 46), some (.int (nI p)), some (.int wm), some (.int gl), some (.int li), some (.int se), some (.int sn), some (.int mo), none]) (by decide) (Nat.le_of_ble_eq_true rfl) rfl ?_
  rcases (by omega : p = 0 ∨ p = 1 ∨ p = 2) with rfl | rfl | rfl
  · refine jr_aload_n 0 1 dX10_asksOf_0 rfl rfl rfl ?_
    refine gf_X10_61 4 dX10_asksOf_1 rfl rfl rfl rfl ?_
    refine jr_iconst (0) 5 dX10_asksOf_4 rfl rfl ?_
    refine jr_iload_n 2 6 dX10_asksOf_5 rfl rfl rfl ?_
    refine jr_iast rfl (k := 0) rfl (by decide) 7 dX10_asksOf_6 rfl ?_
    refine jr_aload_n 0 8 dX10_asksOf_7 rfl rfl rfl ?_
    refine gf_X10_61 11 dX10_asksOf_8 rfl rfl rfl rfl ?_
    refine jr_iconst (1) 12 dX10_asksOf_11 rfl rfl ?_
    refine jr_iload_n 3 13 dX10_asksOf_12 rfl rfl rfl ?_
    refine jr_iast rfl (k := 1) rfl (by decide) 14 dX10_asksOf_13 rfl ?_
    refine jr_aload_n 0 15 dX10_asksOf_14 rfl rfl rfl ?_
    refine gf_X10_61 18 dX10_asksOf_15 rfl rfl rfl rfl ?_
    refine jr_iconst (2) 19 dX10_asksOf_18 rfl rfl ?_
    refine jr_iload 21 dX10_asksOf_19 rfl rfl ?_
    refine jr_iast rfl (k := 2) rfl (by decide) 22 dX10_asksOf_21 rfl ?_
    refine jr_aload_n 0 23 dX10_asksOf_22 rfl rfl rfl ?_
    refine gf_X10_61 26 dX10_asksOf_23 rfl rfl rfl rfl ?_
    refine jr_iconst (3) 27 dX10_asksOf_26 rfl rfl ?_
    refine jr_iload 29 dX10_asksOf_27 rfl rfl ?_
    refine jr_iast rfl (k := 3) rfl (by decide) 30 dX10_asksOf_29 rfl ?_
    refine jr_aload_n 0 31 dX10_asksOf_30 rfl rfl rfl ?_
    refine gf_X10_61 34 dX10_asksOf_31 rfl rfl rfl rfl ?_
    refine jr_iconst (4) 35 dX10_asksOf_34 rfl rfl ?_
    refine jr_iload 37 dX10_asksOf_35 rfl rfl ?_
    refine jr_iast rfl (k := 4) rfl (by decide) 38 dX10_asksOf_37 rfl ?_
    refine jr_aload_n 0 39 dX10_asksOf_38 rfl rfl rfl ?_
    refine gf_X10_61 42 dX10_asksOf_39 rfl rfl rfl rfl ?_
    refine jr_iconst (5) 43 dX10_asksOf_42 rfl rfl ?_
    refine jr_iload 45 dX10_asksOf_43 rfl rfl ?_
    refine jr_iast rfl (k := 5) rfl (by decide) 46 dX10_asksOf_45 rfl ?_
    refine jr_aload_n 0 47 dX10_asksOf_46 rfl rfl rfl ?_
    refine jr_iload_n 1 48 dX10_asksOf_47 rfl rfl rfl ?_
    have hz := fun f : Nat → Int32 => hk2 (upd (upd (upd (upd (upd (upd (σ 64) 0 wm) 1 gl) 2 li) 3 se) 4 sn) 5 mo) f (by intro j hj; rcases (by omega : j = 0 ∨ j = 1 ∨ j = 2 ∨ j = 3 ∨ j = 4 ∨ j = 5) with rfl | rfl | rfl | rfl | rfl | rfl <;> rfl)
    refine cs_X10_185 51 dX10_asksOf_48 rfl rfl rfl (Nat.le_of_ble_eq_true rfl) (wp_says (n := n) hT hr hru (by omega) (fun f => ?_))
    refine jr_istore (L' := [_, _, _, _, _, _, _, _, _]) 53 dX10_asksOf_51 rfl (by decide) rfl ?_
    refine jr_iload_n 1 54 dX10_asksOf_53 rfl rfl rfl ?_
    refine jr_iconst (2) 55 dX10_asksOf_54 rfl rfl ?_
    refine jr_icmp_ne 71 58 dX10_asksOf_55 rfl rfl (fun q55 => ?_) (fun q => absurd q (by decide))
    refine jr_iload 73 dX10_asksOf_71 rfl rfl ?_
    refine jr_iconst (0) 74 dX10_asksOf_73 rfl rfl ?_
    refine jr_bipush (99) 76 dX10_asksOf_74 rfl rfl ?_
    refine cs_X10_188 79 dX10_asksOf_76 rfl rfl (Nat.le_of_ble_eq_true rfl) (wp_within ?_)
    refine jr_ireturn dX10_asksOf_79 rfl rfl ?_
    simp only [jr_up_upc, jr_upc_upc, jr_upc_at]
    first | exact hz f | (simp only [jr_up_upc, jr_upc_upc, jr_upc_at] at q60; exact jr_eqk (by unfold pu_say; rw [if_pos rfl]; first | rw [if_pos q60] | rw [if_neg q60]) (hz f))
  · refine jr_aload_n 0 1 dX10_asksOf_0 rfl rfl rfl ?_
    refine gf_X10_61 4 dX10_asksOf_1 rfl rfl rfl rfl ?_
    refine jr_iconst (0) 5 dX10_asksOf_4 rfl rfl ?_
    refine jr_iload_n 2 6 dX10_asksOf_5 rfl rfl rfl ?_
    refine jr_iast rfl (k := 0) rfl (by decide) 7 dX10_asksOf_6 rfl ?_
    refine jr_aload_n 0 8 dX10_asksOf_7 rfl rfl rfl ?_
    refine gf_X10_61 11 dX10_asksOf_8 rfl rfl rfl rfl ?_
    refine jr_iconst (1) 12 dX10_asksOf_11 rfl rfl ?_
    refine jr_iload_n 3 13 dX10_asksOf_12 rfl rfl rfl ?_
    refine jr_iast rfl (k := 1) rfl (by decide) 14 dX10_asksOf_13 rfl ?_
    refine jr_aload_n 0 15 dX10_asksOf_14 rfl rfl rfl ?_
    refine gf_X10_61 18 dX10_asksOf_15 rfl rfl rfl rfl ?_
    refine jr_iconst (2) 19 dX10_asksOf_18 rfl rfl ?_
    refine jr_iload 21 dX10_asksOf_19 rfl rfl ?_
    refine jr_iast rfl (k := 2) rfl (by decide) 22 dX10_asksOf_21 rfl ?_
    refine jr_aload_n 0 23 dX10_asksOf_22 rfl rfl rfl ?_
    refine gf_X10_61 26 dX10_asksOf_23 rfl rfl rfl rfl ?_
    refine jr_iconst (3) 27 dX10_asksOf_26 rfl rfl ?_
    refine jr_iload 29 dX10_asksOf_27 rfl rfl ?_
    refine jr_iast rfl (k := 3) rfl (by decide) 30 dX10_asksOf_29 rfl ?_
    refine jr_aload_n 0 31 dX10_asksOf_30 rfl rfl rfl ?_
    refine gf_X10_61 34 dX10_asksOf_31 rfl rfl rfl rfl ?_
    refine jr_iconst (4) 35 dX10_asksOf_34 rfl rfl ?_
    refine jr_iload 37 dX10_asksOf_35 rfl rfl ?_
    refine jr_iast rfl (k := 4) rfl (by decide) 38 dX10_asksOf_37 rfl ?_
    refine jr_aload_n 0 39 dX10_asksOf_38 rfl rfl rfl ?_
    refine gf_X10_61 42 dX10_asksOf_39 rfl rfl rfl rfl ?_
    refine jr_iconst (5) 43 dX10_asksOf_42 rfl rfl ?_
    refine jr_iload 45 dX10_asksOf_43 rfl rfl ?_
    refine jr_iast rfl (k := 5) rfl (by decide) 46 dX10_asksOf_45 rfl ?_
    refine jr_aload_n 0 47 dX10_asksOf_46 rfl rfl rfl ?_
    refine jr_iload_n 1 48 dX10_asksOf_47 rfl rfl rfl ?_
    have hz := fun f : Nat → Int32 => hk2 (upd (upd (upd (upd (upd (upd (σ 64) 0 wm) 1 gl) 2 li) 3 se) 4 sn) 5 mo) f (by intro j hj; rcases (by omega : j = 0 ∨ j = 1 ∨ j = 2 ∨ j = 3 ∨ j = 4 ∨ j = 5) with rfl | rfl | rfl | rfl | rfl | rfl <;> rfl)
    refine cs_X10_185 51 dX10_asksOf_48 rfl rfl rfl (Nat.le_of_ble_eq_true rfl) (wp_says (n := n) hT hr hru (by omega) (fun f => ?_))
    refine jr_istore (L' := [_, _, _, _, _, _, _, _, _]) 53 dX10_asksOf_51 rfl (by decide) rfl ?_
    refine jr_iload_n 1 54 dX10_asksOf_53 rfl rfl rfl ?_
    refine jr_iconst (2) 55 dX10_asksOf_54 rfl rfl ?_
    refine jr_icmp_ne 71 58 dX10_asksOf_55 rfl rfl (fun q55 => ?_) (fun q => absurd q (by decide))
    refine jr_iload 73 dX10_asksOf_71 rfl rfl ?_
    refine jr_iconst (0) 74 dX10_asksOf_73 rfl rfl ?_
    refine jr_bipush (99) 76 dX10_asksOf_74 rfl rfl ?_
    refine cs_X10_188 79 dX10_asksOf_76 rfl rfl (Nat.le_of_ble_eq_true rfl) (wp_within ?_)
    refine jr_ireturn dX10_asksOf_79 rfl rfl ?_
    simp only [jr_up_upc, jr_upc_upc, jr_upc_at]
    first | exact hz f | (simp only [jr_up_upc, jr_upc_upc, jr_upc_at] at q60; exact jr_eqk (by unfold pu_say; rw [if_pos rfl]; first | rw [if_pos q60] | rw [if_neg q60]) (hz f))
  · refine jr_aload_n 0 1 dX10_asksOf_0 rfl rfl rfl ?_
    refine gf_X10_61 4 dX10_asksOf_1 rfl rfl rfl rfl ?_
    refine jr_iconst (0) 5 dX10_asksOf_4 rfl rfl ?_
    refine jr_iload_n 2 6 dX10_asksOf_5 rfl rfl rfl ?_
    refine jr_iast rfl (k := 0) rfl (by decide) 7 dX10_asksOf_6 rfl ?_
    refine jr_aload_n 0 8 dX10_asksOf_7 rfl rfl rfl ?_
    refine gf_X10_61 11 dX10_asksOf_8 rfl rfl rfl rfl ?_
    refine jr_iconst (1) 12 dX10_asksOf_11 rfl rfl ?_
    refine jr_iload_n 3 13 dX10_asksOf_12 rfl rfl rfl ?_
    refine jr_iast rfl (k := 1) rfl (by decide) 14 dX10_asksOf_13 rfl ?_
    refine jr_aload_n 0 15 dX10_asksOf_14 rfl rfl rfl ?_
    refine gf_X10_61 18 dX10_asksOf_15 rfl rfl rfl rfl ?_
    refine jr_iconst (2) 19 dX10_asksOf_18 rfl rfl ?_
    refine jr_iload 21 dX10_asksOf_19 rfl rfl ?_
    refine jr_iast rfl (k := 2) rfl (by decide) 22 dX10_asksOf_21 rfl ?_
    refine jr_aload_n 0 23 dX10_asksOf_22 rfl rfl rfl ?_
    refine gf_X10_61 26 dX10_asksOf_23 rfl rfl rfl rfl ?_
    refine jr_iconst (3) 27 dX10_asksOf_26 rfl rfl ?_
    refine jr_iload 29 dX10_asksOf_27 rfl rfl ?_
    refine jr_iast rfl (k := 3) rfl (by decide) 30 dX10_asksOf_29 rfl ?_
    refine jr_aload_n 0 31 dX10_asksOf_30 rfl rfl rfl ?_
    refine gf_X10_61 34 dX10_asksOf_31 rfl rfl rfl rfl ?_
    refine jr_iconst (4) 35 dX10_asksOf_34 rfl rfl ?_
    refine jr_iload 37 dX10_asksOf_35 rfl rfl ?_
    refine jr_iast rfl (k := 4) rfl (by decide) 38 dX10_asksOf_37 rfl ?_
    refine jr_aload_n 0 39 dX10_asksOf_38 rfl rfl rfl ?_
    refine gf_X10_61 42 dX10_asksOf_39 rfl rfl rfl rfl ?_
    refine jr_iconst (5) 43 dX10_asksOf_42 rfl rfl ?_
    refine jr_iload 45 dX10_asksOf_43 rfl rfl ?_
    refine jr_iast rfl (k := 5) rfl (by decide) 46 dX10_asksOf_45 rfl ?_
    refine jr_aload_n 0 47 dX10_asksOf_46 rfl rfl rfl ?_
    refine jr_iload_n 1 48 dX10_asksOf_47 rfl rfl rfl ?_
    have hz := fun f : Nat → Int32 => hk2 (upd (upd (upd (upd (upd (upd (σ 64) 0 wm) 1 gl) 2 li) 3 se) 4 sn) 5 mo) f (by intro j hj; rcases (by omega : j = 0 ∨ j = 1 ∨ j = 2 ∨ j = 3 ∨ j = 4 ∨ j = 5) with rfl | rfl | rfl | rfl | rfl | rfl <;> rfl)
    refine cs_X10_185 51 dX10_asksOf_48 rfl rfl rfl (Nat.le_of_ble_eq_true rfl) (wp_says (n := n) hT hr hru (by omega) (fun f => ?_))
    refine jr_istore (L' := [_, _, _, _, _, _, _, _, _]) 53 dX10_asksOf_51 rfl (by decide) rfl ?_
    refine jr_iload_n 1 54 dX10_asksOf_53 rfl rfl rfl ?_
    refine jr_iconst (2) 55 dX10_asksOf_54 rfl rfl ?_
    refine jr_icmp_ne 71 58 dX10_asksOf_55 rfl rfl (fun q => absurd (by decide) q) (fun q55 => ?_)
    refine jr_iload 60 dX10_asksOf_58 rfl rfl ?_
    refine jr_if_ne 67 63 dX10_asksOf_60 rfl rfl (fun q60 => ?_) (fun q60 => ?_)
    · refine jr_iconst (1) 68 dX10_asksOf_67 rfl rfl ?_
      refine jr_goto 79 dX10_asksOf_68 rfl ?_
      refine jr_ireturn dX10_asksOf_79 rfl rfl ?_
      simp only [jr_up_upc, jr_upc_upc, jr_upc_at]
      first | exact hz f | (simp only [jr_up_upc, jr_upc_upc, jr_upc_at] at q60; exact jr_eqk (by unfold pu_say; rw [if_pos rfl]; first | rw [if_pos q60] | rw [if_neg q60]) (hz f))
    · refine jr_iconst (0) 64 dX10_asksOf_63 rfl rfl ?_
      refine jr_goto 79 dX10_asksOf_64 rfl ?_
      refine jr_ireturn dX10_asksOf_79 rfl rfl ?_
      simp only [jr_up_upc, jr_upc_upc, jr_upc_at]
      first | exact hz f | (simp only [jr_up_upc, jr_upc_upc, jr_upc_at] at q60; exact jr_eqk (by unfold pu_say; rw [if_pos rfl]; first | rw [if_pos q60] | rw [if_neg q60]) (hz f))

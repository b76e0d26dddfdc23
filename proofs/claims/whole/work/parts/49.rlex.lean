def jq_up (G : jr_G) : jq_G := (G.1, (G.2.1, (G.2.2, jq_mR)))
theorem jq_up_shp (G : jr_G) : jq_shp (jq_up G) = jr_shp := rfl
theorem jq_up_A (G : jr_G) : jq_A (jq_up G) = jr_A G := by
  funext q
  unfold jq_A jr_A
  rw [jq_up_shp, jr_N_eq]
  rfl
theorem jq_up_F {G : jr_G} {U : State} {H : Heap} (h : jr_F G U H) : jq_F (jq_up G) U H := by
  obtain ⟨h1, h2, h3, h4⟩ := h
  refine ⟨⟨?_, ?_⟩, h2, h3, ?_⟩
  · rw [jq_up_shp, jr_N_eq]
    exact h1
  · rw [jq_up_shp]
    exact jr_small
  · unfold jq_ZH
    rw [jq_up_A]
    exact h4
theorem jq_to {G : jr_G} {d : Nat} {mi : jr_MI} {a : List Value} {σ : jr_Sg} {K : Option Value → jr_Sg → Prop} (h : jq_M (jq_up G) d mi a σ K) : jr_M G d mi a σ K := by
  intro l p e ha hc hk s m args below hf hap hpre hq
  obtain ⟨k, o, h1, h2, h3, ⟨⟨⟨v, σ', q1, q2, q3⟩, q4⟩, q5⟩⟩ := h l p e ha hc hk s m args below hf hap ⟨hpre.1, jq_up_F hpre.2.1, hpre.2.2⟩ hq
  refine ⟨k, o, h1, h2, h3, ⟨⟨⟨v, σ', q1, q2, q3⟩, ?_⟩, ?_⟩⟩
  · rw [← jq_up_A]
    exact q4
  · rw [← jq_up_A]
    exact q5
def fr46 (F : List Nat) (σ σ' : jr_Sg) : Prop := (∀ a, a ≠ 46 → σ' a = σ a) ∧ ∀ j, j ∉ F → σ' 46 j = σ 46 j
theorem fr46_rf (F : List Nat) (σ : jr_Sg) : fr46 F σ σ := ⟨fun _ _ => rfl, fun _ _ => rfl⟩
theorem fr46_tr {F : List Nat} {a b c : jr_Sg} (h : fr46 F a b) (h2 : fr46 F b c) : fr46 F a c := ⟨fun i hi => (h2.1 i hi).trans (h.1 i hi), fun j hj => (h2.2 j hj).trans (h.2 j hj)⟩
theorem fr46_w {F F2 : List Nat} {a b : jr_Sg} (h : fr46 F a b) (hs : ∀ j, j ∈ F → j ∈ F2) : fr46 F2 a b := ⟨h.1, fun j hj => h.2 j (fun q => hj (hs j q))⟩
theorem fr46_up {F : List Nat} {a b : jr_Sg} (h : fr46 F a b) {j : Nat} {v : Int32} (hj : j ∈ F) : fr46 F a (jr_up b 46 j v) := ⟨fun i hi => by unfold jr_up; rw [if_neg hi]; exact h.1 i hi, fun k hk => by
  show upd (b 46) j v k = _
  rw [pk_un (fun e => hk (by rw [e]; exact hj))]
  exact h.2 k hk⟩
def tR (b : Nat → Nat) (tp : Nat) (σ : jr_Sg) : Prop := σ 46 9 = nI tp ∧ tp ≤ 160 ∧ (∀ i, i < tp → σ 53 i = nI (b i) ∧ b i ≤ 255) ∧ iv_wd σ
theorem tR_fr {b : Nat → Nat} {tp : Nat} {F : List Nat} {σ σ' : jr_Sg} (h : tR b tp σ) (hq : fr46 F σ σ') (h2 : 9 ∉ F) : tR b tp σ' := by
  refine ⟨by rw [hq.2 9 h2]; exact h.1, h.2.1, fun i hi => by rw [hq.1 53 (by decide)]; exact h.2.2.1 i hi, fun i hi => by rw [hq.1 61 (by decide)]; exact h.2.2.2 i hi⟩
def pm (k : Nat) : Nat := if k < 3 then 9 + k else k - 3
theorem pm_tab : ∀ k : Fin 12, ∀ c : Fin 8, iv_wl.getD (8 * k.val + c.val) 0 = nI ((lx_W.getD (pm k.val) []).getD c.val 32) ∧ (lx_W.getD (pm k.val) []).getD c.val 32 ≤ 255 := by decide +kernel
theorem W_len : ∀ a : Fin 12, (lx_W.getD a.val []).length ≤ 7 ∧ ∀ i : Fin 7, i.val < (lx_W.getD a.val []).length → (lx_W.getD a.val []).getD i.val 32 ≠ 32 := by decide +kernel
theorem W_at : ∀ a : Fin 12, lx_wl (lx_W.getD a.val []) 12 = a.val + 1 := by decide +kernel
theorem W_no {u : List Nat} : ∀ n, (∀ a, a < n → u ≠ lx_W.getD a []) → lx_wl u n = 24
  | 0, _ => rfl
  | n + 1, h => by
    rw [lx_wl, if_neg (h n (by omega))]
    exact W_no n (fun a ha => h a (by omega))
theorem pad_eq {u v : List Nat} (hu : u.length ≤ 8) (hv : v.length ≤ 7) (lu : ∀ i, i < u.length → u.getD i 32 ≠ 32) (lv : ∀ i, i < v.length → v.getD i 32 ≠ 32) (h : ∀ c, c < 8 → u.getD c 32 = v.getD c 32) : u = v := by
  have out : ∀ (l : List Nat) (i : Nat), l.length ≤ i → l.getD i 32 = 32 := fun l i hi => by simp [List.getD, hi]
  have hl : u.length = v.length := by
    rcases Nat.lt_trichotomy u.length v.length with z | z | z
    · have h1 := h u.length (by omega)
      rw [out u _ (Nat.le_refl _)] at h1
      exact absurd h1.symm (lv _ z)
    · exact z
    · have h1 := h v.length (by omega)
      rw [out v _ (Nat.le_refl _)] at h1
      exact absurd h1 (lu _ z)
  apply List.ext_getElem hl
  intro i h1 h2
  have := h i (by omega)
  simpa [List.getD, h1, h2] using this
theorem u_pad (b : Nat → Nat) (q e c : Nat) : (lx_u b q e).getD c 32 = if q + c < e then b (q + c) else 32 := by
  by_cases h : q + c < e
  · rw [if_pos h]
    simp [lx_u, List.getD, show c < e - q by omega]
  · rw [if_neg h]
    simp [lx_u, List.getD, show e - q ≤ c by omega]
theorem wf_in {G : jr_G} {d : Nat} {σ : jr_Sg} {k : Value → jr_Sg → Prop} {b : Nat → Nat} {tp q e kk : Nat} (ht : tR b tp σ) (hk : kk < 12) (he : e ≤ tp) (hq : q ≤ e) (fin : ∀ z x5 : Int32, ((∀ c, c < 8 → (lx_u b q e).getD c 32 = (lx_W.getD (pm kk) []).getD c 32) ∧ z = 1) ∨ ((¬ ∀ c, c < 8 → (lx_u b q e).getD c 32 = (lx_W.getD (pm kk) []).getD c 32) ∧ z = 0) → jr_R G d mi_X10_wordFrom (jr_k k) 88 [some (.ref 46), some (.int (nI q)), some (.int (nI e)), some (.int (nI kk)), some (.int z), some (.int x5)] [] σ) : ∀ n c, c + n = 8 → (∀ c2, c2 < c → (lx_u b q e).getD c2 32 = (lx_W.getD (pm kk) []).getD c2 32) → jr_R G d mi_X10_wordFrom (jr_k k) 26 [some (.ref 46), some (.int (nI q)), some (.int (nI e)), some (.int (nI kk)), some (.int 1), some (.int (nI c))] [] σ := by
  have h160 := ht.2.1
  intro n
  induction n with
  | zero =>
    intro c hc hj
    have e8 : c = 8 := hc
    subst e8
    refine jr_iload 28 dX10_wordFrom_26 rfl rfl ?_
    refine jr_bipush (nI 8) 30 dX10_wordFrom_28 rfl rfl ?_
    refine jr_icmp_ge 88 33 dX10_wordFrom_30 rfl rfl (fun q30 => ?_) (fun z => absurd (Int32.le_refl _) z)
    exact fin 1 _ (Or.inl ⟨hj, rfl⟩)
  | succ n ih =>
    intro c hc hj
    obtain ⟨t1, t2⟩ := pm_tab ⟨kk, hk⟩ ⟨c, by omega⟩
    simp only at t1 t2
    have hup := u_pad b q e c
    have hwd : σ 61 (8 * kk + c) = nI ((lx_W.getD (pm kk) []).getD c 32) := (ht.2.2.2 _ (by omega)).trans t1
    by_cases hce : q + c < e
    · rw [if_pos hce] at hup
      have hb := (ht.2.2.1 (q + c) (by omega)).2
      refine jr_iload 28 dX10_wordFrom_26 rfl rfl ?_
      refine jr_bipush (nI 8) 30 dX10_wordFrom_28 rfl rfl ?_
      refine jr_icmp_ge 88 33 dX10_wordFrom_30 rfl rfl (fun z => absurd z (nI_ge (b := 8) (by omega) (by decide))) (fun q30 => ?_)
      refine jr_iload 35 dX10_wordFrom_33 rfl rfl ?_
      refine jr_if_eq 88 38 dX10_wordFrom_35 rfl rfl (fun z => absurd z (by decide)) (fun q35 => ?_)
      refine jr_aload_n 0 39 dX10_wordFrom_38 rfl rfl rfl ?_
      refine gf_X10_52 42 dX10_wordFrom_39 rfl rfl rfl rfl ?_
      refine jr_bipush (nI 8) 44 dX10_wordFrom_42 rfl rfl ?_
      refine jr_iload_n 3 45 dX10_wordFrom_44 rfl rfl rfl ?_
      refine jr_imul 46 dX10_wordFrom_45 rfl ?_
      rw [pk_mul]
      refine jr_iload 48 dX10_wordFrom_46 rfl rfl ?_
      refine jr_iadd 49 dX10_wordFrom_48 rfl ?_
      rw [nI_add]
      refine jr_iale (k := 8 * kk + c) rfl (by rfl) (by omega) hwd 50 dX10_wordFrom_49 rfl ?_
      refine jr_iload_n 1 51 dX10_wordFrom_50 rfl rfl rfl ?_
      refine jr_iload 53 dX10_wordFrom_51 rfl rfl ?_
      refine jr_iadd 54 dX10_wordFrom_53 rfl ?_
      rw [nI_add]
      refine jr_iload_n 2 55 dX10_wordFrom_54 rfl rfl rfl ?_
      refine jr_icmp_ge 70 58 dX10_wordFrom_55 rfl rfl (fun z => absurd z (nI_ge (by omega) (by omega))) (fun q55 => ?_)
      refine jr_aload_n 0 59 dX10_wordFrom_58 rfl rfl rfl ?_
      refine gf_X10_28 62 dX10_wordFrom_59 rfl rfl rfl rfl ?_
      refine jr_iload_n 1 63 dX10_wordFrom_62 rfl rfl rfl ?_
      refine jr_iload 65 dX10_wordFrom_63 rfl rfl ?_
      refine jr_iadd 66 dX10_wordFrom_65 rfl ?_
      rw [nI_add]
      refine jr_iale (k := q + c) rfl (by rfl) (by omega) (ht.2.2.1 (q + c) (by omega)).1 67 dX10_wordFrom_66 rfl ?_
      refine jr_goto 72 dX10_wordFrom_67 rfl ?_
      refine jr_icmp_ne 79 75 dX10_wordFrom_72 rfl rfl (fun q72 => ?_) (fun q72 => ?_)
      · refine jr_iconst (nI 0) 80 dX10_wordFrom_79 rfl rfl ?_
        refine jr_istore (L' := [_, _, _, _, _, _]) 82 dX10_wordFrom_80 rfl (by decide) rfl ?_
        refine jr_iinc (v := nI (c + 1)) (L' := [_, _, _, _, _, _]) 85 dX10_wordFrom_82 rfl rfl (nI_1 c) (by decide) rfl ?_
        refine jr_goto 26 dX10_wordFrom_85 rfl ?_
        have hno : ¬ ∀ c, c < 8 → (lx_u b q e).getD c 32 = (lx_W.getD (pm kk) []).getD c 32 := fun z => q72 (by rw [← z c (by omega), hup])
        by_cases h8 : c + 1 < 8
        · refine jr_iload 28 dX10_wordFrom_26 rfl rfl ?_
          refine jr_bipush (nI 8) 30 dX10_wordFrom_28 rfl rfl ?_
          refine jr_icmp_ge 88 33 dX10_wordFrom_30 rfl rfl (fun z => absurd z (nI_ge (b := 8) h8 (by decide))) (fun q30 => ?_)
          refine jr_iload 35 dX10_wordFrom_33 rfl rfl ?_
          refine jr_if_eq 88 38 dX10_wordFrom_35 rfl rfl (fun q35 => ?_) (fun q => absurd (by decide) q)
          exact fin _ _ (Or.inr ⟨hno, rfl⟩)
        · refine jr_iload 28 dX10_wordFrom_26 rfl rfl ?_
          refine jr_bipush (nI 8) 30 dX10_wordFrom_28 rfl rfl ?_
          refine jr_icmp_ge 88 33 dX10_wordFrom_30 rfl rfl (fun q30 => ?_) (fun z => absurd (nI_le (b := c + 1) (by omega) (by omega)) z)
          exact fin _ _ (Or.inr ⟨hno, rfl⟩)
      · refine jr_iconst (nI 1) 76 dX10_wordFrom_75 rfl rfl ?_
        refine jr_goto 80 dX10_wordFrom_76 rfl ?_
        refine jr_istore (L' := [_, _, _, _, _, _]) 82 dX10_wordFrom_80 rfl (by decide) rfl ?_
        refine jr_iinc (v := nI (c + 1)) (L' := [_, _, _, _, _, _]) 85 dX10_wordFrom_82 rfl rfl (nI_1 c) (by decide) rfl ?_
        refine jr_goto 26 dX10_wordFrom_85 rfl ?_
        exact ih (c + 1) (by omega) (fun c2 h2 => by
          by_cases z : c2 = c
          · subst z
            rw [hup]
            exact ((nI_eq (by omega) (by omega)).mp q72).symm
          · exact hj c2 (by omega))
    · rw [if_neg hce] at hup
      refine jr_iload 28 dX10_wordFrom_26 rfl rfl ?_
      refine jr_bipush (nI 8) 30 dX10_wordFrom_28 rfl rfl ?_
      refine jr_icmp_ge 88 33 dX10_wordFrom_30 rfl rfl (fun z => absurd z (nI_ge (b := 8) (by omega) (by decide))) (fun q30 => ?_)
      refine jr_iload 35 dX10_wordFrom_33 rfl rfl ?_
      refine jr_if_eq 88 38 dX10_wordFrom_35 rfl rfl (fun z => absurd z (by decide)) (fun q35 => ?_)
      refine jr_aload_n 0 39 dX10_wordFrom_38 rfl rfl rfl ?_
      refine gf_X10_52 42 dX10_wordFrom_39 rfl rfl rfl rfl ?_
      refine jr_bipush (nI 8) 44 dX10_wordFrom_42 rfl rfl ?_
      refine jr_iload_n 3 45 dX10_wordFrom_44 rfl rfl rfl ?_
      refine jr_imul 46 dX10_wordFrom_45 rfl ?_
      rw [pk_mul]
      refine jr_iload 48 dX10_wordFrom_46 rfl rfl ?_
      refine jr_iadd 49 dX10_wordFrom_48 rfl ?_
      rw [nI_add]
      refine jr_iale (k := 8 * kk + c) rfl (by rfl) (by omega) hwd 50 dX10_wordFrom_49 rfl ?_
      refine jr_iload_n 1 51 dX10_wordFrom_50 rfl rfl rfl ?_
      refine jr_iload 53 dX10_wordFrom_51 rfl rfl ?_
      refine jr_iadd 54 dX10_wordFrom_53 rfl ?_
      rw [nI_add]
      refine jr_iload_n 2 55 dX10_wordFrom_54 rfl rfl rfl ?_
      refine jr_icmp_ge 70 58 dX10_wordFrom_55 rfl rfl (fun q55 => ?_) (fun z => absurd (nI_le (by omega) (by omega)) z)
      refine jr_bipush (nI 32) 72 dX10_wordFrom_70 rfl rfl ?_
      refine jr_icmp_ne 79 75 dX10_wordFrom_72 rfl rfl (fun q72 => ?_) (fun q72 => ?_)
      · refine jr_iconst (nI 0) 80 dX10_wordFrom_79 rfl rfl ?_
        refine jr_istore (L' := [_, _, _, _, _, _]) 82 dX10_wordFrom_80 rfl (by decide) rfl ?_
        refine jr_iinc (v := nI (c + 1)) (L' := [_, _, _, _, _, _]) 85 dX10_wordFrom_82 rfl rfl (nI_1 c) (by decide) rfl ?_
        refine jr_goto 26 dX10_wordFrom_85 rfl ?_
        have hno : ¬ ∀ c, c < 8 → (lx_u b q e).getD c 32 = (lx_W.getD (pm kk) []).getD c 32 := fun z => q72 (by rw [← z c (by omega), hup])
        by_cases h8 : c + 1 < 8
        · refine jr_iload 28 dX10_wordFrom_26 rfl rfl ?_
          refine jr_bipush (nI 8) 30 dX10_wordFrom_28 rfl rfl ?_
          refine jr_icmp_ge 88 33 dX10_wordFrom_30 rfl rfl (fun z => absurd z (nI_ge (b := 8) h8 (by decide))) (fun q30 => ?_)
          refine jr_iload 35 dX10_wordFrom_33 rfl rfl ?_
          refine jr_if_eq 88 38 dX10_wordFrom_35 rfl rfl (fun q35 => ?_) (fun q => absurd (by decide) q)
          exact fin _ _ (Or.inr ⟨hno, rfl⟩)
        · refine jr_iload 28 dX10_wordFrom_26 rfl rfl ?_
          refine jr_bipush (nI 8) 30 dX10_wordFrom_28 rfl rfl ?_
          refine jr_icmp_ge 88 33 dX10_wordFrom_30 rfl rfl (fun q30 => ?_) (fun z => absurd (nI_le (b := c + 1) (by omega) (by omega)) z)
          exact fin _ _ (Or.inr ⟨hno, rfl⟩)
      · refine jr_iconst (nI 1) 76 dX10_wordFrom_75 rfl rfl ?_
        refine jr_goto 80 dX10_wordFrom_76 rfl ?_
        refine jr_istore (L' := [_, _, _, _, _, _]) 82 dX10_wordFrom_80 rfl (by decide) rfl ?_
        refine jr_iinc (v := nI (c + 1)) (L' := [_, _, _, _, _, _]) 85 dX10_wordFrom_82 rfl rfl (nI_1 c) (by decide) rfl ?_
        refine jr_goto 26 dX10_wordFrom_85 rfl ?_
        exact ih (c + 1) (by omega) (fun c2 h2 => by
          by_cases z : c2 = c
          · subst z
            rw [hup]
            exact ((nI_eq (by omega) (by omega)).mp q72).symm
          · exact hj c2 (by omega))
theorem wp_wordFrom {G : jr_G} {d : Nat} {σ : jr_Sg} {k : Value → jr_Sg → Prop} {b : Nat → Nat} {tp q e : Nat} (ht : tR b tp σ) (he : e ≤ tp) (hq : q ≤ e) (hle : ∀ i, q ≤ i → i < e → lx_le (b i) = true) (fin : ∀ kk : Nat, (kk < 3 ∧ lx_wl (lx_u b q e) 12 = 10 + kk) ∨ (3 ≤ kk ∧ kk < 12 ∧ lx_wl (lx_u b q e) 12 = kk - 2) ∨ (kk = 12 ∧ lx_wl (lx_u b q e) 12 = 24) → k (.int (nI kk)) σ) : jr_M G d mi_X10_wordFrom [.ref 46, .int (nI q), .int (nI e)] σ (jr_k k) := by
  have h160 := ht.2.1
  have hno : (∀ kk, kk < 12 → lx_u b q e ≠ lx_W.getD (pm kk) []) → lx_wl (lx_u b q e) 12 = 24 := fun z => W_no 12 (fun a ha => by
    by_cases h9 : a < 9
    · have := z (a + 3) (by omega)
      rw [show pm (a + 3) = a by unfold pm; rw [if_neg (by omega)]; omega] at this
      exact this
    · have := z (a - 9) (by omega)
      rw [show pm (a - 9) = a by unfold pm; rw [if_pos (by omega)]; omega] at this
      exact this)
  have hpm : ∀ kk, kk < 12 → pm kk < 12 := fun kk h => by
    unfold pm
    split <;> omega
  have hyes : ∀ kk, kk < 12 → lx_u b q e = lx_W.getD (pm kk) [] → (kk < 3 ∧ lx_wl (lx_u b q e) 12 = 10 + kk) ∨ (3 ≤ kk ∧ kk < 12 ∧ lx_wl (lx_u b q e) 12 = kk - 2) ∨ (kk = 12 ∧ lx_wl (lx_u b q e) 12 = 24) := fun kk h z => by
    have h1 := W_at ⟨pm kk, hpm kk h⟩
    simp only at h1
    rw [z, h1]
    unfold pm
    split <;> omega
  have hpe : e - q ≤ 8 → ∀ kk, kk < 12 → (∀ c, c < 8 → (lx_u b q e).getD c 32 = (lx_W.getD (pm kk) []).getD c 32) → lx_u b q e = lx_W.getD (pm kk) [] := fun h8 kk h z => by
    have h1 := W_len ⟨pm kk, hpm kk h⟩
    simp only at h1
    refine pad_eq (by rw [lx_u_len]; exact h8) h1.1 (fun i hi => ?_) (fun i hi => h1.2 ⟨i, by omega⟩ hi) z
    rw [lx_u_len] at hi
    rw [u_pad, if_pos (by omega)]
    have := hle (q + i) (by omega) (by omega)
    unfold lx_le at this
    simp only [decide_eq_true_eq] at this
    omega
  have main : ∀ n kk (x4 x5 : Option Value), kk + n = 12 → (∀ k2, k2 < kk → lx_u b q e ≠ lx_W.getD (pm k2) []) → jr_R G d mi_X10_wordFrom (jr_k k) 2 [some (.ref 46), some (.int (nI q)), some (.int (nI e)), some (.int (nI kk)), x4, x5] [] σ := by
    intro n
    induction n with
    | zero =>
      intro kk x4 x5 hn hk
      have e12 : kk = 12 := hn
      subst e12
      refine jr_iload_n 3 3 dX10_wordFrom_2 rfl rfl rfl ?_
      refine jr_bipush (nI 12) 5 dX10_wordFrom_3 rfl rfl ?_
      refine jr_icmp_ge 101 8 dX10_wordFrom_5 rfl rfl (fun q5 => ?_) (fun z => absurd (Int32.le_refl _) z)
      refine jr_bipush (nI 12) 103 dX10_wordFrom_101 rfl rfl ?_
      refine jr_ireturn dX10_wordFrom_103 rfl rfl ?_
      exact fin 12 (Or.inr (Or.inr ⟨rfl, hno hk⟩))
    | succ n ih =>
      intro kk x4 x5 hn hk
      by_cases h8 : e - q ≤ 8
      · refine jr_iload_n 3 3 dX10_wordFrom_2 rfl rfl rfl ?_
        refine jr_bipush (nI 12) 5 dX10_wordFrom_3 rfl rfl ?_
        refine jr_icmp_ge 101 8 dX10_wordFrom_5 rfl rfl (fun z => absurd z (nI_ge (b := 12) (by omega) (by decide))) (fun q5 => ?_)
        refine jr_iload_n 2 9 dX10_wordFrom_8 rfl rfl rfl ?_
        refine jr_iload_n 1 10 dX10_wordFrom_9 rfl rfl rfl ?_
        refine jr_isub 11 dX10_wordFrom_10 rfl ?_
        rw [pk_sub hq]
        refine jr_bipush (nI 8) 13 dX10_wordFrom_11 rfl rfl ?_
        refine jr_icmp_gt 20 16 dX10_wordFrom_13 rfl rfl (fun z => absurd z (nI_nlt (b := e - q) (a := 8) h8 (by decide))) (fun q13 => ?_)
        refine jr_iconst (1) 17 dX10_wordFrom_16 rfl rfl ?_
        refine jr_goto 21 dX10_wordFrom_17 rfl ?_
        refine jr_istore (L' := [_, _, _, _, _, _]) 23 dX10_wordFrom_21 rfl (by decide) rfl ?_
        refine jr_iconst (nI 0) 24 dX10_wordFrom_23 rfl rfl ?_
        refine jr_istore (L' := [_, _, _, _, _, _]) 26 dX10_wordFrom_24 rfl (by decide) rfl ?_
        refine wf_in ht (by omega) he hq (fun z x5 hz => ?_) 8 0 rfl (fun c2 h => absurd h (Nat.not_lt_zero _))
        rcases hz with ⟨hz, rfl⟩ | ⟨hz, rfl⟩
        · refine jr_iload 90 dX10_wordFrom_88 rfl rfl ?_
          refine jr_if_eq 95 93 dX10_wordFrom_90 rfl rfl (fun q => absurd q (by decide)) (fun q90 => ?_)
          refine jr_iload_n 3 94 dX10_wordFrom_93 rfl rfl rfl ?_
          refine jr_ireturn dX10_wordFrom_94 rfl rfl ?_
          exact fin kk (hyes kk (by omega) (hpe h8 kk (by omega) hz))
        · refine jr_iload 90 dX10_wordFrom_88 rfl rfl ?_
          refine jr_if_eq 95 93 dX10_wordFrom_90 rfl rfl (fun q90 => ?_) (fun q => absurd (by decide) q)
          refine jr_iinc (v := nI (kk + 1)) (L' := [_, _, _, _, _, _]) 98 dX10_wordFrom_95 rfl rfl (nI_1 kk) (by decide) rfl ?_
          refine jr_goto 2 dX10_wordFrom_98 rfl ?_
          exact ih (kk + 1) _ _ (by omega) (fun k2 h2 => by
            by_cases z : k2 = kk
            · subst z
              exact fun z2 => hz (fun c hc => by rw [z2])
            · exact hk k2 (by omega))
      · refine jr_iload_n 3 3 dX10_wordFrom_2 rfl rfl rfl ?_
        refine jr_bipush (nI 12) 5 dX10_wordFrom_3 rfl rfl ?_
        refine jr_icmp_ge 101 8 dX10_wordFrom_5 rfl rfl (fun z => absurd z (nI_ge (b := 12) (by omega) (by decide))) (fun q5 => ?_)
        refine jr_iload_n 2 9 dX10_wordFrom_8 rfl rfl rfl ?_
        refine jr_iload_n 1 10 dX10_wordFrom_9 rfl rfl rfl ?_
        refine jr_isub 11 dX10_wordFrom_10 rfl ?_
        rw [pk_sub hq]
        refine jr_bipush (nI 8) 13 dX10_wordFrom_11 rfl rfl ?_
        refine jr_icmp_gt 20 16 dX10_wordFrom_13 rfl rfl (fun q13 => ?_) (fun z => absurd (nI_lt (b := e - q) (a := 8) (by omega) (by omega)) z)
        refine jr_iconst (0) 21 dX10_wordFrom_20 rfl rfl ?_
        refine jr_istore (L' := [_, _, _, _, _, _]) 23 dX10_wordFrom_21 rfl (by decide) rfl ?_
        refine jr_iconst (nI 0) 24 dX10_wordFrom_23 rfl rfl ?_
        refine jr_istore (L' := [_, _, _, _, _, _]) 26 dX10_wordFrom_24 rfl (by decide) rfl ?_
        refine jr_iload 28 dX10_wordFrom_26 rfl rfl ?_
        refine jr_bipush (nI 8) 30 dX10_wordFrom_28 rfl rfl ?_
        refine jr_icmp_ge 88 33 dX10_wordFrom_30 rfl rfl (fun q => absurd q (by decide)) (fun q30 => ?_)
        refine jr_iload 35 dX10_wordFrom_33 rfl rfl ?_
        refine jr_if_eq 88 38 dX10_wordFrom_35 rfl rfl (fun q35 => ?_) (fun q => absurd (by decide) q)
        refine jr_iload 90 dX10_wordFrom_88 rfl rfl ?_
        refine jr_if_eq 95 93 dX10_wordFrom_90 rfl rfl (fun q90 => ?_) (fun q => absurd (by decide) q)
        refine jr_iinc (v := nI (kk + 1)) (L' := [_, _, _, _, _, _]) 98 dX10_wordFrom_95 rfl rfl (nI_1 kk) (by decide) rfl ?_
        refine jr_goto 2 dX10_wordFrom_98 rfl ?_
        exact ih (kk + 1) _ _ (by omega) (fun k2 h2 => by
          by_cases z : k2 = kk
          · subst z
            intro z2
            have h1 := W_len ⟨pm k2, hpm k2 (by omega)⟩
            simp only at h1
            rw [← z2, lx_u_len] at h1
            omega
          · exact hk k2 (by omega))
  refine jr_enter (L := [some (.ref 46), some (.int (nI q)), some (.int (nI e)), none, none, none]) (by decide) (Nat.le_of_ble_eq_true rfl) rfl ?_
  refine jr_iconst (nI 0) 1 dX10_wordFrom_0 rfl rfl ?_
  refine jr_istore_n 3 (L' := [_, _, _, _, _, _]) 2 dX10_wordFrom_1 rfl rfl (by decide) rfl ?_
  exact main 12 0 none none rfl (fun k2 h => absurd h (Nat.not_lt_zero _))
def rtk (t : Nat) : Int32 := match t with
  | 23 => 0
  | 19 => 1
  | 7 => 4
  | 8 => 5
  | 9 => 6
  | 10 => 3
  | 11 => 3
  | 12 => 3
  | 20 => 40
  | 21 => 41
  | 22 => 59
  | 15 => 43
  | 16 => 45
  | 17 => 42
  | 13 => 60
  | 14 => 61
  | 24 => -1
  | _ => 2
def lxR (b : Nat → Nat) (tp p : Nat) (σ : jr_Sg) : Prop := σ 46 25 = rtk (lx_t b tp p) ∧ (lx_t b tp p = 19 → σ 46 26 = nI (lx_v b tp p)) ∧ (lx_t b tp p ≤ 6 → σ 46 26 = nI (lx_t b tp p - 1)) ∧ (10 ≤ lx_t b tp p → lx_t b tp p ≤ 12 → σ 46 26 = nI (lx_t b tp p - 10)) ∧ σ 46 24 = nI (lx_b b tp p) ∧ σ 46 23 = nI (lx_n b tp p)
theorem rin {c : Nat → Bool} {lo hi x : Nat} (hc : ∀ x, c x = true ↔ lo ≤ x ∧ x ≤ hi) (hx : x ≤ 255) (hlo : lo ≤ 255) (hhi : hi ≤ 255) : (nI lo ≤ nI x ∧ nI x ≤ nI hi) ↔ c x = true := by
  rw [hc, nI_leI (by omega) (by omega), nI_leI (by omega) (by omega)]
theorem le_iff (x : Nat) : lx_le x = true ↔ 97 ≤ x ∧ x ≤ 122 := by unfold lx_le; simp
theorem di_iff (x : Nat) : lx_di x = true ↔ 48 ≤ x ∧ x ≤ 57 := by unfold lx_di; simp
theorem wp_inL {G : jr_G} {d : Nat} {σ : jr_Sg} {k : Value → jr_Sg → Prop} {x : Nat} (hx : x ≤ 255) (h1 : lx_le x = true → k (.int 1) σ) (h0 : ¬ lx_le x = true → k (.int 0) σ) : jr_M G d mi_X10_in [.int (nI x), .int (nI 97), .int (nI 122)] σ (jr_k k) := wp_in (fun a b => h1 ((rin le_iff hx (by decide) (by decide)).mp ⟨a, b⟩)) (fun z => h0 (fun q => z ((rin le_iff hx (by decide) (by decide)).mpr q)))
theorem wp_inD {G : jr_G} {d : Nat} {σ : jr_Sg} {k : Value → jr_Sg → Prop} {x : Nat} (hx : x ≤ 255) (h1 : lx_di x = true → k (.int 1) σ) (h0 : ¬ lx_di x = true → k (.int 0) σ) : jr_M G d mi_X10_in [.int (nI x), .int (nI 48), .int (nI 57)] σ (jr_k k) := wp_in (fun a b => h1 ((rin di_iff hx (by decide) (by decide)).mp ⟨a, b⟩)) (fun z => h0 (fun q => z ((rin di_iff hx (by decide) (by decide)).mpr q)))
theorem nx_skip {G : jr_G} {d : Nat} {σ : jr_Sg} {k : jr_Sg → Prop} {b : Nat → Nat} {tp q : Nat} {x1 x2 : Option Value} (ht : tR b tp σ) (fin : ∀ σ' : jr_Sg, fr46 [23] σ σ' → σ' 46 23 = nI (lx_e lx_bl b tp q) → jr_R G d mi_X10_next (jr_kv k) 52 [some (.ref 46), x1, x2] [] σ') : ∀ n i, i + n = tp → lx_e lx_bl b tp q = lx_e lx_bl b tp i → ∀ σ1 : jr_Sg, fr46 [23] σ σ1 → σ1 46 23 = nI i → jr_R G d mi_X10_next (jr_kv k) 0 [some (.ref 46), x1, x2] [] σ1 := by
  have h160 := ht.2.1
  intro n
  induction n with
  | zero =>
    intro i hi he σ1 hf h5
    rw [lx_e_end (p := i) (by omega)] at he
    refine jr_aload_n 0 1 dX10_next_0 rfl rfl rfl ?_
    refine gf_X10_125 4 dX10_next_1 rfl rfl rfl rfl ?_
    refine jr_topi (y := nI i) h5 ?_
    refine jr_aload_n 0 5 dX10_next_4 rfl rfl rfl ?_
    refine gf_X10_98 8 dX10_next_5 rfl rfl rfl rfl ?_
    refine jr_topi (y := nI tp) ((hf.2 9 (by decide)).trans ht.1) ?_
    refine jr_icmp_ge 52 11 dX10_next_8 rfl rfl (fun q8 => ?_) (fun z => absurd (nI_le (by omega) (by omega)) z)
    exact fin σ1 hf (by rw [he]; exact h5)
  | succ n ih =>
    intro i hi he σ1 hf h5
    have ht1 := tR_fr ht hf (by decide)
    have hbi := (ht.2.2.1 i (by omega)).2
    have e (y : Nat) (hy : y < 256) : nI (b i) = nI y ↔ b i = y := nI_eq (by omega) (by omega)
    have hbl : lx_bl (b i) = true ↔ b i = 32 ∨ b i = 10 := by unfold lx_bl; simp
    refine jr_aload_n 0 1 dX10_next_0 rfl rfl rfl ?_
    refine gf_X10_125 4 dX10_next_1 rfl rfl rfl rfl ?_
    refine jr_topi (y := nI i) h5 ?_
    refine jr_aload_n 0 5 dX10_next_4 rfl rfl rfl ?_
    refine gf_X10_98 8 dX10_next_5 rfl rfl rfl rfl ?_
    refine jr_topi (y := nI tp) ((hf.2 9 (by decide)).trans ht.1) ?_
    refine jr_icmp_ge 52 11 dX10_next_8 rfl rfl (fun z => absurd z (nI_ge (by omega) (by omega))) (fun q8 => ?_)
    refine jr_aload_n 0 12 dX10_next_11 rfl rfl rfl ?_
    refine gf_X10_28 15 dX10_next_12 rfl rfl rfl rfl ?_
    refine jr_aload_n 0 16 dX10_next_15 rfl rfl rfl ?_
    refine gf_X10_125 19 dX10_next_16 rfl rfl rfl rfl ?_
    refine jr_topi (y := nI i) h5 ?_
    refine jr_iale (k := i) rfl rfl (by omega) (ht1.2.2.1 i (by omega)).1 20 dX10_next_19 rfl ?_
    refine jr_bipush (nI 32) 22 dX10_next_20 rfl rfl ?_
    refine jr_icmp_eq 39 25 dX10_next_22 rfl rfl (fun q22 => ?_) (fun q22 => ?_)
    · refine jr_aload_n 0 40 dX10_next_39 rfl rfl rfl ?_
      refine jr_dup 41 dX10_next_40 rfl rfl ?_
      refine gf_X10_125 44 dX10_next_41 rfl rfl rfl rfl ?_
      refine jr_topi (y := nI i) h5 ?_
      refine jr_iconst (nI 1) 45 dX10_next_44 rfl rfl ?_
      refine jr_iadd 46 dX10_next_45 rfl ?_
      rw [nI_add]
      refine pf_X10_125 49 dX10_next_46 rfl rfl rfl rfl ?_
      refine jr_goto 0 dX10_next_49 rfl ?_
      exact ih (i + 1) (by omega) (by rw [he, lx_e_go (by omega) (hbl.mpr (by first | exact Or.inl ((e 32 (by decide)).mp q22) | exact Or.inr ((e 10 (by decide)).mp q36)))]) _ (fr46_up hf (by decide)) rfl
    · refine jr_aload_n 0 26 dX10_next_25 rfl rfl rfl ?_
      refine gf_X10_28 29 dX10_next_26 rfl rfl rfl rfl ?_
      refine jr_aload_n 0 30 dX10_next_29 rfl rfl rfl ?_
      refine gf_X10_125 33 dX10_next_30 rfl rfl rfl rfl ?_
      refine jr_topi (y := nI i) h5 ?_
      refine jr_iale (k := i) rfl rfl (by omega) (ht1.2.2.1 i (by omega)).1 34 dX10_next_33 rfl ?_
      refine jr_bipush (nI 10) 36 dX10_next_34 rfl rfl ?_
      refine jr_icmp_ne 52 39 dX10_next_36 rfl rfl (fun q36 => ?_) (fun q36 => ?_)
      · exact fin σ1 hf (by rw [he, lx_e_no (fun z => (hbl.mp z).elim (fun z => q22 ((e 32 (by decide)).mpr z)) (fun z => q36 ((e 10 (by decide)).mpr z)))]; exact h5)
      · refine jr_aload_n 0 40 dX10_next_39 rfl rfl rfl ?_
        refine jr_dup 41 dX10_next_40 rfl rfl ?_
        refine gf_X10_125 44 dX10_next_41 rfl rfl rfl rfl ?_
        refine jr_topi (y := nI i) h5 ?_
        refine jr_iconst (nI 1) 45 dX10_next_44 rfl rfl ?_
        refine jr_iadd 46 dX10_next_45 rfl ?_
        rw [nI_add]
        refine pf_X10_125 49 dX10_next_46 rfl rfl rfl rfl ?_
        refine jr_goto 0 dX10_next_49 rfl ?_
        exact ih (i + 1) (by omega) (by rw [he, lx_e_go (by omega) (hbl.mpr (by first | exact Or.inl ((e 32 (by decide)).mp q22) | exact Or.inr ((e 10 (by decide)).mp q36)))]) _ (fr46_up hf (by decide)) rfl
theorem nx_word {G : jr_G} {d : Nat} {σ : jr_Sg} {k : jr_Sg → Prop} {b : Nat → Nat} {tp q : Nat} {x1 x2 : Option Value} (ht : tR b tp σ) (fin : ∀ σ' : jr_Sg, fr46 [23] σ σ' → σ' 46 23 = nI (lx_e lx_le b tp q) → jr_R G (d + 1) mi_X10_next (jr_kv k) 146 [some (.ref 46), x1, x2] [] σ') : ∀ n i, i + n = tp → lx_e lx_le b tp q = lx_e lx_le b tp i → ∀ σ1 : jr_Sg, fr46 [23] σ σ1 → σ1 46 23 = nI i → jr_R G (d + 1) mi_X10_next (jr_kv k) 103 [some (.ref 46), x1, x2] [] σ1 := by
  have h160 := ht.2.1
  intro n
  induction n with
  | zero =>
    intro i hi he σ1 hf h5
    rw [lx_e_end (p := i) (by omega)] at he
    refine jr_aload_n 0 104 dX10_next_103 rfl rfl rfl ?_
    refine gf_X10_125 107 dX10_next_104 rfl rfl rfl rfl ?_
    refine jr_topi (y := nI i) h5 ?_
    refine jr_aload_n 0 108 dX10_next_107 rfl rfl rfl ?_
    refine gf_X10_98 111 dX10_next_108 rfl rfl rfl rfl ?_
    refine jr_topi (y := nI tp) ((hf.2 9 (by decide)).trans ht.1) ?_
    refine jr_icmp_ge 146 114 dX10_next_111 rfl rfl (fun q111 => ?_) (fun z => absurd (nI_le (by omega) (by omega)) z)
    exact fin σ1 hf (by rw [he]; exact h5)
  | succ n ih =>
    intro i hi he σ1 hf h5
    have ht1 := tR_fr ht hf (by decide)
    have hbi := (ht.2.2.1 i (by omega)).2
    refine jr_aload_n 0 104 dX10_next_103 rfl rfl rfl ?_
    refine gf_X10_125 107 dX10_next_104 rfl rfl rfl rfl ?_
    refine jr_topi (y := nI i) h5 ?_
    refine jr_aload_n 0 108 dX10_next_107 rfl rfl rfl ?_
    refine gf_X10_98 111 dX10_next_108 rfl rfl rfl rfl ?_
    refine jr_topi (y := nI tp) ((hf.2 9 (by decide)).trans ht.1) ?_
    refine jr_icmp_ge 146 114 dX10_next_111 rfl rfl (fun z => absurd z (nI_ge (by omega) (by omega))) (fun q111 => ?_)
    refine jr_aload_n 0 115 dX10_next_114 rfl rfl rfl ?_
    refine gf_X10_28 118 dX10_next_115 rfl rfl rfl rfl ?_
    refine jr_aload_n 0 119 dX10_next_118 rfl rfl rfl ?_
    refine gf_X10_125 122 dX10_next_119 rfl rfl rfl rfl ?_
    refine jr_topi (y := nI i) h5 ?_
    refine jr_iale (k := i) rfl rfl (by omega) (ht1.2.2.1 i (by omega)).1 123 dX10_next_122 rfl ?_
    refine jr_bipush (nI 97) 125 dX10_next_123 rfl rfl ?_
    refine jr_bipush (nI 122) 127 dX10_next_125 rfl rfl ?_
    refine cs_X10_108 130 dX10_next_127 rfl rfl (Nat.le_of_ble_eq_true rfl) (wp_inL hbi (fun hc => ?_) (fun hc => ?_))
    · refine jr_if_eq 146 133 dX10_next_130 rfl rfl (fun q => absurd q (by decide)) (fun q130 => ?_)
      refine jr_aload_n 0 134 dX10_next_133 rfl rfl rfl ?_
      refine jr_dup 135 dX10_next_134 rfl rfl ?_
      refine gf_X10_125 138 dX10_next_135 rfl rfl rfl rfl ?_
      refine jr_topi (y := nI i) h5 ?_
      refine jr_iconst (nI 1) 139 dX10_next_138 rfl rfl ?_
      refine jr_iadd 140 dX10_next_139 rfl ?_
      rw [nI_add]
      refine pf_X10_125 143 dX10_next_140 rfl rfl rfl rfl ?_
      refine jr_goto 103 dX10_next_143 rfl ?_
      exact ih (i + 1) (by omega) (by rw [he, lx_e_go (by omega) hc]) _ (fr46_up hf (by decide)) rfl
    · refine jr_if_eq 146 133 dX10_next_130 rfl rfl (fun q130 => ?_) (fun q => absurd (by decide) q)
      exact fin σ1 hf (by rw [he, lx_e_no hc]; exact h5)
theorem nx_digs {G : jr_G} {d : Nat} {σ : jr_Sg} {k : jr_Sg → Prop} {b : Nat → Nat} {tp q : Nat} {c1 : Int32} (ht : tR b tp σ) (fin : ∀ (σ' : jr_Sg) (m : Nat), m = lx_e lx_di b tp q - q → fr46 [23, 26] σ σ' → σ' 46 23 = nI (lx_e lx_di b tp q) → (m ≤ 4 → σ' 46 26 = nI (lx_nv b q m)) → jr_R G (d + 1) mi_X10_next (jr_kv k) 309 [some (.ref 46), some (.int c1), some (.int (nI m))] [] σ') : ∀ n i, q + i + n = tp → lx_e lx_di b tp q = lx_e lx_di b tp (q + i) → ∀ σ1 : jr_Sg, fr46 [23, 26] σ σ1 → σ1 46 23 = nI (q + i) → (i ≤ 4 → σ1 46 26 = nI (lx_nv b q i)) → jr_R G (d + 1) mi_X10_next (jr_kv k) 230 [some (.ref 46), some (.int c1), some (.int (nI i))] [] σ1 := by
  have h160 := ht.2.1
  intro n
  induction n with
  | zero =>
    intro i hi he σ1 hf h5 h4
    rw [lx_e_end (p := q + i) (by omega)] at he
    refine jr_aload_n 0 231 dX10_next_230 rfl rfl rfl ?_
    refine gf_X10_125 234 dX10_next_231 rfl rfl rfl rfl ?_
    refine jr_topi (y := nI (q + i)) h5 ?_
    refine jr_aload_n 0 235 dX10_next_234 rfl rfl rfl ?_
    refine gf_X10_98 238 dX10_next_235 rfl rfl rfl rfl ?_
    refine jr_topi (y := nI tp) ((hf.2 9 (by decide)).trans ht.1) ?_
    refine jr_icmp_ge 309 241 dX10_next_238 rfl rfl (fun q238 => ?_) (fun z => absurd (nI_le (by omega) (by omega)) z)
    exact fin σ1 i (by rw [he]; omega) hf (by rw [he]; exact h5) h4
  | succ n ih =>
    intro i hi he σ1 hf h5 h4
    have ht1 := tR_fr ht hf (by decide)
    have hbi := (ht.2.2.1 (q + i) (by omega)).2
    by_cases i4 : i < 4
    · refine jr_aload_n 0 231 dX10_next_230 rfl rfl rfl ?_
      refine gf_X10_125 234 dX10_next_231 rfl rfl rfl rfl ?_
      refine jr_topi (y := nI (q + i)) h5 ?_
      refine jr_aload_n 0 235 dX10_next_234 rfl rfl rfl ?_
      refine gf_X10_98 238 dX10_next_235 rfl rfl rfl rfl ?_
      refine jr_topi (y := nI tp) ((hf.2 9 (by decide)).trans ht.1) ?_
      refine jr_icmp_ge 309 241 dX10_next_238 rfl rfl (fun z => absurd z (nI_ge (by omega) (by omega))) (fun q238 => ?_)
      refine jr_aload_n 0 242 dX10_next_241 rfl rfl rfl ?_
      refine gf_X10_28 245 dX10_next_242 rfl rfl rfl rfl ?_
      refine jr_aload_n 0 246 dX10_next_245 rfl rfl rfl ?_
      refine gf_X10_125 249 dX10_next_246 rfl rfl rfl rfl ?_
      refine jr_topi (y := nI (q + i)) h5 ?_
      refine jr_iale (k := (q + i)) rfl rfl (by omega) (ht1.2.2.1 (q + i) (by omega)).1 250 dX10_next_249 rfl ?_
      refine jr_bipush (nI 48) 252 dX10_next_250 rfl rfl ?_
      refine jr_bipush (nI 57) 254 dX10_next_252 rfl rfl ?_
      refine cs_X10_108 257 dX10_next_254 rfl rfl (Nat.le_of_ble_eq_true rfl) (wp_inD hbi (fun hc => ?_) (fun hc => ?_))
      · refine jr_if_eq 309 260 dX10_next_257 rfl rfl (fun q => absurd q (by decide)) (fun q257 => ?_)
        refine jr_aload_n 0 261 dX10_next_260 rfl rfl rfl ?_
        refine jr_iload_n 2 262 dX10_next_261 rfl rfl rfl ?_
        refine jr_iconst (nI 4) 263 dX10_next_262 rfl rfl ?_
        refine jr_icmp_ge 289 266 dX10_next_263 rfl rfl (fun z => absurd z (nI_ge (b := 4) i4 (by decide))) (fun q263 => ?_)
        refine jr_bipush (nI 10) 268 dX10_next_266 rfl rfl ?_
        refine jr_aload_n 0 269 dX10_next_268 rfl rfl rfl ?_
        refine gf_X10_134 272 dX10_next_269 rfl rfl rfl rfl ?_
        refine jr_topi (y := nI (lx_nv b q i)) (h4 (by omega)) ?_
        refine jr_imul 273 dX10_next_272 rfl ?_
        refine jr_aload_n 0 274 dX10_next_273 rfl rfl rfl ?_
        refine gf_X10_28 277 dX10_next_274 rfl rfl rfl rfl ?_
        refine jr_aload_n 0 278 dX10_next_277 rfl rfl rfl ?_
        refine gf_X10_125 281 dX10_next_278 rfl rfl rfl rfl ?_
        refine jr_topi (y := nI (q + i)) h5 ?_
        refine jr_iale (k := (q + i)) rfl rfl (by omega) (ht1.2.2.1 (q + i) (by omega)).1 282 dX10_next_281 rfl ?_
        refine jr_iadd 283 dX10_next_282 rfl ?_
        refine jr_bipush (nI 48) 285 dX10_next_283 rfl rfl ?_
        refine jr_isub 286 dX10_next_285 rfl ?_
        rw [lx_dig hc]
        refine jr_goto 290 dX10_next_286 rfl ?_
        refine pf_X10_134 293 dX10_next_290 rfl rfl rfl rfl ?_
        refine jr_iinc (v := nI (i + 1)) (L' := [_, _, _]) 296 dX10_next_293 rfl rfl (nI_1 i) (by decide) rfl ?_
        refine jr_aload_n 0 297 dX10_next_296 rfl rfl rfl ?_
        refine jr_dup 298 dX10_next_297 rfl rfl ?_
        refine gf_X10_125 301 dX10_next_298 rfl rfl rfl rfl ?_
        refine jr_topi (y := nI (q + i)) h5 ?_
        refine jr_iconst (nI 1) 302 dX10_next_301 rfl rfl ?_
        refine jr_iadd 303 dX10_next_302 rfl ?_
        rw [nI_add]
        refine pf_X10_125 306 dX10_next_303 rfl rfl rfl rfl ?_
        refine jr_goto 230 dX10_next_306 rfl ?_
        exact ih (i + 1) (by omega) (by rw [he, lx_e_go (by omega) hc, Nat.add_assoc]) _ (fr46_up (fr46_up hf (by decide)) (by decide)) rfl (fun z => rfl)
      · refine jr_if_eq 309 260 dX10_next_257 rfl rfl (fun q257 => ?_) (fun q => absurd (by decide) q)
        exact fin σ1 i (by rw [he, lx_e_no hc]; omega) hf (by rw [he, lx_e_no hc]; exact h5) h4
    · refine jr_aload_n 0 231 dX10_next_230 rfl rfl rfl ?_
      refine gf_X10_125 234 dX10_next_231 rfl rfl rfl rfl ?_
      refine jr_topi (y := nI (q + i)) h5 ?_
      refine jr_aload_n 0 235 dX10_next_234 rfl rfl rfl ?_
      refine gf_X10_98 238 dX10_next_235 rfl rfl rfl rfl ?_
      refine jr_topi (y := nI tp) ((hf.2 9 (by decide)).trans ht.1) ?_
      refine jr_icmp_ge 309 241 dX10_next_238 rfl rfl (fun z => absurd z (nI_ge (by omega) (by omega))) (fun q238 => ?_)
      refine jr_aload_n 0 242 dX10_next_241 rfl rfl rfl ?_
      refine gf_X10_28 245 dX10_next_242 rfl rfl rfl rfl ?_
      refine jr_aload_n 0 246 dX10_next_245 rfl rfl rfl ?_
      refine gf_X10_125 249 dX10_next_246 rfl rfl rfl rfl ?_
      refine jr_topi (y := nI (q + i)) h5 ?_
      refine jr_iale (k := (q + i)) rfl rfl (by omega) (ht1.2.2.1 (q + i) (by omega)).1 250 dX10_next_249 rfl ?_
      refine jr_bipush (nI 48) 252 dX10_next_250 rfl rfl ?_
      refine jr_bipush (nI 57) 254 dX10_next_252 rfl rfl ?_
      refine cs_X10_108 257 dX10_next_254 rfl rfl (Nat.le_of_ble_eq_true rfl) (wp_inD hbi (fun hc => ?_) (fun hc => ?_))
      · refine jr_if_eq 309 260 dX10_next_257 rfl rfl (fun q => absurd q (by decide)) (fun q257 => ?_)
        refine jr_aload_n 0 261 dX10_next_260 rfl rfl rfl ?_
        refine jr_iload_n 2 262 dX10_next_261 rfl rfl rfl ?_
        refine jr_iconst (nI 4) 263 dX10_next_262 rfl rfl ?_
        refine jr_icmp_ge 289 266 dX10_next_263 rfl rfl (fun q263 => ?_) (fun z => absurd (nI_le (a := 4) (b := i) (by omega) (by omega)) z)
        refine jr_iconst (nI 0) 290 dX10_next_289 rfl rfl ?_
        refine pf_X10_134 293 dX10_next_290 rfl rfl rfl rfl ?_
        refine jr_iinc (v := nI (i + 1)) (L' := [_, _, _]) 296 dX10_next_293 rfl rfl (nI_1 i) (by decide) rfl ?_
        refine jr_aload_n 0 297 dX10_next_296 rfl rfl rfl ?_
        refine jr_dup 298 dX10_next_297 rfl rfl ?_
        refine gf_X10_125 301 dX10_next_298 rfl rfl rfl rfl ?_
        refine jr_topi (y := nI (q + i)) h5 ?_
        refine jr_iconst (nI 1) 302 dX10_next_301 rfl rfl ?_
        refine jr_iadd 303 dX10_next_302 rfl ?_
        rw [nI_add]
        refine pf_X10_125 306 dX10_next_303 rfl rfl rfl rfl ?_
        refine jr_goto 230 dX10_next_306 rfl ?_
        exact ih (i + 1) (by omega) (by rw [he, lx_e_go (by omega) hc, Nat.add_assoc]) _ (fr46_up (fr46_up hf (by decide)) (by decide)) rfl (fun z => absurd z (by omega))
      · refine jr_if_eq 309 260 dX10_next_257 rfl rfl (fun q257 => ?_) (fun q => absurd (by decide) q)
        exact fin σ1 i (by rw [he, lx_e_no hc]; omega) hf (by rw [he, lx_e_no hc]; exact h5) h4
theorem rtk_sg {x : Nat} (hx : x ≤ 255) : rtk (lx_sg x) = if x = 40 ∨ x = 41 ∨ x = 59 ∨ x = 43 ∨ x = 45 ∨ x = 42 ∨ x = 60 ∨ x = 61 then nI x else -1 := by
  have k : ∀ x : Fin 256, rtk (lx_sg x.val) = if x.val = 40 ∨ x.val = 41 ∨ x.val = 59 ∨ x.val = 43 ∨ x.val = 45 ∨ x.val = 42 ∨ x.val = 60 ∨ x.val = 61 then nI x.val else -1 := by decide +kernel
  exact k ⟨x, by omega⟩
theorem rtk_wd (kk t : Nat) (h : (kk < 3 ∧ t = 10 + kk) ∨ (3 ≤ kk ∧ kk < 12 ∧ t = kk - 2) ∨ (kk = 12 ∧ t = 24)) : (kk < 3 → rtk t = 3) ∧ (3 ≤ kk → kk < 9 → rtk t = 2) ∧ (kk = 12 → rtk t = -1) ∧ (9 ≤ kk → kk < 12 → rtk t = nI 4 + nI kk - nI 9) := by
  rcases h with ⟨h, rfl⟩ | ⟨h, h2, rfl⟩ | ⟨rfl, rfl⟩
  · rcases (by omega : kk = 0 ∨ kk = 1 ∨ kk = 2) with rfl | rfl | rfl <;> decide +kernel
  · rcases (by omega : kk = 3 ∨ kk = 4 ∨ kk = 5 ∨ kk = 6 ∨ kk = 7 ∨ kk = 8 ∨ kk = 9 ∨ kk = 10 ∨ kk = 11) with rfl | rfl | rfl | rfl | rfl | rfl | rfl | rfl | rfl <;> decide +kernel
  · decide +kernel
theorem wp_next {G : jr_G} {d : Nat} {σ : jr_Sg} {k : jr_Sg → Prop} {b : Nat → Nat} {tp p : Nat} (ht : tR b tp σ) (hp : p ≤ tp) (h6 : σ 46 23 = nI p) (fin : ∀ σ' : jr_Sg, fr46 [23, 24, 25, 26] σ σ' → lxR b tp p σ' → k σ') : jr_M G (d + 2) mi_X10_next [.ref 46] σ (jr_kv k) := by
  have h160 := ht.2.1
  have hble := lx_b_le (b := b) hp
  refine jr_enter (L := [some (.ref 46), none, none]) (by decide) (Nat.le_of_ble_eq_true rfl) rfl ?_
  refine nx_skip (b := b) (tp := tp) (q := p) ht (fun σ1 f1 e1 => ?_) (tp - p) p (by omega) rfl _ (fr46_rf _ _) h6
  have ht1 := tR_fr ht f1 (by decide)
  have htX : tR b tp (jr_up (jr_up (jr_up σ1 46 24 (nI (lx_b b tp p))) 46 25 0) 46 26 0) := tR_fr ht1 (fr46_up (F := [24, 25, 26]) (fr46_up (fr46_up (fr46_rf _ _) (by decide)) (by decide)) (by decide)) (by decide)
  have fX : fr46 [23, 24, 25, 26] σ (jr_up (jr_up (jr_up σ1 46 24 (nI (lx_b b tp p))) 46 25 0) 46 26 0) := fr46_up (fr46_up (fr46_up (fr46_w f1 (by decide)) (by decide)) (by decide)) (by decide)
  have eT : lx_t b tp p = lx_t0 b tp (lx_b b tp p) := rfl
  have eN : lx_n b tp p = lx_n0 b tp (lx_b b tp p) := rfl
  unfold lx_t0 at eT
  unfold lx_n0 at eN
  by_cases hE : tp ≤ lx_b b tp p
  · rw [if_pos hE] at eT eN
    have hE2 : lx_b b tp p = tp := by omega
    refine jr_aload_n 0 53 dX10_next_52 rfl rfl rfl ?_
    refine jr_aload_n 0 54 dX10_next_53 rfl rfl rfl ?_
    refine gf_X10_125 57 dX10_next_54 rfl rfl rfl rfl ?_
    refine jr_topi (y := nI (lx_b b tp p)) e1 ?_
    refine pf_X10_128 60 dX10_next_57 rfl rfl rfl rfl ?_
    refine jr_aload_n 0 61 dX10_next_60 rfl rfl rfl ?_
    refine jr_iconst (nI 0) 62 dX10_next_61 rfl rfl ?_
    refine pf_X10_131 65 dX10_next_62 rfl rfl rfl rfl ?_
    refine jr_aload_n 0 66 dX10_next_65 rfl rfl rfl ?_
    refine jr_iconst (nI 0) 67 dX10_next_66 rfl rfl ?_
    refine pf_X10_134 70 dX10_next_67 rfl rfl rfl rfl ?_
    refine jr_aload_n 0 71 dX10_next_70 rfl rfl rfl ?_
    refine gf_X10_125 74 dX10_next_71 rfl rfl rfl rfl ?_
    refine jr_topi (y := nI (lx_b b tp p)) e1 ?_
    refine jr_aload_n 0 75 dX10_next_74 rfl rfl rfl ?_
    refine gf_X10_98 78 dX10_next_75 rfl rfl rfl rfl ?_
    refine jr_topi (y := nI tp) ((f1.2 9 (by decide)).trans ht.1) ?_
    refine jr_icmp_ne 82 81 dX10_next_78 rfl rfl (fun z => absurd (by rw [hE2]) z) (fun q78 => ?_)
    refine jr_return dX10_next_81 rfl ?_
    exact fin _ fX ⟨by rw [eT]; rfl, fun z => absurd (eT.symm.trans z) (by decide), fun z => absurd (eT ▸ z) (by decide), fun _ z => absurd (eT ▸ z) (by decide), rfl, by rw [eN]; exact e1⟩
  · rw [if_neg hE] at eT eN
    have hbi := (ht.2.2.1 (lx_b b tp p) (by omega)).2
    by_cases hL : lx_le (b (lx_b b tp p)) = true
    · rw [if_pos hL] at eT eN
      refine jr_aload_n 0 53 dX10_next_52 rfl rfl rfl ?_
      refine jr_aload_n 0 54 dX10_next_53 rfl rfl rfl ?_
      refine gf_X10_125 57 dX10_next_54 rfl rfl rfl rfl ?_
      refine jr_topi (y := nI (lx_b b tp p)) e1 ?_
      refine pf_X10_128 60 dX10_next_57 rfl rfl rfl rfl ?_
      refine jr_aload_n 0 61 dX10_next_60 rfl rfl rfl ?_
      refine jr_iconst (nI 0) 62 dX10_next_61 rfl rfl ?_
      refine pf_X10_131 65 dX10_next_62 rfl rfl rfl rfl ?_
      refine jr_aload_n 0 66 dX10_next_65 rfl rfl rfl ?_
      refine jr_iconst (nI 0) 67 dX10_next_66 rfl rfl ?_
      refine pf_X10_134 70 dX10_next_67 rfl rfl rfl rfl ?_
      refine jr_aload_n 0 71 dX10_next_70 rfl rfl rfl ?_
      refine gf_X10_125 74 dX10_next_71 rfl rfl rfl rfl ?_
      refine jr_topi (y := nI (lx_b b tp p)) e1 ?_
      refine jr_aload_n 0 75 dX10_next_74 rfl rfl rfl ?_
      refine gf_X10_98 78 dX10_next_75 rfl rfl rfl rfl ?_
      refine jr_topi (y := nI tp) ((f1.2 9 (by decide)).trans ht.1) ?_
      refine jr_icmp_ne 82 81 dX10_next_78 rfl rfl (fun q78 => ?_) (fun z => absurd ((nI_eq (by omega) (by omega)).mp z) (by omega))
      refine jr_aload_n 0 83 dX10_next_82 rfl rfl rfl ?_
      refine gf_X10_28 86 dX10_next_83 rfl rfl rfl rfl ?_
      refine jr_aload_n 0 87 dX10_next_86 rfl rfl rfl ?_
      refine gf_X10_125 90 dX10_next_87 rfl rfl rfl rfl ?_
      refine jr_topi (y := nI (lx_b b tp p)) e1 ?_
      refine jr_iale (k := (lx_b b tp p)) rfl rfl (by omega) (htX.2.2.1 (lx_b b tp p) (by omega)).1 91 dX10_next_90 rfl ?_
      refine jr_istore_n 1 (L' := [_, _, _]) 92 dX10_next_91 rfl rfl (by decide) rfl ?_
      refine jr_iload_n 1 93 dX10_next_92 rfl rfl rfl ?_
      refine jr_bipush (nI 97) 95 dX10_next_93 rfl rfl ?_
      refine jr_bipush (nI 122) 97 dX10_next_95 rfl rfl ?_
      refine cs_X10_108 100 dX10_next_97 rfl rfl (Nat.le_of_ble_eq_true rfl) (wp_inL hbi (fun _ => ?_) (fun z => absurd hL z))
      refine jr_if_eq 217 103 dX10_next_100 rfl rfl (fun q => absurd q (by decide)) (fun q100 => ?_)
      refine nx_word (b := b) (tp := tp) (q := lx_b b tp p) htX (fun σ2 f2 e2 => ?_) (tp - lx_b b tp p) (lx_b b tp p) (by omega) rfl _ (fr46_rf _ _) e1
      have ht2 := tR_fr htX f2 (by decide)
      refine jr_aload_n 0 147 dX10_next_146 rfl rfl rfl ?_
      refine jr_aload_n 0 148 dX10_next_147 rfl rfl rfl ?_
      refine gf_X10_128 151 dX10_next_148 rfl rfl rfl rfl ?_
      refine jr_topi (y := nI (lx_b b tp p)) (f2.2 24 (by decide)) ?_
      refine jr_aload_n 0 152 dX10_next_151 rfl rfl rfl ?_
      refine gf_X10_125 155 dX10_next_152 rfl rfl rfl rfl ?_
      refine jr_topi (y := nI (lx_e lx_le b tp (lx_b b tp p))) e2 ?_
      refine cs_X10_137 158 dX10_next_155 rfl rfl rfl (Nat.le_of_ble_eq_true rfl) (wp_wordFrom ht2 (lx_e_le hble) lx_e_ge (fun i h1 h2 => lx_e_in h1 h2) (fun kk hkk => ?_))
      refine jr_istore_n 2 (L' := [_, _, _]) 159 dX10_next_158 rfl rfl (by decide) rfl ?_
      obtain ⟨r1, r2, r3, r4⟩ := rtk_wd kk _ hkk
      by_cases k3 : kk < 3
      · refine jr_aload_n 0 160 dX10_next_159 rfl rfl rfl ?_
        refine jr_iload_n 2 161 dX10_next_160 rfl rfl rfl ?_
        refine jr_iconst (nI 3) 162 dX10_next_161 rfl rfl ?_
        refine jr_icmp_ge 169 165 dX10_next_162 rfl rfl (fun z => absurd z (nI_ge (b := 3) (by omega) (by decide))) (fun q162 => ?_)
        refine jr_iconst (nI 3) 166 dX10_next_165 rfl rfl ?_
        refine jr_goto 195 dX10_next_166 rfl ?_
        refine pf_X10_131 198 dX10_next_195 rfl rfl rfl rfl ?_
        refine jr_aload_n 0 199 dX10_next_198 rfl rfl rfl ?_
        refine jr_iload_n 2 200 dX10_next_199 rfl rfl rfl ?_
        refine jr_iconst (nI 3) 201 dX10_next_200 rfl rfl ?_
        refine jr_icmp_ge 208 204 dX10_next_201 rfl rfl (fun z => absurd z (nI_ge (b := 3) (by omega) (by decide))) (fun q201 => ?_)
        refine jr_iload_n 2 205 dX10_next_204 rfl rfl rfl ?_
        refine jr_goto 211 dX10_next_205 rfl ?_
        refine pf_X10_134 214 dX10_next_211 rfl rfl rfl rfl ?_
        refine jr_goto 403 dX10_next_214 rfl ?_
        refine jr_return dX10_next_403 rfl ?_
        exact fin _ (fr46_up (fr46_up (fr46_tr fX (fr46_w f2 (by decide))) (by decide)) (by decide)) ⟨by rw [eT]; exact (r1 k3).symm, fun z => absurd (eT.symm.trans z) (by omega), fun z => absurd (eT ▸ z) (by omega), fun z z2 => by rw [eT]; show nI kk = _; congr 1; omega, f2.2 24 (by decide), by rw [eN]; exact e2⟩
      · by_cases k9 : kk < 9
        · refine jr_aload_n 0 160 dX10_next_159 rfl rfl rfl ?_
          refine jr_iload_n 2 161 dX10_next_160 rfl rfl rfl ?_
          refine jr_iconst (nI 3) 162 dX10_next_161 rfl rfl ?_
          refine jr_icmp_ge 169 165 dX10_next_162 rfl rfl (fun q162 => ?_) (fun z => absurd (nI_le (a := 3) (by omega) (by omega)) z)
          refine jr_iload_n 2 170 dX10_next_169 rfl rfl rfl ?_
          refine jr_bipush (nI 9) 172 dX10_next_170 rfl rfl ?_
          refine jr_icmp_ge 179 175 dX10_next_172 rfl rfl (fun z => absurd z (nI_ge (b := 9) (by omega) (by decide))) (fun q172 => ?_)
          refine jr_iconst (nI 2) 176 dX10_next_175 rfl rfl ?_
          refine jr_goto 195 dX10_next_176 rfl ?_
          refine pf_X10_131 198 dX10_next_195 rfl rfl rfl rfl ?_
          refine jr_aload_n 0 199 dX10_next_198 rfl rfl rfl ?_
          refine jr_iload_n 2 200 dX10_next_199 rfl rfl rfl ?_
          refine jr_iconst (nI 3) 201 dX10_next_200 rfl rfl ?_
          refine jr_icmp_ge 208 204 dX10_next_201 rfl rfl (fun q201 => ?_) (fun z => absurd (nI_le (a := 3) (by omega) (by omega)) z)
          refine jr_iload_n 2 209 dX10_next_208 rfl rfl rfl ?_
          refine jr_iconst (nI 3) 210 dX10_next_209 rfl rfl ?_
          refine jr_isub 211 dX10_next_210 rfl ?_
          refine pf_X10_134 214 dX10_next_211 rfl rfl rfl rfl ?_
          refine jr_goto 403 dX10_next_214 rfl ?_
          refine jr_return dX10_next_403 rfl ?_
          exact fin _ (fr46_up (fr46_up (fr46_tr fX (fr46_w f2 (by decide))) (by decide)) (by decide)) ⟨by rw [eT]; exact (r2 (by omega) k9).symm, fun z => absurd (eT.symm.trans z) (by omega), fun z => by rw [eT]; show nI kk - nI 3 = _; rw [pk_sub (by omega)]; congr 1; omega, fun z z2 => absurd (eT ▸ z) (by omega), f2.2 24 (by decide), by rw [eN]; exact e2⟩
        · by_cases k12 : kk = 12
          · refine jr_aload_n 0 160 dX10_next_159 rfl rfl rfl ?_
            refine jr_iload_n 2 161 dX10_next_160 rfl rfl rfl ?_
            refine jr_iconst (nI 3) 162 dX10_next_161 rfl rfl ?_
            refine jr_icmp_ge 169 165 dX10_next_162 rfl rfl (fun q162 => ?_) (fun z => absurd (nI_le (a := 3) (by omega) (by omega)) z)
            refine jr_iload_n 2 170 dX10_next_169 rfl rfl rfl ?_
            refine jr_bipush (nI 9) 172 dX10_next_170 rfl rfl ?_
            refine jr_icmp_ge 179 175 dX10_next_172 rfl rfl (fun q172 => ?_) (fun z => absurd (nI_le (a := 9) (by omega) (by omega)) z)
            refine jr_iload_n 2 180 dX10_next_179 rfl rfl rfl ?_
            refine jr_bipush (nI 12) 182 dX10_next_180 rfl rfl ?_
            refine jr_icmp_ne 189 185 dX10_next_182 rfl rfl (fun z => absurd (by rw [k12]) z) (fun q182 => ?_)
            refine jr_iconst ((-1)) 186 dX10_next_185 rfl rfl ?_
            refine jr_goto 195 dX10_next_186 rfl ?_
            refine pf_X10_131 198 dX10_next_195 rfl rfl rfl rfl ?_
            refine jr_aload_n 0 199 dX10_next_198 rfl rfl rfl ?_
            refine jr_iload_n 2 200 dX10_next_199 rfl rfl rfl ?_
            refine jr_iconst (nI 3) 201 dX10_next_200 rfl rfl ?_
            refine jr_icmp_ge 208 204 dX10_next_201 rfl rfl (fun q201 => ?_) (fun z => absurd (nI_le (a := 3) (by omega) (by omega)) z)
            refine jr_iload_n 2 209 dX10_next_208 rfl rfl rfl ?_
            refine jr_iconst (nI 3) 210 dX10_next_209 rfl rfl ?_
            refine jr_isub 211 dX10_next_210 rfl ?_
            refine pf_X10_134 214 dX10_next_211 rfl rfl rfl rfl ?_
            refine jr_goto 403 dX10_next_214 rfl ?_
            refine jr_return dX10_next_403 rfl ?_
            exact fin _ (fr46_up (fr46_up (fr46_tr fX (fr46_w f2 (by decide))) (by decide)) (by decide)) ⟨by rw [eT]; exact (r3 k12).symm, fun z => absurd (eT.symm.trans z) (by omega), fun z => absurd (eT ▸ z) (by omega), fun z z2 => absurd (eT ▸ z2) (by omega), f2.2 24 (by decide), by rw [eN]; exact e2⟩
          · refine jr_aload_n 0 160 dX10_next_159 rfl rfl rfl ?_
            refine jr_iload_n 2 161 dX10_next_160 rfl rfl rfl ?_
            refine jr_iconst (nI 3) 162 dX10_next_161 rfl rfl ?_
            refine jr_icmp_ge 169 165 dX10_next_162 rfl rfl (fun q162 => ?_) (fun z => absurd (nI_le (a := 3) (by omega) (by omega)) z)
            refine jr_iload_n 2 170 dX10_next_169 rfl rfl rfl ?_
            refine jr_bipush (nI 9) 172 dX10_next_170 rfl rfl ?_
            refine jr_icmp_ge 179 175 dX10_next_172 rfl rfl (fun q172 => ?_) (fun z => absurd (nI_le (a := 9) (by omega) (by omega)) z)
            refine jr_iload_n 2 180 dX10_next_179 rfl rfl rfl ?_
            refine jr_bipush (nI 12) 182 dX10_next_180 rfl rfl ?_
            refine jr_icmp_ne 189 185 dX10_next_182 rfl rfl (fun q182 => ?_) (fun z => absurd ((nI_eq (by omega) (by decide)).mp z) k12)
            refine jr_iconst (nI 4) 190 dX10_next_189 rfl rfl ?_
            refine jr_iload_n 2 191 dX10_next_190 rfl rfl rfl ?_
            refine jr_iadd 192 dX10_next_191 rfl ?_
            refine jr_bipush (nI 9) 194 dX10_next_192 rfl rfl ?_
            refine jr_isub 195 dX10_next_194 rfl ?_
            refine pf_X10_131 198 dX10_next_195 rfl rfl rfl rfl ?_
            refine jr_aload_n 0 199 dX10_next_198 rfl rfl rfl ?_
            refine jr_iload_n 2 200 dX10_next_199 rfl rfl rfl ?_
            refine jr_iconst (nI 3) 201 dX10_next_200 rfl rfl ?_
            refine jr_icmp_ge 208 204 dX10_next_201 rfl rfl (fun q201 => ?_) (fun z => absurd (nI_le (a := 3) (by omega) (by omega)) z)
            refine jr_iload_n 2 209 dX10_next_208 rfl rfl rfl ?_
            refine jr_iconst (nI 3) 210 dX10_next_209 rfl rfl ?_
            refine jr_isub 211 dX10_next_210 rfl ?_
            refine pf_X10_134 214 dX10_next_211 rfl rfl rfl rfl ?_
            refine jr_goto 403 dX10_next_214 rfl ?_
            refine jr_return dX10_next_403 rfl ?_
            exact fin _ (fr46_up (fr46_up (fr46_tr fX (fr46_w f2 (by decide))) (by decide)) (by decide)) ⟨by rw [eT]; exact (r4 (by omega) (by omega)).symm, fun z => absurd (eT.symm.trans z) (by omega), fun z => absurd (eT ▸ z) (by omega), fun z z2 => absurd (eT ▸ z) (by omega), f2.2 24 (by decide), by rw [eN]; exact e2⟩
    · rw [if_neg hL] at eT eN
      by_cases hD : lx_di (b (lx_b b tp p)) = true
      · rw [if_pos hD] at eT eN
        refine jr_aload_n 0 53 dX10_next_52 rfl rfl rfl ?_
        refine jr_aload_n 0 54 dX10_next_53 rfl rfl rfl ?_
        refine gf_X10_125 57 dX10_next_54 rfl rfl rfl rfl ?_
        refine jr_topi (y := nI (lx_b b tp p)) e1 ?_
        refine pf_X10_128 60 dX10_next_57 rfl rfl rfl rfl ?_
        refine jr_aload_n 0 61 dX10_next_60 rfl rfl rfl ?_
        refine jr_iconst (nI 0) 62 dX10_next_61 rfl rfl ?_
        refine pf_X10_131 65 dX10_next_62 rfl rfl rfl rfl ?_
        refine jr_aload_n 0 66 dX10_next_65 rfl rfl rfl ?_
        refine jr_iconst (nI 0) 67 dX10_next_66 rfl rfl ?_
        refine pf_X10_134 70 dX10_next_67 rfl rfl rfl rfl ?_
        refine jr_aload_n 0 71 dX10_next_70 rfl rfl rfl ?_
        refine gf_X10_125 74 dX10_next_71 rfl rfl rfl rfl ?_
        refine jr_topi (y := nI (lx_b b tp p)) e1 ?_
        refine jr_aload_n 0 75 dX10_next_74 rfl rfl rfl ?_
        refine gf_X10_98 78 dX10_next_75 rfl rfl rfl rfl ?_
        refine jr_topi (y := nI tp) ((f1.2 9 (by decide)).trans ht.1) ?_
        refine jr_icmp_ne 82 81 dX10_next_78 rfl rfl (fun q78 => ?_) (fun z => absurd ((nI_eq (by omega) (by omega)).mp z) (by omega))
        refine jr_aload_n 0 83 dX10_next_82 rfl rfl rfl ?_
        refine gf_X10_28 86 dX10_next_83 rfl rfl rfl rfl ?_
        refine jr_aload_n 0 87 dX10_next_86 rfl rfl rfl ?_
        refine gf_X10_125 90 dX10_next_87 rfl rfl rfl rfl ?_
        refine jr_topi (y := nI (lx_b b tp p)) e1 ?_
        refine jr_iale (k := (lx_b b tp p)) rfl rfl (by omega) (htX.2.2.1 (lx_b b tp p) (by omega)).1 91 dX10_next_90 rfl ?_
        refine jr_istore_n 1 (L' := [_, _, _]) 92 dX10_next_91 rfl rfl (by decide) rfl ?_
        refine jr_iload_n 1 93 dX10_next_92 rfl rfl rfl ?_
        refine jr_bipush (nI 97) 95 dX10_next_93 rfl rfl ?_
        refine jr_bipush (nI 122) 97 dX10_next_95 rfl rfl ?_
        refine cs_X10_108 100 dX10_next_97 rfl rfl (Nat.le_of_ble_eq_true rfl) (wp_inL hbi (fun z => absurd z hL) (fun _ => ?_))
        refine jr_if_eq 217 103 dX10_next_100 rfl rfl (fun q100 => ?_) (fun q => absurd (by decide) q)
        refine jr_iload_n 1 218 dX10_next_217 rfl rfl rfl ?_
        refine jr_bipush (nI 48) 220 dX10_next_218 rfl rfl ?_
        refine jr_bipush (nI 57) 222 dX10_next_220 rfl rfl ?_
        refine cs_X10_108 225 dX10_next_222 rfl rfl (Nat.le_of_ble_eq_true rfl) (wp_inD hbi (fun _ => ?_) (fun z => absurd hD z))
        refine jr_if_eq 326 228 dX10_next_225 rfl rfl (fun q => absurd q (by decide)) (fun q225 => ?_)
        refine jr_iconst (nI 0) 229 dX10_next_228 rfl rfl ?_
        refine jr_istore_n 2 (L' := [_, _, _]) 230 dX10_next_229 rfl rfl (by decide) rfl ?_
        refine nx_digs (b := b) (tp := tp) (q := lx_b b tp p) htX (fun σ2 m em f2 e2 e3 => ?_) (tp - lx_b b tp p) 0 (by omega) rfl _ (fr46_rf _ _) e1 (fun _ => rfl)
        have hme := lx_e_le (c := lx_di) (b := b) hble
        rw [← em] at eT
        by_cases m4 : 4 < m
        · rw [if_pos m4] at eT
          refine jr_aload_n 0 310 dX10_next_309 rfl rfl rfl ?_
          refine jr_iload_n 2 311 dX10_next_310 rfl rfl rfl ?_
          refine jr_iconst (nI 4) 312 dX10_next_311 rfl rfl ?_
          refine jr_icmp_le 319 315 dX10_next_312 rfl rfl (fun z => absurd z (Int32.not_le.mpr (nI_lt (a := 4) m4 (by omega)))) (fun q312 => ?_)
          refine jr_iconst ((-1)) 316 dX10_next_315 rfl rfl ?_
          refine jr_goto 320 dX10_next_316 rfl ?_
          refine pf_X10_131 323 dX10_next_320 rfl rfl rfl rfl ?_
          refine jr_goto 403 dX10_next_323 rfl ?_
          refine jr_return dX10_next_403 rfl ?_
          exact fin _ (fr46_up (fr46_tr fX (fr46_w f2 (by decide))) (by decide)) ⟨by rw [eT]; rfl, fun z => absurd (eT.symm.trans z) (by decide), fun z => absurd (eT ▸ z) (by decide), fun _ z => absurd (eT ▸ z) (by decide), f2.2 24 (by decide), by rw [eN]; exact e2⟩
        · rw [if_neg m4] at eT
          refine jr_aload_n 0 310 dX10_next_309 rfl rfl rfl ?_
          refine jr_iload_n 2 311 dX10_next_310 rfl rfl rfl ?_
          refine jr_iconst (nI 4) 312 dX10_next_311 rfl rfl ?_
          refine jr_icmp_le 319 315 dX10_next_312 rfl rfl (fun q312 => ?_) (fun z => absurd (nI_le (b := 4) (by omega) (by decide)) z)
          refine jr_iconst (nI 1) 320 dX10_next_319 rfl rfl ?_
          refine pf_X10_131 323 dX10_next_320 rfl rfl rfl rfl ?_
          refine jr_goto 403 dX10_next_323 rfl ?_
          refine jr_return dX10_next_403 rfl ?_
          exact fin _ (fr46_up (fr46_tr fX (fr46_w f2 (by decide))) (by decide)) ⟨by rw [eT]; rfl, fun _ => by show _ = nI (lx_v0 b tp (lx_b b tp p)); unfold lx_v0; rw [← em]; exact e3 (by omega), fun z => absurd (eT ▸ z) (by decide), fun _ z => absurd (eT ▸ z) (by decide), f2.2 24 (by decide), by rw [eN]; exact e2⟩
      · rw [if_neg hD] at eT eN
        have eS := rtk_sg hbi
        have e (y : Nat) (hy : y < 256) : nI (b (lx_b b tp p)) = nI y ↔ b (lx_b b tp p) = y := nI_eq (by omega) (by omega)
        refine jr_aload_n 0 53 dX10_next_52 rfl rfl rfl ?_
        refine jr_aload_n 0 54 dX10_next_53 rfl rfl rfl ?_
        refine gf_X10_125 57 dX10_next_54 rfl rfl rfl rfl ?_
        refine jr_topi (y := nI (lx_b b tp p)) e1 ?_
        refine pf_X10_128 60 dX10_next_57 rfl rfl rfl rfl ?_
        refine jr_aload_n 0 61 dX10_next_60 rfl rfl rfl ?_
        refine jr_iconst (nI 0) 62 dX10_next_61 rfl rfl ?_
        refine pf_X10_131 65 dX10_next_62 rfl rfl rfl rfl ?_
        refine jr_aload_n 0 66 dX10_next_65 rfl rfl rfl ?_
        refine jr_iconst (nI 0) 67 dX10_next_66 rfl rfl ?_
        refine pf_X10_134 70 dX10_next_67 rfl rfl rfl rfl ?_
        refine jr_aload_n 0 71 dX10_next_70 rfl rfl rfl ?_
        refine gf_X10_125 74 dX10_next_71 rfl rfl rfl rfl ?_
        refine jr_topi (y := nI (lx_b b tp p)) e1 ?_
        refine jr_aload_n 0 75 dX10_next_74 rfl rfl rfl ?_
        refine gf_X10_98 78 dX10_next_75 rfl rfl rfl rfl ?_
        refine jr_topi (y := nI tp) ((f1.2 9 (by decide)).trans ht.1) ?_
        refine jr_icmp_ne 82 81 dX10_next_78 rfl rfl (fun q78 => ?_) (fun z => absurd ((nI_eq (by omega) (by omega)).mp z) (by omega))
        refine jr_aload_n 0 83 dX10_next_82 rfl rfl rfl ?_
        refine gf_X10_28 86 dX10_next_83 rfl rfl rfl rfl ?_
        refine jr_aload_n 0 87 dX10_next_86 rfl rfl rfl ?_
        refine gf_X10_125 90 dX10_next_87 rfl rfl rfl rfl ?_
        refine jr_topi (y := nI (lx_b b tp p)) e1 ?_
        refine jr_iale (k := (lx_b b tp p)) rfl rfl (by omega) (htX.2.2.1 (lx_b b tp p) (by omega)).1 91 dX10_next_90 rfl ?_
        refine jr_istore_n 1 (L' := [_, _, _]) 92 dX10_next_91 rfl rfl (by decide) rfl ?_
        refine jr_iload_n 1 93 dX10_next_92 rfl rfl rfl ?_
        refine jr_bipush (nI 97) 95 dX10_next_93 rfl rfl ?_
        refine jr_bipush (nI 122) 97 dX10_next_95 rfl rfl ?_
        refine cs_X10_108 100 dX10_next_97 rfl rfl (Nat.le_of_ble_eq_true rfl) (wp_inL hbi (fun z => absurd z hL) (fun _ => ?_))
        refine jr_if_eq 217 103 dX10_next_100 rfl rfl (fun q100 => ?_) (fun q => absurd (by decide) q)
        refine jr_iload_n 1 218 dX10_next_217 rfl rfl rfl ?_
        refine jr_bipush (nI 48) 220 dX10_next_218 rfl rfl ?_
        refine jr_bipush (nI 57) 222 dX10_next_220 rfl rfl ?_
        refine cs_X10_108 225 dX10_next_222 rfl rfl (Nat.le_of_ble_eq_true rfl) (wp_inD hbi (fun z => absurd z hD) (fun _ => ?_))
        refine jr_if_eq 326 228 dX10_next_225 rfl rfl (fun q225 => ?_) (fun q => absurd (by decide) q)
        by_cases s40 : b (lx_b b tp p) = 40
        · refine jr_iload_n 1 327 dX10_next_326 rfl rfl rfl ?_
          refine jr_bipush (nI 40) 329 dX10_next_327 rfl rfl ?_
          refine jr_icmp_eq 374 332 dX10_next_329 rfl rfl (fun q329 => ?_) (fun z => absurd ((e 40 (by decide)).mpr s40) z)
          refine jr_iconst (1) 375 dX10_next_374 rfl rfl ?_
          refine jr_goto 379 dX10_next_375 rfl ?_
          refine jr_istore_n 2 (L' := [_, _, _]) 380 dX10_next_379 rfl rfl (by decide) rfl ?_
          refine jr_aload_n 0 381 dX10_next_380 rfl rfl rfl ?_
          refine jr_iload_n 2 382 dX10_next_381 rfl rfl rfl ?_
          refine jr_if_eq 389 385 dX10_next_382 rfl rfl (fun q => absurd q (by decide)) (fun q382 => ?_)
          refine jr_iload_n 1 386 dX10_next_385 rfl rfl rfl ?_
          refine jr_goto 390 dX10_next_386 rfl ?_
          refine pf_X10_131 393 dX10_next_390 rfl rfl rfl rfl ?_
          refine jr_aload_n 0 394 dX10_next_393 rfl rfl rfl ?_
          refine jr_dup 395 dX10_next_394 rfl rfl ?_
          refine gf_X10_125 398 dX10_next_395 rfl rfl rfl rfl ?_
          refine jr_topi (y := nI (lx_b b tp p)) e1 ?_
          refine jr_iconst (nI 1) 399 dX10_next_398 rfl rfl ?_
          refine jr_iadd 400 dX10_next_399 rfl ?_
          rw [nI_add]
          refine pf_X10_125 403 dX10_next_400 rfl rfl rfl rfl ?_
          refine jr_return dX10_next_403 rfl ?_
          refine fin _ (fr46_up (fr46_up fX (by decide)) (by decide)) ⟨?_, fun z => absurd (eT.symm.trans z) (lx_sg_le _).2.2.1, fun z => absurd (eT ▸ z) (by have := lx_sg_le (b (lx_b b tp p)); omega), fun _ z => absurd (eT ▸ z) (by have := lx_sg_le (b (lx_b b tp p)); omega), rfl, by rw [eN]; rfl⟩
          rw [eT, eS]
          rw [if_pos (by omega)]
          rfl
        · by_cases s41 : b (lx_b b tp p) = 41
          · refine jr_iload_n 1 327 dX10_next_326 rfl rfl rfl ?_
            refine jr_bipush (nI 40) 329 dX10_next_327 rfl rfl ?_
            refine jr_icmp_eq 374 332 dX10_next_329 rfl rfl (fun z => absurd ((e 40 (by decide)).mp z) s40) (fun q329 => ?_)
            refine jr_iload_n 1 333 dX10_next_332 rfl rfl rfl ?_
            refine jr_bipush (nI 41) 335 dX10_next_333 rfl rfl ?_
            refine jr_icmp_eq 374 338 dX10_next_335 rfl rfl (fun q335 => ?_) (fun z => absurd ((e 41 (by decide)).mpr s41) z)
            refine jr_iconst (1) 375 dX10_next_374 rfl rfl ?_
            refine jr_goto 379 dX10_next_375 rfl ?_
            refine jr_istore_n 2 (L' := [_, _, _]) 380 dX10_next_379 rfl rfl (by decide) rfl ?_
            refine jr_aload_n 0 381 dX10_next_380 rfl rfl rfl ?_
            refine jr_iload_n 2 382 dX10_next_381 rfl rfl rfl ?_
            refine jr_if_eq 389 385 dX10_next_382 rfl rfl (fun q => absurd q (by decide)) (fun q382 => ?_)
            refine jr_iload_n 1 386 dX10_next_385 rfl rfl rfl ?_
            refine jr_goto 390 dX10_next_386 rfl ?_
            refine pf_X10_131 393 dX10_next_390 rfl rfl rfl rfl ?_
            refine jr_aload_n 0 394 dX10_next_393 rfl rfl rfl ?_
            refine jr_dup 395 dX10_next_394 rfl rfl ?_
            refine gf_X10_125 398 dX10_next_395 rfl rfl rfl rfl ?_
            refine jr_topi (y := nI (lx_b b tp p)) e1 ?_
            refine jr_iconst (nI 1) 399 dX10_next_398 rfl rfl ?_
            refine jr_iadd 400 dX10_next_399 rfl ?_
            rw [nI_add]
            refine pf_X10_125 403 dX10_next_400 rfl rfl rfl rfl ?_
            refine jr_return dX10_next_403 rfl ?_
            refine fin _ (fr46_up (fr46_up fX (by decide)) (by decide)) ⟨?_, fun z => absurd (eT.symm.trans z) (lx_sg_le _).2.2.1, fun z => absurd (eT ▸ z) (by have := lx_sg_le (b (lx_b b tp p)); omega), fun _ z => absurd (eT ▸ z) (by have := lx_sg_le (b (lx_b b tp p)); omega), rfl, by rw [eN]; rfl⟩
            rw [eT, eS]
            rw [if_pos (by omega)]
            rfl
          · by_cases s59 : b (lx_b b tp p) = 59
            · refine jr_iload_n 1 327 dX10_next_326 rfl rfl rfl ?_
              refine jr_bipush (nI 40) 329 dX10_next_327 rfl rfl ?_
              refine jr_icmp_eq 374 332 dX10_next_329 rfl rfl (fun z => absurd ((e 40 (by decide)).mp z) s40) (fun q329 => ?_)
              refine jr_iload_n 1 333 dX10_next_332 rfl rfl rfl ?_
              refine jr_bipush (nI 41) 335 dX10_next_333 rfl rfl ?_
              refine jr_icmp_eq 374 338 dX10_next_335 rfl rfl (fun z => absurd ((e 41 (by decide)).mp z) s41) (fun q335 => ?_)
              refine jr_iload_n 1 339 dX10_next_338 rfl rfl rfl ?_
              refine jr_bipush (nI 59) 341 dX10_next_339 rfl rfl ?_
              refine jr_icmp_eq 374 344 dX10_next_341 rfl rfl (fun q341 => ?_) (fun z => absurd ((e 59 (by decide)).mpr s59) z)
              refine jr_iconst (1) 375 dX10_next_374 rfl rfl ?_
              refine jr_goto 379 dX10_next_375 rfl ?_
              refine jr_istore_n 2 (L' := [_, _, _]) 380 dX10_next_379 rfl rfl (by decide) rfl ?_
              refine jr_aload_n 0 381 dX10_next_380 rfl rfl rfl ?_
              refine jr_iload_n 2 382 dX10_next_381 rfl rfl rfl ?_
              refine jr_if_eq 389 385 dX10_next_382 rfl rfl (fun q => absurd q (by decide)) (fun q382 => ?_)
              refine jr_iload_n 1 386 dX10_next_385 rfl rfl rfl ?_
              refine jr_goto 390 dX10_next_386 rfl ?_
              refine pf_X10_131 393 dX10_next_390 rfl rfl rfl rfl ?_
              refine jr_aload_n 0 394 dX10_next_393 rfl rfl rfl ?_
              refine jr_dup 395 dX10_next_394 rfl rfl ?_
              refine gf_X10_125 398 dX10_next_395 rfl rfl rfl rfl ?_
              refine jr_topi (y := nI (lx_b b tp p)) e1 ?_
              refine jr_iconst (nI 1) 399 dX10_next_398 rfl rfl ?_
              refine jr_iadd 400 dX10_next_399 rfl ?_
              rw [nI_add]
              refine pf_X10_125 403 dX10_next_400 rfl rfl rfl rfl ?_
              refine jr_return dX10_next_403 rfl ?_
              refine fin _ (fr46_up (fr46_up fX (by decide)) (by decide)) ⟨?_, fun z => absurd (eT.symm.trans z) (lx_sg_le _).2.2.1, fun z => absurd (eT ▸ z) (by have := lx_sg_le (b (lx_b b tp p)); omega), fun _ z => absurd (eT ▸ z) (by have := lx_sg_le (b (lx_b b tp p)); omega), rfl, by rw [eN]; rfl⟩
              rw [eT, eS]
              rw [if_pos (by omega)]
              rfl
            · by_cases s43 : b (lx_b b tp p) = 43
              · refine jr_iload_n 1 327 dX10_next_326 rfl rfl rfl ?_
                refine jr_bipush (nI 40) 329 dX10_next_327 rfl rfl ?_
                refine jr_icmp_eq 374 332 dX10_next_329 rfl rfl (fun z => absurd ((e 40 (by decide)).mp z) s40) (fun q329 => ?_)
                refine jr_iload_n 1 333 dX10_next_332 rfl rfl rfl ?_
                refine jr_bipush (nI 41) 335 dX10_next_333 rfl rfl ?_
                refine jr_icmp_eq 374 338 dX10_next_335 rfl rfl (fun z => absurd ((e 41 (by decide)).mp z) s41) (fun q335 => ?_)
                refine jr_iload_n 1 339 dX10_next_338 rfl rfl rfl ?_
                refine jr_bipush (nI 59) 341 dX10_next_339 rfl rfl ?_
                refine jr_icmp_eq 374 344 dX10_next_341 rfl rfl (fun z => absurd ((e 59 (by decide)).mp z) s59) (fun q341 => ?_)
                refine jr_iload_n 1 345 dX10_next_344 rfl rfl rfl ?_
                refine jr_bipush (nI 43) 347 dX10_next_345 rfl rfl ?_
                refine jr_icmp_eq 374 350 dX10_next_347 rfl rfl (fun q347 => ?_) (fun z => absurd ((e 43 (by decide)).mpr s43) z)
                refine jr_iconst (1) 375 dX10_next_374 rfl rfl ?_
                refine jr_goto 379 dX10_next_375 rfl ?_
                refine jr_istore_n 2 (L' := [_, _, _]) 380 dX10_next_379 rfl rfl (by decide) rfl ?_
                refine jr_aload_n 0 381 dX10_next_380 rfl rfl rfl ?_
                refine jr_iload_n 2 382 dX10_next_381 rfl rfl rfl ?_
                refine jr_if_eq 389 385 dX10_next_382 rfl rfl (fun q => absurd q (by decide)) (fun q382 => ?_)
                refine jr_iload_n 1 386 dX10_next_385 rfl rfl rfl ?_
                refine jr_goto 390 dX10_next_386 rfl ?_
                refine pf_X10_131 393 dX10_next_390 rfl rfl rfl rfl ?_
                refine jr_aload_n 0 394 dX10_next_393 rfl rfl rfl ?_
                refine jr_dup 395 dX10_next_394 rfl rfl ?_
                refine gf_X10_125 398 dX10_next_395 rfl rfl rfl rfl ?_
                refine jr_topi (y := nI (lx_b b tp p)) e1 ?_
                refine jr_iconst (nI 1) 399 dX10_next_398 rfl rfl ?_
                refine jr_iadd 400 dX10_next_399 rfl ?_
                rw [nI_add]
                refine pf_X10_125 403 dX10_next_400 rfl rfl rfl rfl ?_
                refine jr_return dX10_next_403 rfl ?_
                refine fin _ (fr46_up (fr46_up fX (by decide)) (by decide)) ⟨?_, fun z => absurd (eT.symm.trans z) (lx_sg_le _).2.2.1, fun z => absurd (eT ▸ z) (by have := lx_sg_le (b (lx_b b tp p)); omega), fun _ z => absurd (eT ▸ z) (by have := lx_sg_le (b (lx_b b tp p)); omega), rfl, by rw [eN]; rfl⟩
                rw [eT, eS]
                rw [if_pos (by omega)]
                rfl
              · by_cases s45 : b (lx_b b tp p) = 45
                · refine jr_iload_n 1 327 dX10_next_326 rfl rfl rfl ?_
                  refine jr_bipush (nI 40) 329 dX10_next_327 rfl rfl ?_
                  refine jr_icmp_eq 374 332 dX10_next_329 rfl rfl (fun z => absurd ((e 40 (by decide)).mp z) s40) (fun q329 => ?_)
                  refine jr_iload_n 1 333 dX10_next_332 rfl rfl rfl ?_
                  refine jr_bipush (nI 41) 335 dX10_next_333 rfl rfl ?_
                  refine jr_icmp_eq 374 338 dX10_next_335 rfl rfl (fun z => absurd ((e 41 (by decide)).mp z) s41) (fun q335 => ?_)
                  refine jr_iload_n 1 339 dX10_next_338 rfl rfl rfl ?_
                  refine jr_bipush (nI 59) 341 dX10_next_339 rfl rfl ?_
                  refine jr_icmp_eq 374 344 dX10_next_341 rfl rfl (fun z => absurd ((e 59 (by decide)).mp z) s59) (fun q341 => ?_)
                  refine jr_iload_n 1 345 dX10_next_344 rfl rfl rfl ?_
                  refine jr_bipush (nI 43) 347 dX10_next_345 rfl rfl ?_
                  refine jr_icmp_eq 374 350 dX10_next_347 rfl rfl (fun z => absurd ((e 43 (by decide)).mp z) s43) (fun q347 => ?_)
                  refine jr_iload_n 1 351 dX10_next_350 rfl rfl rfl ?_
                  refine jr_bipush (nI 45) 353 dX10_next_351 rfl rfl ?_
                  refine jr_icmp_eq 374 356 dX10_next_353 rfl rfl (fun q353 => ?_) (fun z => absurd ((e 45 (by decide)).mpr s45) z)
                  refine jr_iconst (1) 375 dX10_next_374 rfl rfl ?_
                  refine jr_goto 379 dX10_next_375 rfl ?_
                  refine jr_istore_n 2 (L' := [_, _, _]) 380 dX10_next_379 rfl rfl (by decide) rfl ?_
                  refine jr_aload_n 0 381 dX10_next_380 rfl rfl rfl ?_
                  refine jr_iload_n 2 382 dX10_next_381 rfl rfl rfl ?_
                  refine jr_if_eq 389 385 dX10_next_382 rfl rfl (fun q => absurd q (by decide)) (fun q382 => ?_)
                  refine jr_iload_n 1 386 dX10_next_385 rfl rfl rfl ?_
                  refine jr_goto 390 dX10_next_386 rfl ?_
                  refine pf_X10_131 393 dX10_next_390 rfl rfl rfl rfl ?_
                  refine jr_aload_n 0 394 dX10_next_393 rfl rfl rfl ?_
                  refine jr_dup 395 dX10_next_394 rfl rfl ?_
                  refine gf_X10_125 398 dX10_next_395 rfl rfl rfl rfl ?_
                  refine jr_topi (y := nI (lx_b b tp p)) e1 ?_
                  refine jr_iconst (nI 1) 399 dX10_next_398 rfl rfl ?_
                  refine jr_iadd 400 dX10_next_399 rfl ?_
                  rw [nI_add]
                  refine pf_X10_125 403 dX10_next_400 rfl rfl rfl rfl ?_
                  refine jr_return dX10_next_403 rfl ?_
                  refine fin _ (fr46_up (fr46_up fX (by decide)) (by decide)) ⟨?_, fun z => absurd (eT.symm.trans z) (lx_sg_le _).2.2.1, fun z => absurd (eT ▸ z) (by have := lx_sg_le (b (lx_b b tp p)); omega), fun _ z => absurd (eT ▸ z) (by have := lx_sg_le (b (lx_b b tp p)); omega), rfl, by rw [eN]; rfl⟩
                  rw [eT, eS]
                  rw [if_pos (by omega)]
                  rfl
                · by_cases s42 : b (lx_b b tp p) = 42
                  · refine jr_iload_n 1 327 dX10_next_326 rfl rfl rfl ?_
                    refine jr_bipush (nI 40) 329 dX10_next_327 rfl rfl ?_
                    refine jr_icmp_eq 374 332 dX10_next_329 rfl rfl (fun z => absurd ((e 40 (by decide)).mp z) s40) (fun q329 => ?_)
                    refine jr_iload_n 1 333 dX10_next_332 rfl rfl rfl ?_
                    refine jr_bipush (nI 41) 335 dX10_next_333 rfl rfl ?_
                    refine jr_icmp_eq 374 338 dX10_next_335 rfl rfl (fun z => absurd ((e 41 (by decide)).mp z) s41) (fun q335 => ?_)
                    refine jr_iload_n 1 339 dX10_next_338 rfl rfl rfl ?_
                    refine jr_bipush (nI 59) 341 dX10_next_339 rfl rfl ?_
                    refine jr_icmp_eq 374 344 dX10_next_341 rfl rfl (fun z => absurd ((e 59 (by decide)).mp z) s59) (fun q341 => ?_)
                    refine jr_iload_n 1 345 dX10_next_344 rfl rfl rfl ?_
                    refine jr_bipush (nI 43) 347 dX10_next_345 rfl rfl ?_
                    refine jr_icmp_eq 374 350 dX10_next_347 rfl rfl (fun z => absurd ((e 43 (by decide)).mp z) s43) (fun q347 => ?_)
                    refine jr_iload_n 1 351 dX10_next_350 rfl rfl rfl ?_
                    refine jr_bipush (nI 45) 353 dX10_next_351 rfl rfl ?_
                    refine jr_icmp_eq 374 356 dX10_next_353 rfl rfl (fun z => absurd ((e 45 (by decide)).mp z) s45) (fun q353 => ?_)
                    refine jr_iload_n 1 357 dX10_next_356 rfl rfl rfl ?_
                    refine jr_bipush (nI 42) 359 dX10_next_357 rfl rfl ?_
                    refine jr_icmp_eq 374 362 dX10_next_359 rfl rfl (fun q359 => ?_) (fun z => absurd ((e 42 (by decide)).mpr s42) z)
                    refine jr_iconst (1) 375 dX10_next_374 rfl rfl ?_
                    refine jr_goto 379 dX10_next_375 rfl ?_
                    refine jr_istore_n 2 (L' := [_, _, _]) 380 dX10_next_379 rfl rfl (by decide) rfl ?_
                    refine jr_aload_n 0 381 dX10_next_380 rfl rfl rfl ?_
                    refine jr_iload_n 2 382 dX10_next_381 rfl rfl rfl ?_
                    refine jr_if_eq 389 385 dX10_next_382 rfl rfl (fun q => absurd q (by decide)) (fun q382 => ?_)
                    refine jr_iload_n 1 386 dX10_next_385 rfl rfl rfl ?_
                    refine jr_goto 390 dX10_next_386 rfl ?_
                    refine pf_X10_131 393 dX10_next_390 rfl rfl rfl rfl ?_
                    refine jr_aload_n 0 394 dX10_next_393 rfl rfl rfl ?_
                    refine jr_dup 395 dX10_next_394 rfl rfl ?_
                    refine gf_X10_125 398 dX10_next_395 rfl rfl rfl rfl ?_
                    refine jr_topi (y := nI (lx_b b tp p)) e1 ?_
                    refine jr_iconst (nI 1) 399 dX10_next_398 rfl rfl ?_
                    refine jr_iadd 400 dX10_next_399 rfl ?_
                    rw [nI_add]
                    refine pf_X10_125 403 dX10_next_400 rfl rfl rfl rfl ?_
                    refine jr_return dX10_next_403 rfl ?_
                    refine fin _ (fr46_up (fr46_up fX (by decide)) (by decide)) ⟨?_, fun z => absurd (eT.symm.trans z) (lx_sg_le _).2.2.1, fun z => absurd (eT ▸ z) (by have := lx_sg_le (b (lx_b b tp p)); omega), fun _ z => absurd (eT ▸ z) (by have := lx_sg_le (b (lx_b b tp p)); omega), rfl, by rw [eN]; rfl⟩
                    rw [eT, eS]
                    rw [if_pos (by omega)]
                    rfl
                  · by_cases s60 : b (lx_b b tp p) = 60
                    · refine jr_iload_n 1 327 dX10_next_326 rfl rfl rfl ?_
                      refine jr_bipush (nI 40) 329 dX10_next_327 rfl rfl ?_
                      refine jr_icmp_eq 374 332 dX10_next_329 rfl rfl (fun z => absurd ((e 40 (by decide)).mp z) s40) (fun q329 => ?_)
                      refine jr_iload_n 1 333 dX10_next_332 rfl rfl rfl ?_
                      refine jr_bipush (nI 41) 335 dX10_next_333 rfl rfl ?_
                      refine jr_icmp_eq 374 338 dX10_next_335 rfl rfl (fun z => absurd ((e 41 (by decide)).mp z) s41) (fun q335 => ?_)
                      refine jr_iload_n 1 339 dX10_next_338 rfl rfl rfl ?_
                      refine jr_bipush (nI 59) 341 dX10_next_339 rfl rfl ?_
                      refine jr_icmp_eq 374 344 dX10_next_341 rfl rfl (fun z => absurd ((e 59 (by decide)).mp z) s59) (fun q341 => ?_)
                      refine jr_iload_n 1 345 dX10_next_344 rfl rfl rfl ?_
                      refine jr_bipush (nI 43) 347 dX10_next_345 rfl rfl ?_
                      refine jr_icmp_eq 374 350 dX10_next_347 rfl rfl (fun z => absurd ((e 43 (by decide)).mp z) s43) (fun q347 => ?_)
                      refine jr_iload_n 1 351 dX10_next_350 rfl rfl rfl ?_
                      refine jr_bipush (nI 45) 353 dX10_next_351 rfl rfl ?_
                      refine jr_icmp_eq 374 356 dX10_next_353 rfl rfl (fun z => absurd ((e 45 (by decide)).mp z) s45) (fun q353 => ?_)
                      refine jr_iload_n 1 357 dX10_next_356 rfl rfl rfl ?_
                      refine jr_bipush (nI 42) 359 dX10_next_357 rfl rfl ?_
                      refine jr_icmp_eq 374 362 dX10_next_359 rfl rfl (fun z => absurd ((e 42 (by decide)).mp z) s42) (fun q359 => ?_)
                      refine jr_iload_n 1 363 dX10_next_362 rfl rfl rfl ?_
                      refine jr_bipush (nI 60) 365 dX10_next_363 rfl rfl ?_
                      refine jr_icmp_eq 374 368 dX10_next_365 rfl rfl (fun q365 => ?_) (fun z => absurd ((e 60 (by decide)).mpr s60) z)
                      refine jr_iconst (1) 375 dX10_next_374 rfl rfl ?_
                      refine jr_goto 379 dX10_next_375 rfl ?_
                      refine jr_istore_n 2 (L' := [_, _, _]) 380 dX10_next_379 rfl rfl (by decide) rfl ?_
                      refine jr_aload_n 0 381 dX10_next_380 rfl rfl rfl ?_
                      refine jr_iload_n 2 382 dX10_next_381 rfl rfl rfl ?_
                      refine jr_if_eq 389 385 dX10_next_382 rfl rfl (fun q => absurd q (by decide)) (fun q382 => ?_)
                      refine jr_iload_n 1 386 dX10_next_385 rfl rfl rfl ?_
                      refine jr_goto 390 dX10_next_386 rfl ?_
                      refine pf_X10_131 393 dX10_next_390 rfl rfl rfl rfl ?_
                      refine jr_aload_n 0 394 dX10_next_393 rfl rfl rfl ?_
                      refine jr_dup 395 dX10_next_394 rfl rfl ?_
                      refine gf_X10_125 398 dX10_next_395 rfl rfl rfl rfl ?_
                      refine jr_topi (y := nI (lx_b b tp p)) e1 ?_
                      refine jr_iconst (nI 1) 399 dX10_next_398 rfl rfl ?_
                      refine jr_iadd 400 dX10_next_399 rfl ?_
                      rw [nI_add]
                      refine pf_X10_125 403 dX10_next_400 rfl rfl rfl rfl ?_
                      refine jr_return dX10_next_403 rfl ?_
                      refine fin _ (fr46_up (fr46_up fX (by decide)) (by decide)) ⟨?_, fun z => absurd (eT.symm.trans z) (lx_sg_le _).2.2.1, fun z => absurd (eT ▸ z) (by have := lx_sg_le (b (lx_b b tp p)); omega), fun _ z => absurd (eT ▸ z) (by have := lx_sg_le (b (lx_b b tp p)); omega), rfl, by rw [eN]; rfl⟩
                      rw [eT, eS]
                      rw [if_pos (by omega)]
                      rfl
                    · by_cases s61 : b (lx_b b tp p) = 61
                      · refine jr_iload_n 1 327 dX10_next_326 rfl rfl rfl ?_
                        refine jr_bipush (nI 40) 329 dX10_next_327 rfl rfl ?_
                        refine jr_icmp_eq 374 332 dX10_next_329 rfl rfl (fun z => absurd ((e 40 (by decide)).mp z) s40) (fun q329 => ?_)
                        refine jr_iload_n 1 333 dX10_next_332 rfl rfl rfl ?_
                        refine jr_bipush (nI 41) 335 dX10_next_333 rfl rfl ?_
                        refine jr_icmp_eq 374 338 dX10_next_335 rfl rfl (fun z => absurd ((e 41 (by decide)).mp z) s41) (fun q335 => ?_)
                        refine jr_iload_n 1 339 dX10_next_338 rfl rfl rfl ?_
                        refine jr_bipush (nI 59) 341 dX10_next_339 rfl rfl ?_
                        refine jr_icmp_eq 374 344 dX10_next_341 rfl rfl (fun z => absurd ((e 59 (by decide)).mp z) s59) (fun q341 => ?_)
                        refine jr_iload_n 1 345 dX10_next_344 rfl rfl rfl ?_
                        refine jr_bipush (nI 43) 347 dX10_next_345 rfl rfl ?_
                        refine jr_icmp_eq 374 350 dX10_next_347 rfl rfl (fun z => absurd ((e 43 (by decide)).mp z) s43) (fun q347 => ?_)
                        refine jr_iload_n 1 351 dX10_next_350 rfl rfl rfl ?_
                        refine jr_bipush (nI 45) 353 dX10_next_351 rfl rfl ?_
                        refine jr_icmp_eq 374 356 dX10_next_353 rfl rfl (fun z => absurd ((e 45 (by decide)).mp z) s45) (fun q353 => ?_)
                        refine jr_iload_n 1 357 dX10_next_356 rfl rfl rfl ?_
                        refine jr_bipush (nI 42) 359 dX10_next_357 rfl rfl ?_
                        refine jr_icmp_eq 374 362 dX10_next_359 rfl rfl (fun z => absurd ((e 42 (by decide)).mp z) s42) (fun q359 => ?_)
                        refine jr_iload_n 1 363 dX10_next_362 rfl rfl rfl ?_
                        refine jr_bipush (nI 60) 365 dX10_next_363 rfl rfl ?_
                        refine jr_icmp_eq 374 368 dX10_next_365 rfl rfl (fun z => absurd ((e 60 (by decide)).mp z) s60) (fun q365 => ?_)
                        refine jr_iload_n 1 369 dX10_next_368 rfl rfl rfl ?_
                        refine jr_bipush (nI 61) 371 dX10_next_369 rfl rfl ?_
                        refine jr_icmp_ne 378 374 dX10_next_371 rfl rfl (fun z => absurd ((e 61 (by decide)).mpr s61) z) (fun q371 => ?_)
                        refine jr_iconst (1) 375 dX10_next_374 rfl rfl ?_
                        refine jr_goto 379 dX10_next_375 rfl ?_
                        refine jr_istore_n 2 (L' := [_, _, _]) 380 dX10_next_379 rfl rfl (by decide) rfl ?_
                        refine jr_aload_n 0 381 dX10_next_380 rfl rfl rfl ?_
                        refine jr_iload_n 2 382 dX10_next_381 rfl rfl rfl ?_
                        refine jr_if_eq 389 385 dX10_next_382 rfl rfl (fun q => absurd q (by decide)) (fun q382 => ?_)
                        refine jr_iload_n 1 386 dX10_next_385 rfl rfl rfl ?_
                        refine jr_goto 390 dX10_next_386 rfl ?_
                        refine pf_X10_131 393 dX10_next_390 rfl rfl rfl rfl ?_
                        refine jr_aload_n 0 394 dX10_next_393 rfl rfl rfl ?_
                        refine jr_dup 395 dX10_next_394 rfl rfl ?_
                        refine gf_X10_125 398 dX10_next_395 rfl rfl rfl rfl ?_
                        refine jr_topi (y := nI (lx_b b tp p)) e1 ?_
                        refine jr_iconst (nI 1) 399 dX10_next_398 rfl rfl ?_
                        refine jr_iadd 400 dX10_next_399 rfl ?_
                        rw [nI_add]
                        refine pf_X10_125 403 dX10_next_400 rfl rfl rfl rfl ?_
                        refine jr_return dX10_next_403 rfl ?_
                        refine fin _ (fr46_up (fr46_up fX (by decide)) (by decide)) ⟨?_, fun z => absurd (eT.symm.trans z) (lx_sg_le _).2.2.1, fun z => absurd (eT ▸ z) (by have := lx_sg_le (b (lx_b b tp p)); omega), fun _ z => absurd (eT ▸ z) (by have := lx_sg_le (b (lx_b b tp p)); omega), rfl, by rw [eN]; rfl⟩
                        rw [eT, eS]
                        rw [if_pos (by omega)]
                        rfl
                      · refine jr_iload_n 1 327 dX10_next_326 rfl rfl rfl ?_
                        refine jr_bipush (nI 40) 329 dX10_next_327 rfl rfl ?_
                        refine jr_icmp_eq 374 332 dX10_next_329 rfl rfl (fun z => absurd ((e 40 (by decide)).mp z) s40) (fun q329 => ?_)
                        refine jr_iload_n 1 333 dX10_next_332 rfl rfl rfl ?_
                        refine jr_bipush (nI 41) 335 dX10_next_333 rfl rfl ?_
                        refine jr_icmp_eq 374 338 dX10_next_335 rfl rfl (fun z => absurd ((e 41 (by decide)).mp z) s41) (fun q335 => ?_)
                        refine jr_iload_n 1 339 dX10_next_338 rfl rfl rfl ?_
                        refine jr_bipush (nI 59) 341 dX10_next_339 rfl rfl ?_
                        refine jr_icmp_eq 374 344 dX10_next_341 rfl rfl (fun z => absurd ((e 59 (by decide)).mp z) s59) (fun q341 => ?_)
                        refine jr_iload_n 1 345 dX10_next_344 rfl rfl rfl ?_
                        refine jr_bipush (nI 43) 347 dX10_next_345 rfl rfl ?_
                        refine jr_icmp_eq 374 350 dX10_next_347 rfl rfl (fun z => absurd ((e 43 (by decide)).mp z) s43) (fun q347 => ?_)
                        refine jr_iload_n 1 351 dX10_next_350 rfl rfl rfl ?_
                        refine jr_bipush (nI 45) 353 dX10_next_351 rfl rfl ?_
                        refine jr_icmp_eq 374 356 dX10_next_353 rfl rfl (fun z => absurd ((e 45 (by decide)).mp z) s45) (fun q353 => ?_)
                        refine jr_iload_n 1 357 dX10_next_356 rfl rfl rfl ?_
                        refine jr_bipush (nI 42) 359 dX10_next_357 rfl rfl ?_
                        refine jr_icmp_eq 374 362 dX10_next_359 rfl rfl (fun z => absurd ((e 42 (by decide)).mp z) s42) (fun q359 => ?_)
                        refine jr_iload_n 1 363 dX10_next_362 rfl rfl rfl ?_
                        refine jr_bipush (nI 60) 365 dX10_next_363 rfl rfl ?_
                        refine jr_icmp_eq 374 368 dX10_next_365 rfl rfl (fun z => absurd ((e 60 (by decide)).mp z) s60) (fun q365 => ?_)
                        refine jr_iload_n 1 369 dX10_next_368 rfl rfl rfl ?_
                        refine jr_bipush (nI 61) 371 dX10_next_369 rfl rfl ?_
                        refine jr_icmp_ne 378 374 dX10_next_371 rfl rfl (fun q371 => ?_) (fun z => absurd ((e 61 (by decide)).mp z) s61)
                        refine jr_iconst (0) 379 dX10_next_378 rfl rfl ?_
                        refine jr_istore_n 2 (L' := [_, _, _]) 380 dX10_next_379 rfl rfl (by decide) rfl ?_
                        refine jr_aload_n 0 381 dX10_next_380 rfl rfl rfl ?_
                        refine jr_iload_n 2 382 dX10_next_381 rfl rfl rfl ?_
                        refine jr_if_eq 389 385 dX10_next_382 rfl rfl (fun q382 => ?_) (fun q => absurd (by decide) q)
                        refine jr_iconst ((-1)) 390 dX10_next_389 rfl rfl ?_
                        refine pf_X10_131 393 dX10_next_390 rfl rfl rfl rfl ?_
                        refine jr_aload_n 0 394 dX10_next_393 rfl rfl rfl ?_
                        refine jr_dup 395 dX10_next_394 rfl rfl ?_
                        refine gf_X10_125 398 dX10_next_395 rfl rfl rfl rfl ?_
                        refine jr_topi (y := nI (lx_b b tp p)) e1 ?_
                        refine jr_iconst (nI 1) 399 dX10_next_398 rfl rfl ?_
                        refine jr_iadd 400 dX10_next_399 rfl ?_
                        rw [nI_add]
                        refine pf_X10_125 403 dX10_next_400 rfl rfl rfl rfl ?_
                        refine jr_return dX10_next_403 rfl ?_
                        refine fin _ (fr46_up (fr46_up fX (by decide)) (by decide)) ⟨?_, fun z => absurd (eT.symm.trans z) (lx_sg_le _).2.2.1, fun z => absurd (eT ▸ z) (by have := lx_sg_le (b (lx_b b tp p)); omega), fun _ z => absurd (eT ▸ z) (by have := lx_sg_le (b (lx_b b tp p)); omega), rfl, by rw [eN]; rfl⟩
                        rw [eT, eS]
                        rw [if_neg (by omega)]
                        rfl

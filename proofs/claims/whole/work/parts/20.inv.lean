theorem pu_if_congr {p q : Prop} (h : p ↔ q) (a b : Int32) : pu_if p a b = pu_if q a b := by
  by_cases hp : p
  · rw [pu_if_t hp, pu_if_t (h.mp hp)]
  · rw [pu_if_f hp, pu_if_f (fun z => hp (h.mpr z))]
theorem sm_cnt_congr {E2 : Int32 → Int32} {mo mo' : Nat → Int32} {f : Nat} {bl bl' : Nat → Prop} : ∀ (n : Nat), (∀ x, x < n → mo x = mo' x) → (∀ x, x < n → (bl x ↔ bl' x)) → sm_cnt E2 mo f bl n = sm_cnt E2 mo' f bl' n
  | 0, _, _ => rfl
  | n + 1, h1, h2 => by
    rw [sm_cnt, sm_cnt, sm_cnt_congr n (fun x hx => h1 x (by omega)) (fun x hx => h2 x (by omega)), h1 n (by omega), pu_if_congr (or_congr Iff.rfl (h2 n (by omega)))]
theorem sm_step_congr {E : Nat → (Nat → Int32) → Int32} {nf c f t : Nat} {mo mo' ca cb dr ca' cb' dr' : Nat → Int32} {rf li : Int32} {bl bl' : Nat → Prop} {s0 s1 s2 s0' s1' s2' : Int32} (hf : f < nf) (hmo : ∀ x, x < nf → mo x = mo' x) (hbl : ∀ x, x < nf → (bl x ↔ bl' x)) (hdo : ∀ w u n, pu_do s0 s1 s2 (nI f) w u n ↔ pu_do s0' s1' s2' (nI f) w u n) (hca : ca t + cb t = ca' t + cb' t) (hdr : dr t = dr' t) (q : Int32 × Int32) :
    sm_step E nf mo c rf li f bl s0 s1 s2 ca cb dr t q = sm_step E nf mo' c rf li f bl' s0' s1' s2' ca' cb' dr' t q := by
  have e1 : ∀ E2, pu_if (pu_do s0 s1 s2 (nI f) 0 (nI t) 10) 0 (sm_cnt E2 mo f bl nf) = pu_if (pu_do s0' s1' s2' (nI f) 0 (nI t) 10) 0 (sm_cnt E2 mo' f bl' nf) := fun E2 => by
    rw [pu_if_congr (hdo _ _ _), sm_cnt_congr nf hmo hbl]
  have e2 : ∀ a b, pu_wso s0 s1 s2 (nI f) (nI t) a b = pu_wso s0' s1' s2' (nI f) (nI t) a b := fun a b => by
    unfold pu_wso
    rw [pu_if_congr (hdo 2 _ _), pu_if_congr (hdo 3 _ _)]
  have e3 : ∀ a, pu_cso s0 s1 s2 (nI f) (nI t) a = pu_cso s0' s1' s2' (nI f) (nI t) a := fun a => by
    unfold pu_cso
    rw [pu_if_congr (hdo 1 _ _)]
  have e4 : ∀ a : Int32, a + ca t + cb t = a + ca' t + cb' t := fun a => by
    rw [Int32.add_assoc, hca, ← Int32.add_assoc]
  unfold sm_step
  dsimp only
  rw [e1, e2, e3, e4, hdr, hmo f hf]
theorem sm_tr_congr {E : Nat → (Nat → Int32) → Int32} {nf c f : Nat} {mo mo' ca cb dr ca' cb' dr' : Nat → Int32} {rf li w0 : Int32} {bl bl' : Nat → Prop} {s0 s1 s2 s0' s1' s2' : Int32} (hf : f < nf) (hmo : ∀ x, x < nf → mo x = mo' x) (hbl : ∀ x, x < nf → (bl x ↔ bl' x)) (hdo : ∀ w u n, pu_do s0 s1 s2 (nI f) w u n ↔ pu_do s0' s1' s2' (nI f) w u n) (hca : ∀ t, t < 40 → ca t + cb t = ca' t + cb' t) (hdr : ∀ t, t < 40 → dr t = dr' t) :
    ∀ t, t ≤ 40 → sm_tr E nf mo c rf li f bl s0 s1 s2 ca cb dr w0 t = sm_tr E nf mo' c rf li f bl' s0' s1' s2' ca' cb' dr' w0 t
  | 0, _ => rfl
  | t + 1, h => by
    rw [sm_tr, sm_tr, sm_tr_congr hf hmo hbl hdo hca hdr t (by omega)]
    exact sm_step_congr hf hmo hbl hdo (hca t (by omega)) (hdr t (by omega)) _
/-- the class's play by the scene at b is the reference's run -/
def sm_par (b nf nc f s : Nat) (σC σR : jr_Sg) : Prop := (∀ x, x < nf → σC (b + 2) x = σR 49 x) ∧ σC (b + 5) s = σR 47 s ∧ σC (b + 3) f = σR 50 f ∧ (∀ x, x < nf → (pu_bl σC f x ↔ pr_bl σR f x)) ∧ (∀ w t n, pu_do (σC 7 0) (σC 7 1) (σC 7 2) (nI f) w t n ↔ pu_do (σR 46 39) (σR 46 40) (σR 46 41) (nI f) w t n) ∧ (∀ t, t < 40 → pu_ca b σC nc f t + pu_cb σC f t = pr_ca σR nc f t) ∧ ∀ t, t < 40 → pu_dr σC f t = pr_dr σR f t
theorem sm_eq {b nf nc f lw : Nat} {kd se : Nat → Nat} {T : Nat → Nat → List Nat} {σC σR : jr_Sg} (hf : f < nf) (h : sm_par b nf nc f (se f) σC σR) : ∀ t, t ≤ 40 → sm_C b T lw nf nc kd se σC f t = sm_R T lw nf nc kd se σR f t := by
  obtain ⟨h1, h2, h3, h4, h5, h6, h7⟩ := h
  intro t ht
  unfold sm_C sm_R
  rw [h2, h3, h1 f hf]
  exact sm_tr_congr hf h1 h4 h5 (fun t ht => by rw [h6 t ht, Int32.add_zero]) h7 t ht
theorem rf_eq {b nf nc f : Nat} {kd se : Nat → Nat} {σC σR : jr_Sg} (hf : f < nf) (h : sm_par b nf nc f (se f) σC σR) : pu_redf (kd f) (σC (b + 2) f) (σC (b + 5) (se f)) = pu_redf (kd f) (σR 49 f) (σR 47 (se f)) := by
  rw [h.1 f hf, h.2.1]
theorem pr_cs_eq {co cs cf cm : Nat → Int32} {a f t : Int32} : ∀ n, (∀ k, k < n → cs k = co (3 * k) ∧ cf k = co (3 * k + 1) ∧ cm k = co (3 * k + 2)) → pr_cs co a f t n = a + pu_cs cs cf cm f t n
  | 0, _ => by rw [pr_cs, pu_cs, Int32.add_zero]
  | n + 1, h => by
    obtain ⟨h1, h2, h3⟩ := h n (by omega)
    rw [pr_cs, pu_cs, pr_cs_eq n (fun k hk => h k (by omega)), ← h1, ← h2, ← h3]
    by_cases hc : cs n = t ∧ cf n = f
    · rw [if_pos hc, if_pos hc, Int32.add_assoc]
    · rw [if_neg hc, if_neg hc, Int32.add_zero]
/-- one CAUSE MORE x beside the causes: both sides' sums -/
theorem ca_eq {b nc f t : Nat} {σC σR : jr_Sg} (hk : ∀ k, k < nc → σC (b + 6) k = σR 52 (3 * k) ∧ σC (b + 7) k = σR 52 (3 * k + 1) ∧ σC (b + 8) k = σR 52 (3 * k + 2)) (hdo : ∀ w t n, pu_do (σC 7 0) (σC 7 1) (σC 7 2) (nI f) w t n ↔ pu_do (σR 46 39) (σR 46 40) (σR 46 41) (nI f) w t n) (hx : pu_if (nI f = σC 7 5 ∧ nI t = σC 7 6) (σC 7 7) 0 = pu_if (nI t = σR 46 45) (σR 70 f) 0) : pu_ca b σC nc f t + pu_cb σC f t = pr_ca σR nc f t := by
  unfold pu_ca pu_cb pr_ca pu_cau
  rw [pr_cs_eq nc hk, hx, pu_if_congr (hdo 2 _ _)]
  generalize pu_if (nI t = σR 46 45) (σR 70 f) 0 = x
  generalize pu_cs _ _ _ _ _ _ = y
  by_cases hp : pu_do (σR 46 39) (σR 46 40) (σR 46 41) (nI f) 2 (nI t) 1
  · rw [pu_if_t hp, pu_if_t hp, ← Int32.add_assoc, Int32.add_comm y x]
  · rw [pu_if_f hp, pu_if_f hp, Int32.add_comm y x]
theorem do_none {s0 s1 s2 w t n : Int32} {f : Nat} (hf : f < 2 ^ 31) (h : s0 = -1) : ¬ pu_do s0 s1 s2 (nI f) w t n := fun q => jr_m1 hf (by rw [← h]; exact q.1.symm)
-- THE COUPLING
def iv_sc (nf nc : Nat) (kd se : Nat → Nat) (lw n : Nat) (σ : jr_Sg) : Prop :=
  sc_ok 15 σ nf nc kd se ∧ sr_ok σ nf nc kd se ∧ σ 15 10 = nI lw ∧ σ 46 13 = nI lw ∧ lw < n ∧
  (∀ f, f < nf → σ 17 f = σ 49 f ∧ σ 18 f = σ 50 f ∧ ∃ v : Nat, v ≤ 400 ∧ σ 50 f = nI v) ∧
  (∀ s, s < 8 → σ 20 s = σ 47 s ∧ ∃ v : Nat, v ≤ 9 ∧ σ 47 s = nI v) ∧
  (∀ k, k < nc → σ 21 k = σ 52 (3 * k) ∧ σ 22 k = σ 52 (3 * k + 1) ∧ σ 23 k = σ 52 (3 * k + 2))
def iv_tape (tp : Nat) (σ : jr_Sg) : Prop := σ 5 2 = nI tp ∧ σ 46 9 = nI tp ∧ tp ≤ 160 ∧ ∀ i, i < tp → σ 6 i = σ 53 i ∧ ∃ b : Nat, b ≤ 255 ∧ σ 53 i = nI b
def iv_img (nf n : Nat) (σ : jr_Sg) : Prop := (σ 0 8 = 0 ∧ σ 46 14 = 0) ∨ (σ 0 8 = 1 ∧ σ 46 14 = 1 ∧ ∃ inf inc il : Nat, inf ≤ nf ∧ inf ≤ 5 ∧ inc ≤ 8 ∧ il < n ∧ σ 33 8 = nI inf ∧ σ 46 15 = nI inf ∧ σ 33 9 = nI inc ∧ σ 46 16 = nI inc ∧ σ 33 10 = nI il ∧ σ 46 17 = nI il ∧
  (∀ f, f < inf → σ 34 f = σ 16 f ∧ σ 35 f = σ 17 f ∧ σ 36 f = σ 56 f ∧ σ 37 f = σ 56 (5 + f) ∧ (∃ v : Nat, v ≤ 400 ∧ σ 56 f = nI v) ∧ ∃ s : Nat, s < 8 ∧ σ 56 (5 + f) = nI s) ∧
  (∀ s, s < 8 → σ 38 s = σ 56 (10 + s) ∧ ∃ v : Nat, v ≤ 9 ∧ σ 56 (10 + s) = nI v) ∧
  ∀ k, k < inc → σ 39 k = σ 56 (18 + 3 * k) ∧ σ 40 k = σ 56 (18 + 3 * k + 1) ∧ σ 41 k = σ 56 (18 + 3 * k + 2))
def iv_sh (σ : jr_Sg) : Prop := ∀ s, s < 4 → σ 43 s = σ 57 s ∧ σ 44 s = σ 58 s ∧ (σ 57 s = -1 ∨ σ 57 s = 0 ∨ σ 57 s = 1 ∨ σ 57 s = 2) ∧ ∃ z : Nat, z ≤ 40 ∧ σ 58 s = nI z ∧ ∀ i, i < z → σ 45 (40 * s + i) = σ 59 (40 * s + i)
def iv_rest (σ : jr_Sg) : Prop := σ 46 39 = -1 ∧ σ 46 42 = -1 ∧ σ 46 45 = 0 ∧ (∃ m : Nat, m ≤ 400 ∧ σ 46 46 = nI m) ∧ ∀ f, f < 5 → σ 70 f = 0 ∧ σ 71 f = -1
def iv_wl : List Int32 := [119, 97, 114, 109, 115, 32, 32, 32, 99, 111, 111, 108, 115, 32, 32, 32, 108, 111, 111, 107, 115, 32, 32, 32, 119, 97, 114, 109, 116, 104, 32, 32, 103, 108, 97, 110, 99, 101, 115, 32, 108, 105, 103, 104, 116, 32, 32, 32, 115, 101, 99, 111, 110, 100, 32, 32, 115, 101, 101, 110, 32, 32, 32, 32, 109, 111, 114, 101, 32, 32, 32, 32, 111, 114, 32, 32, 32, 32, 32, 32, 97, 110, 100, 32, 32, 32, 32, 32, 110, 111, 116, 32, 32, 32, 32, 32]
def iv_wd (σ : jr_Sg) : Prop := ∀ i, i < 96 → σ 61 i = iv_wl.getD i 0
def iv (T : Nat → Nat → List Nat) (n nf nc : Nat) (kd se : Nat → Nat) (lw tp : Nat) (σ : jr_Sg) : Prop :=
  ti_C T n σ ∧ ti_R T n σ ∧ iv_sc nf nc kd se lw n σ ∧ iv_tape tp σ ∧ iv_img nf n σ ∧ iv_sh σ ∧ iv_rest σ ∧ iv_wd σ
def IV (σ : jr_Sg) : Prop := ∃ (T : Nat → Nat → List Nat) (n nf nc : Nat) (kd se : Nat → Nat) (lw tp : Nat), iv T n nf nc kd se lw tp σ
/-- what the coupling speaks of -/
def iv_cells : List Nat := [0, 1, 2, 3, 5, 6, 15, 16, 17, 18, 19, 20, 21, 22, 23, 33, 34, 35, 36, 37, 38, 39, 40, 41, 43, 44, 45, 47, 48, 49, 50, 51, 52, 53, 54, 55, 56, 57, 58, 59, 61, 70, 71]
def iv_flds : List Nat := [1, 6, 9, 12, 13, 14, 15, 16, 17, 39, 42, 45, 46]
def iv_same (σ σ' : jr_Sg) : Prop := (∀ a, a ∈ iv_cells → σ' a = σ a) ∧ ∀ k, k ∈ iv_flds → σ' 46 k = σ 46 k
theorem iv_same_tr {a b c : jr_Sg} (h : iv_same a b) (h2 : iv_same b c) : iv_same a c := ⟨fun i hi => (h2.1 i hi).trans (h.1 i hi), fun k hk => (h2.2 k hk).trans (h.2 k hk)⟩
theorem iv_same_x {X : List Nat} {σ σ' : jr_Sg} (h : jr_eqx X σ σ') (hX : ∀ a, a ∈ X → a ∉ iv_cells ∧ a ≠ 46) : iv_same σ σ' :=
  ⟨fun a ha => h a (fun q => (hX a q).1 ha), fun k _ => by rw [h 46 (fun q => (hX 46 q).2 rfl)]⟩
theorem iv_mov {T : Nat → Nat → List Nat} {n nf nc : Nat} {kd se : Nat → Nat} {lw tp : Nat} {σ σ' : jr_Sg} (hs : iv_same σ σ') (h : iv T n nf nc kd se lw tp σ) : iv T n nf nc kd se lw tp σ' := by
  obtain ⟨hc, hf⟩ := hs
  have c := fun a (ha : a ∈ iv_cells) => hc a ha
  have g := fun a (ha : a ∈ iv_flds) => hf a ha
  unfold iv ti_C ti_R iv_sc sc_ok sr_ok iv_tape iv_img iv_sh iv_rest iv_wd at h ⊢
  rw [c 0 (by decide), c 1 (by decide), c 2 (by decide), c 3 (by decide), c 5 (by decide), c 6 (by decide), c 15 (by decide), c (15 + 1) (by decide), c (15 + 4) (by decide), c 17 (by decide), c 18 (by decide), c 20 (by decide), c 21 (by decide), c 22 (by decide), c 23 (by decide), c 33 (by decide), c 34 (by decide), c 35 (by decide), c 36 (by decide), c 37 (by decide), c 38 (by decide), c 39 (by decide), c 40 (by decide), c 41 (by decide), c 43 (by decide), c 44 (by decide), c 45 (by decide), c 47 (by decide), c 48 (by decide), c 49 (by decide), c 50 (by decide), c 51 (by decide), c 52 (by decide), c 53 (by decide), c 54 (by decide), c 55 (by decide), c 56 (by decide), c 57 (by decide), c 58 (by decide), c 59 (by decide), c 61 (by decide), c 70 (by decide), c 71 (by decide),
    g 1 (by decide), g 6 (by decide), g 9 (by decide), g 12 (by decide), g 13 (by decide), g 14 (by decide), g 15 (by decide), g 16 (by decide), g 17 (by decide), g 39 (by decide), g 42 (by decide), g 45 (by decide), g 46 (by decide)]
  exact h

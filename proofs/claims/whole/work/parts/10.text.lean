def ev_two (o : Nat) (a b : Int32) : Int32 := match o with
  | 11 => if a = 0 then (if b = 0 then 0 else 1) else 1
  | 12 => if a = 0 then 0 else if b = 0 then 0 else 1
  | 14 => if a < b then 1 else 0
  | 15 => if a = b then 1 else 0
  | 16 => a + b
  | 17 => a - b
  | _ => a * b
def ev (nm : Nat → Int32) : Nat → (Nat → Int32) → List Nat → Int32
  | _, s, [] => s 0
  | h, s, o :: l => if o < 6 then ev nm (h + 1) (upd s h (nm o)) l else if 100000 ≤ o then ev nm (h + 1) (upd s h (nI (o - 100000))) l else if o = 13 then ev nm h (upd s (h - 1) (if s (h - 1) = 0 then 1 else 0)) l else if o = 19 then ev nm h (upd s (h - 1) (-(s (h - 1)))) l else ev nm (h - 1) (upd s (h - 2) (ev_two o (s (h - 2)) (s (h - 1)))) l
def ev_wf : Nat → List Nat → Prop
  | h, [] => h = 1
  | h, o :: l => (o < 6 ∧ h + 1 ≤ 40 ∧ ev_wf (h + 1) l) ∨ (100000 ≤ o ∧ o ≤ 109999 ∧ h + 1 ≤ 40 ∧ ev_wf (h + 1) l) ∨ ((o = 13 ∨ o = 19) ∧ 1 ≤ h ∧ ev_wf h l) ∨ ((o = 11 ∨ o = 12 ∨ o = 14 ∨ o = 15 ∨ o = 16 ∨ o = 17 ∨ o = 18) ∧ 2 ≤ h ∧ ev_wf (h - 1) l)
def ev_cc (o : Nat) : Int32 := if o < 6 then -1 - nI o else if 100000 ≤ o then nI (o - 100000) else match o with
  | 11 => -7
  | 12 => -8
  | 13 => -9
  | 14 => -13
  | 15 => -14
  | 16 => -15
  | 17 => -16
  | 18 => -17
  | _ => -18
theorem jr_upc_self (σ : jr_Sg) (i : Nat) : jr_upc σ i (σ i) = σ := by
  funext a
  unfold jr_upc
  split
  · next h => rw [h]
  · rfl
theorem jr_upc_upc (σ : jr_Sg) (i : Nat) (f g : Nat → Int32) : jr_upc (jr_upc σ i f) i g = jr_upc σ i g := by
  funext a
  unfold jr_upc
  split <;> rfl
theorem jr_upc_up (σ : jr_Sg) (i k : Nat) (v : Int32) (g : Nat → Int32) : jr_upc (jr_up σ i k v) i g = jr_upc σ i g := jr_upc_upc σ i _ g
theorem jr_iale {G : jr_G} {d : Nat} {mi : jr_MI} {K : Option Value → jr_Sg → Prop} {pc : Nat} {L : List (Option Value)} {st : List Value} {σ : jr_Sg} {i n k : Nat} {j v : Int32} (hsh : jr_shp[i]? = some (.inl n)) (hj : j = nI k) (hk : k < n) (hv : σ i k = v) (pc' : Nat) (hdg : decode mi.2.1 pc = .ok (.iaload, 1)) (hp : pc + 1 = pc') (kk : jr_R G d mi K pc' L (.int v :: st) σ) : jr_R G d mi K pc L (.int j :: .ref i :: st) σ := jr_iald hsh hj hk pc' hdg hp (by rw [hv]; exact kk)
theorem tp_of {tp : Int32} {h : Nat} (e : tp + 1 = nI (h + 1)) : tp = nI h := by
  rw [nI_succ] at e
  simpa using e

theorem wp_joined_11 {G : jr_G} {d : Nat} {σ : jr_Sg} {k : Value → jr_Sg → Prop} {a b : Int32} (h : k (.int (ev_two 11 a b)) σ) : jr_M G d mi_X6_joined [.int (-7), .int a, .int b] σ (jr_k k) := by
  refine jr_enter (L := [some (.int (-7)), some (.int a), some (.int b)]) (by decide) (Nat.le_of_ble_eq_true rfl) rfl ?_
  refine jr_iload_n 0 1 dX6_joined_0 rfl rfl rfl ?_
  refine jr_tableIn (off := 59) 60 dX6_joined_1 (by decide) (by decide) (by decide) rfl ?_
  refine jr_iload_n 1 61 dX6_joined_60 rfl rfl rfl ?_
  refine jr_if_ne 68 64 dX6_joined_61 rfl rfl (fun q61 => ?_) (fun q61 => ?_)
  · refine jr_iconst (1) 69 dX6_joined_68 rfl rfl ?_
    refine jr_goto 73 dX6_joined_69 rfl ?_
    refine jr_ireturn dX6_joined_73 rfl rfl ?_
    first | exact h | exact jr_eqk (by simp only [ev_two]; grind) h
  · refine jr_iload_n 2 65 dX6_joined_64 rfl rfl rfl ?_
    refine jr_if_eq 72 68 dX6_joined_65 rfl rfl (fun q65 => ?_) (fun q65 => ?_)
    · refine jr_iconst (0) 73 dX6_joined_72 rfl rfl ?_
      refine jr_ireturn dX6_joined_73 rfl rfl ?_
      first | exact h | exact jr_eqk (by simp only [ev_two]; grind) h
    · refine jr_iconst (1) 69 dX6_joined_68 rfl rfl ?_
      refine jr_goto 73 dX6_joined_69 rfl ?_
      refine jr_ireturn dX6_joined_73 rfl rfl ?_
      first | exact h | exact jr_eqk (by simp only [ev_two]; grind) h
theorem wp_joined_12 {G : jr_G} {d : Nat} {σ : jr_Sg} {k : Value → jr_Sg → Prop} {a b : Int32} (h : k (.int (ev_two 12 a b)) σ) : jr_M G d mi_X6_joined [.int (-8), .int a, .int b] σ (jr_k k) := by
  refine jr_enter (L := [some (.int (-8)), some (.int a), some (.int b)]) (by decide) (Nat.le_of_ble_eq_true rfl) rfl ?_
  refine jr_iload_n 0 1 dX6_joined_0 rfl rfl rfl ?_
  refine jr_tableIn (off := 73) 74 dX6_joined_1 (by decide) (by decide) (by decide) rfl ?_
  refine jr_iload_n 1 75 dX6_joined_74 rfl rfl rfl ?_
  refine jr_if_eq 86 78 dX6_joined_75 rfl rfl (fun q75 => ?_) (fun q75 => ?_)
  · refine jr_iconst (0) 87 dX6_joined_86 rfl rfl ?_
    refine jr_ireturn dX6_joined_87 rfl rfl ?_
    first | exact h | exact jr_eqk (by simp only [ev_two]; grind) h
  · refine jr_iload_n 2 79 dX6_joined_78 rfl rfl rfl ?_
    refine jr_if_eq 86 82 dX6_joined_79 rfl rfl (fun q79 => ?_) (fun q79 => ?_)
    · refine jr_iconst (0) 87 dX6_joined_86 rfl rfl ?_
      refine jr_ireturn dX6_joined_87 rfl rfl ?_
      first | exact h | exact jr_eqk (by simp only [ev_two]; grind) h
    · refine jr_iconst (1) 83 dX6_joined_82 rfl rfl ?_
      refine jr_goto 87 dX6_joined_83 rfl ?_
      refine jr_ireturn dX6_joined_87 rfl rfl ?_
      first | exact h | exact jr_eqk (by simp only [ev_two]; grind) h
theorem wp_joined_14 {G : jr_G} {d : Nat} {σ : jr_Sg} {k : Value → jr_Sg → Prop} {a b : Int32} (h : k (.int (ev_two 14 a b)) σ) : jr_M G d mi_X6_joined [.int (-13), .int a, .int b] σ (jr_k k) := by
  refine jr_enter (L := [some (.int (-13)), some (.int a), some (.int b)]) (by decide) (Nat.le_of_ble_eq_true rfl) rfl ?_
  refine jr_iload_n 0 1 dX6_joined_0 rfl rfl rfl ?_
  refine jr_tableIn (off := 87) 88 dX6_joined_1 (by decide) (by decide) (by decide) rfl ?_
  refine jr_iload_n 1 89 dX6_joined_88 rfl rfl rfl ?_
  refine jr_iload_n 2 90 dX6_joined_89 rfl rfl rfl ?_
  refine jr_icmp_ge 97 93 dX6_joined_90 rfl rfl (fun q90 => ?_) (fun q90 => ?_)
  · refine jr_iconst (0) 98 dX6_joined_97 rfl rfl ?_
    refine jr_ireturn dX6_joined_98 rfl rfl ?_
    first | exact h | exact jr_eqk (by simp only [ev_two]; grind) h
  · refine jr_iconst (1) 94 dX6_joined_93 rfl rfl ?_
    refine jr_goto 98 dX6_joined_94 rfl ?_
    refine jr_ireturn dX6_joined_98 rfl rfl ?_
    first | exact h | exact jr_eqk (by simp only [ev_two]; grind) h
theorem wp_joined_15 {G : jr_G} {d : Nat} {σ : jr_Sg} {k : Value → jr_Sg → Prop} {a b : Int32} (h : k (.int (ev_two 15 a b)) σ) : jr_M G d mi_X6_joined [.int (-14), .int a, .int b] σ (jr_k k) := by
  refine jr_enter (L := [some (.int (-14)), some (.int a), some (.int b)]) (by decide) (Nat.le_of_ble_eq_true rfl) rfl ?_
  refine jr_iload_n 0 1 dX6_joined_0 rfl rfl rfl ?_
  refine jr_tableIn (off := 98) 99 dX6_joined_1 (by decide) (by decide) (by decide) rfl ?_
  refine jr_iload_n 1 100 dX6_joined_99 rfl rfl rfl ?_
  refine jr_iload_n 2 101 dX6_joined_100 rfl rfl rfl ?_
  refine jr_icmp_ne 108 104 dX6_joined_101 rfl rfl (fun q101 => ?_) (fun q101 => ?_)
  · refine jr_iconst (0) 109 dX6_joined_108 rfl rfl ?_
    refine jr_ireturn dX6_joined_109 rfl rfl ?_
    first | exact h | exact jr_eqk (by simp only [ev_two]; grind) h
  · refine jr_iconst (1) 105 dX6_joined_104 rfl rfl ?_
    refine jr_goto 109 dX6_joined_105 rfl ?_
    refine jr_ireturn dX6_joined_109 rfl rfl ?_
    first | exact h | exact jr_eqk (by simp only [ev_two]; grind) h
theorem wp_joined_16 {G : jr_G} {d : Nat} {σ : jr_Sg} {k : Value → jr_Sg → Prop} {a b : Int32} (h : k (.int (ev_two 16 a b)) σ) : jr_M G d mi_X6_joined [.int (-15), .int a, .int b] σ (jr_k k) := by
  refine jr_enter (L := [some (.int (-15)), some (.int a), some (.int b)]) (by decide) (Nat.le_of_ble_eq_true rfl) rfl ?_
  refine jr_iload_n 0 1 dX6_joined_0 rfl rfl rfl ?_
  refine jr_tableIn (off := 109) 110 dX6_joined_1 (by decide) (by decide) (by decide) rfl ?_
  refine jr_iload_n 1 111 dX6_joined_110 rfl rfl rfl ?_
  refine jr_iload_n 2 112 dX6_joined_111 rfl rfl rfl ?_
  refine jr_iadd 113 dX6_joined_112 rfl ?_
  refine jr_ireturn dX6_joined_113 rfl rfl ?_
  first | exact h | exact jr_eqk (by simp only [ev_two]; grind) h
theorem wp_joined_17 {G : jr_G} {d : Nat} {σ : jr_Sg} {k : Value → jr_Sg → Prop} {a b : Int32} (h : k (.int (ev_two 17 a b)) σ) : jr_M G d mi_X6_joined [.int (-16), .int a, .int b] σ (jr_k k) := by
  refine jr_enter (L := [some (.int (-16)), some (.int a), some (.int b)]) (by decide) (Nat.le_of_ble_eq_true rfl) rfl ?_
  refine jr_iload_n 0 1 dX6_joined_0 rfl rfl rfl ?_
  refine jr_tableIn (off := 113) 114 dX6_joined_1 (by decide) (by decide) (by decide) rfl ?_
  refine jr_iload_n 1 115 dX6_joined_114 rfl rfl rfl ?_
  refine jr_iload_n 2 116 dX6_joined_115 rfl rfl rfl ?_
  refine jr_isub 117 dX6_joined_116 rfl ?_
  refine jr_ireturn dX6_joined_117 rfl rfl ?_
  first | exact h | exact jr_eqk (by simp only [ev_two]; grind) h
theorem wp_joined_18 {G : jr_G} {d : Nat} {σ : jr_Sg} {k : Value → jr_Sg → Prop} {a b : Int32} (h : k (.int (ev_two 18 a b)) σ) : jr_M G d mi_X6_joined [.int (-17), .int a, .int b] σ (jr_k k) := by
  refine jr_enter (L := [some (.int (-17)), some (.int a), some (.int b)]) (by decide) (Nat.le_of_ble_eq_true rfl) rfl ?_
  refine jr_iload_n 0 1 dX6_joined_0 rfl rfl rfl ?_
  refine jr_tableIn (off := 117) 118 dX6_joined_1 (by decide) (by decide) (by decide) rfl ?_
  refine jr_iload_n 1 119 dX6_joined_118 rfl rfl rfl ?_
  refine jr_iload_n 2 120 dX6_joined_119 rfl rfl rfl ?_
  refine jr_imul 121 dX6_joined_120 rfl ?_
  refine jr_ireturn dX6_joined_121 rfl rfl ?_
  first | exact h | exact jr_eqk (by simp only [ev_two]; grind) h
theorem wp_two_11 {G : jr_G} {d : Nat} {σ : jr_Sg} {k : Value → jr_Sg → Prop} {a b : Int32} (h : k (.int (ev_two 11 a b)) σ) : jr_M G d mi_X10_two [.int (11), .int a, .int b] σ (jr_k k) := by
  refine jr_enter (L := [some (.int (11)), some (.int a), some (.int b)]) (by decide) (Nat.le_of_ble_eq_true rfl) rfl ?_
  refine jr_iload_n 0 1 dX10_two_0 rfl rfl rfl ?_
  refine jr_tableIn (off := 43) 44 dX10_two_1 (by decide) (by decide) (by decide) rfl ?_
  refine jr_iload_n 1 45 dX10_two_44 rfl rfl rfl ?_
  refine jr_if_ne 52 48 dX10_two_45 rfl rfl (fun q45 => ?_) (fun q45 => ?_)
  · refine jr_iconst (1) 53 dX10_two_52 rfl rfl ?_
    refine jr_goto 57 dX10_two_53 rfl ?_
    refine jr_ireturn dX10_two_57 rfl rfl ?_
    first | exact h | exact jr_eqk (by simp only [ev_two]; grind) h
  · refine jr_iload_n 2 49 dX10_two_48 rfl rfl rfl ?_
    refine jr_if_eq 56 52 dX10_two_49 rfl rfl (fun q49 => ?_) (fun q49 => ?_)
    · refine jr_iconst (0) 57 dX10_two_56 rfl rfl ?_
      refine jr_ireturn dX10_two_57 rfl rfl ?_
      first | exact h | exact jr_eqk (by simp only [ev_two]; grind) h
    · refine jr_iconst (1) 53 dX10_two_52 rfl rfl ?_
      refine jr_goto 57 dX10_two_53 rfl ?_
      refine jr_ireturn dX10_two_57 rfl rfl ?_
      first | exact h | exact jr_eqk (by simp only [ev_two]; grind) h
theorem wp_two_12 {G : jr_G} {d : Nat} {σ : jr_Sg} {k : Value → jr_Sg → Prop} {a b : Int32} (h : k (.int (ev_two 12 a b)) σ) : jr_M G d mi_X10_two [.int (12), .int a, .int b] σ (jr_k k) := by
  refine jr_enter (L := [some (.int (12)), some (.int a), some (.int b)]) (by decide) (Nat.le_of_ble_eq_true rfl) rfl ?_
  refine jr_iload_n 0 1 dX10_two_0 rfl rfl rfl ?_
  refine jr_tableIn (off := 57) 58 dX10_two_1 (by decide) (by decide) (by decide) rfl ?_
  refine jr_iload_n 1 59 dX10_two_58 rfl rfl rfl ?_
  refine jr_if_eq 70 62 dX10_two_59 rfl rfl (fun q59 => ?_) (fun q59 => ?_)
  · refine jr_iconst (0) 71 dX10_two_70 rfl rfl ?_
    refine jr_ireturn dX10_two_71 rfl rfl ?_
    first | exact h | exact jr_eqk (by simp only [ev_two]; grind) h
  · refine jr_iload_n 2 63 dX10_two_62 rfl rfl rfl ?_
    refine jr_if_eq 70 66 dX10_two_63 rfl rfl (fun q63 => ?_) (fun q63 => ?_)
    · refine jr_iconst (0) 71 dX10_two_70 rfl rfl ?_
      refine jr_ireturn dX10_two_71 rfl rfl ?_
      first | exact h | exact jr_eqk (by simp only [ev_two]; grind) h
    · refine jr_iconst (1) 67 dX10_two_66 rfl rfl ?_
      refine jr_goto 71 dX10_two_67 rfl ?_
      refine jr_ireturn dX10_two_71 rfl rfl ?_
      first | exact h | exact jr_eqk (by simp only [ev_two]; grind) h
theorem wp_two_14 {G : jr_G} {d : Nat} {σ : jr_Sg} {k : Value → jr_Sg → Prop} {a b : Int32} (h : k (.int (ev_two 14 a b)) σ) : jr_M G d mi_X10_two [.int (14), .int a, .int b] σ (jr_k k) := by
  refine jr_enter (L := [some (.int (14)), some (.int a), some (.int b)]) (by decide) (Nat.le_of_ble_eq_true rfl) rfl ?_
  refine jr_iload_n 0 1 dX10_two_0 rfl rfl rfl ?_
  refine jr_tableIn (off := 71) 72 dX10_two_1 (by decide) (by decide) (by decide) rfl ?_
  refine jr_iload_n 1 73 dX10_two_72 rfl rfl rfl ?_
  refine jr_iload_n 2 74 dX10_two_73 rfl rfl rfl ?_
  refine jr_icmp_ge 81 77 dX10_two_74 rfl rfl (fun q74 => ?_) (fun q74 => ?_)
  · refine jr_iconst (0) 82 dX10_two_81 rfl rfl ?_
    refine jr_ireturn dX10_two_82 rfl rfl ?_
    first | exact h | exact jr_eqk (by simp only [ev_two]; grind) h
  · refine jr_iconst (1) 78 dX10_two_77 rfl rfl ?_
    refine jr_goto 82 dX10_two_78 rfl ?_
    refine jr_ireturn dX10_two_82 rfl rfl ?_
    first | exact h | exact jr_eqk (by simp only [ev_two]; grind) h
theorem wp_two_15 {G : jr_G} {d : Nat} {σ : jr_Sg} {k : Value → jr_Sg → Prop} {a b : Int32} (h : k (.int (ev_two 15 a b)) σ) : jr_M G d mi_X10_two [.int (15), .int a, .int b] σ (jr_k k) := by
  refine jr_enter (L := [some (.int (15)), some (.int a), some (.int b)]) (by decide) (Nat.le_of_ble_eq_true rfl) rfl ?_
  refine jr_iload_n 0 1 dX10_two_0 rfl rfl rfl ?_
  refine jr_tableIn (off := 82) 83 dX10_two_1 (by decide) (by decide) (by decide) rfl ?_
  refine jr_iload_n 1 84 dX10_two_83 rfl rfl rfl ?_
  refine jr_iload_n 2 85 dX10_two_84 rfl rfl rfl ?_
  refine jr_icmp_ne 92 88 dX10_two_85 rfl rfl (fun q85 => ?_) (fun q85 => ?_)
  · refine jr_iconst (0) 93 dX10_two_92 rfl rfl ?_
    refine jr_ireturn dX10_two_93 rfl rfl ?_
    first | exact h | exact jr_eqk (by simp only [ev_two]; grind) h
  · refine jr_iconst (1) 89 dX10_two_88 rfl rfl ?_
    refine jr_goto 93 dX10_two_89 rfl ?_
    refine jr_ireturn dX10_two_93 rfl rfl ?_
    first | exact h | exact jr_eqk (by simp only [ev_two]; grind) h
theorem wp_two_16 {G : jr_G} {d : Nat} {σ : jr_Sg} {k : Value → jr_Sg → Prop} {a b : Int32} (h : k (.int (ev_two 16 a b)) σ) : jr_M G d mi_X10_two [.int (16), .int a, .int b] σ (jr_k k) := by
  refine jr_enter (L := [some (.int (16)), some (.int a), some (.int b)]) (by decide) (Nat.le_of_ble_eq_true rfl) rfl ?_
  refine jr_iload_n 0 1 dX10_two_0 rfl rfl rfl ?_
  refine jr_tableIn (off := 93) 94 dX10_two_1 (by decide) (by decide) (by decide) rfl ?_
  refine jr_iload_n 1 95 dX10_two_94 rfl rfl rfl ?_
  refine jr_iload_n 2 96 dX10_two_95 rfl rfl rfl ?_
  refine jr_iadd 97 dX10_two_96 rfl ?_
  refine jr_ireturn dX10_two_97 rfl rfl ?_
  first | exact h | exact jr_eqk (by simp only [ev_two]; grind) h
theorem wp_two_17 {G : jr_G} {d : Nat} {σ : jr_Sg} {k : Value → jr_Sg → Prop} {a b : Int32} (h : k (.int (ev_two 17 a b)) σ) : jr_M G d mi_X10_two [.int (17), .int a, .int b] σ (jr_k k) := by
  refine jr_enter (L := [some (.int (17)), some (.int a), some (.int b)]) (by decide) (Nat.le_of_ble_eq_true rfl) rfl ?_
  refine jr_iload_n 0 1 dX10_two_0 rfl rfl rfl ?_
  refine jr_tableIn (off := 97) 98 dX10_two_1 (by decide) (by decide) (by decide) rfl ?_
  refine jr_iload_n 1 99 dX10_two_98 rfl rfl rfl ?_
  refine jr_iload_n 2 100 dX10_two_99 rfl rfl rfl ?_
  refine jr_isub 101 dX10_two_100 rfl ?_
  refine jr_ireturn dX10_two_101 rfl rfl ?_
  first | exact h | exact jr_eqk (by simp only [ev_two]; grind) h
theorem wp_two_18 {G : jr_G} {d : Nat} {σ : jr_Sg} {k : Value → jr_Sg → Prop} {a b : Int32} (h : k (.int (ev_two 18 a b)) σ) : jr_M G d mi_X10_two [.int (18), .int a, .int b] σ (jr_k k) := by
  refine jr_enter (L := [some (.int (18)), some (.int a), some (.int b)]) (by decide) (Nat.le_of_ble_eq_true rfl) rfl ?_
  refine jr_iload_n 0 1 dX10_two_0 rfl rfl rfl ?_
  refine jr_tableOut 102 dX10_two_1 (by decide) rfl ?_
  refine jr_iload_n 1 103 dX10_two_102 rfl rfl rfl ?_
  refine jr_iload_n 2 104 dX10_two_103 rfl rfl rfl ?_
  refine jr_imul 105 dX10_two_104 rfl ?_
  refine jr_ireturn dX10_two_105 rfl rfl ?_
  first | exact h | exact jr_eqk (by simp only [ev_two]; grind) h
theorem value_loop {G : jr_G} {d : Nat} {k : Value → jr_Sg → Prop} {a1 a2 a4 : Option Value} {to : Nat} (hto : to ≤ 960) : ∀ (l : List Nat) (i h : Nat) (σ : jr_Sg) (tp : Int32) (x8 : Option Value), (∀ j, j < l.length → σ 2 (i + j) = ev_cc (l.getD j 0)) → i + l.length = to → ev_wf h l → h ≤ 40 → tp + 1 = nI h → (∀ f : Nat → Int32, k (.int (ev (σ 11) h (σ 4) l)) (jr_upc σ 4 f)) → jr_R G (d + 1) mi_X6_value (jr_k k) 83 [some (.ref 1), a1, a2, some (.ref 11), a4, some (.int (nI to)), some (.int tp), some (.int (nI i)), x8] [] σ := by
  intro l
  induction l with
  | nil =>
    intro i h σ tp x8 hc hi hw hh etp hk
    have e1 : h = 1 := hw
    subst e1
    have e2 := tp_of etp
    subst e2
    have e3 : i = to := hi
    subst e3
    refine jr_iload 85 dX6_value_83 rfl rfl ?_
    refine jr_iload 87 dX6_value_85 rfl rfl ?_
    refine jr_icmp_ge 249 90 dX6_value_87 rfl rfl (fun q87 => ?_) (fun q => absurd (Int32.le_refl _) q)
    refine jr_iload 251 dX6_value_249 rfl rfl ?_
    refine jr_if_lt 263 254 dX6_value_251 rfl rfl (fun q => absurd q (nI_pos (by omega))) (fun q251 => ?_)
    refine jr_aload_n 0 255 dX6_value_254 rfl rfl rfl ?_
    refine gf_X6_18 258 dX6_value_255 rfl rfl rfl rfl ?_
    refine jr_iconst (0) 259 dX6_value_258 rfl rfl ?_
    refine jr_iald rfl (k := 0) rfl (by decide) 260 dX6_value_259 rfl ?_
    refine jr_goto 264 dX6_value_260 rfl ?_
    refine jr_ireturn dX6_value_264 rfl rfl ?_
    exact (jr_upc_self σ 4) ▸ hk (σ 4)
  | cons o l ih =>
    intro i h σ tp x8 hc hi hw hh etp hk
    have hlen : i + l.length + 1 = to := by rw [← hi]; simp; omega
    have hc0 : σ 2 i = ev_cc o := hc 0 (by simp)
    have hc1 : ∀ j, j < l.length → σ 2 (i + 1 + j) = ev_cc (l.getD j 0) := by
      intro j hj
      have := hc (j + 1) (by simp; omega)
      rw [show i + 1 + j = i + (j + 1) by omega]
      simpa using this
    rcases hw with ⟨ho, h40, hw2⟩ | ⟨ho, ho2, h40, hw2⟩ | ⟨ho, h1, hw2⟩ | ⟨ho, h2, hw2⟩
    · rcases (by omega : o = 0 ∨ o = 1 ∨ o = 2 ∨ o = 3 ∨ o = 4 ∨ o = 5) with rfl | rfl | rfl | rfl | rfl | rfl
      · replace hc0 : σ 2 i = -1 := hc0
        refine jr_iload 85 dX6_value_83 rfl rfl ?_
        refine jr_iload 87 dX6_value_85 rfl rfl ?_
        refine jr_icmp_ge 249 90 dX6_value_87 rfl rfl (fun q => absurd q (nI_ge (by omega) (by omega))) (fun q87 => ?_)
        refine jr_iload 92 dX6_value_90 rfl rfl ?_
        refine jr_iconst (1) 93 dX6_value_92 rfl rfl ?_
        refine jr_iadd 94 dX6_value_93 rfl ?_
        rw [etp]
        refine jr_bipush (64) 96 dX6_value_94 rfl rfl ?_
        refine jr_icmp_ge 249 99 dX6_value_96 rfl rfl (fun q => absurd q (nI_ge (b := 64) (by omega) (by decide))) (fun q96 => ?_)
        refine jr_aload_n 0 100 dX6_value_99 rfl rfl rfl ?_
        refine gf_X6_9 103 dX6_value_100 rfl rfl rfl rfl ?_
        refine jr_iload 105 dX6_value_103 rfl rfl ?_
        refine jr_iale rfl rfl (by omega) hc0 106 dX6_value_105 rfl ?_
        refine jr_istore (L' := [_, _, _, _, _, _, _, _, _]) 108 dX6_value_106 rfl (by decide) rfl ?_
        refine jr_iload 110 dX6_value_108 rfl rfl ?_
        refine jr_bipush ((-6)) 112 dX6_value_110 rfl rfl ?_
        refine jr_icmp_lt 144 115 dX6_value_112 rfl rfl (fun q => absurd q (by decide)) (fun q112 => ?_)
        refine jr_iinc (v := nI h) (L' := [_, _, _, _, _, _, _, _, _]) 118 dX6_value_115 rfl rfl etp (by decide) rfl ?_
        refine jr_aload_n 0 119 dX6_value_118 rfl rfl rfl ?_
        refine gf_X6_18 122 dX6_value_119 rfl rfl rfl rfl ?_
        refine jr_iload 124 dX6_value_122 rfl rfl ?_
        refine jr_iload 126 dX6_value_124 rfl rfl ?_
        refine jr_if_lt 134 129 dX6_value_126 rfl rfl (fun q126 => ?_) (fun q => absurd (by decide) q)
        refine jr_aload_n 3 135 dX6_value_134 rfl rfl rfl ?_
        refine jr_iconst ((-1)) 136 dX6_value_135 rfl rfl ?_
        refine jr_iload 138 dX6_value_136 rfl rfl ?_
        refine jr_isub 139 dX6_value_138 rfl ?_
        refine jr_iald rfl (k := 0) (by decide) (by decide) 140 dX6_value_139 rfl ?_
        refine jr_iast rfl (k := h) rfl (by omega) 141 dX6_value_140 rfl ?_
        refine jr_goto 243 dX6_value_141 rfl ?_
        refine jr_iinc (v := nI (i + 1)) (L' := [_, _, _, _, _, _, _, _, _]) 246 dX6_value_243 rfl rfl (nI_1 i) (by decide) rfl ?_
        refine jr_goto 83 dX6_value_246 rfl ?_
        exact ih (i + 1) (h + 1) _ _ _ hc1 (by omega) hw2 (by omega) (nI_1 h) (fun f => by have := hk f; rw [show ev (σ 11) h (σ 4) (0 :: l) = ev (σ 11) (h + 1) (upd (σ 4) h (σ 11 0)) l from rfl] at this; rw [jr_upc_up]; exact this)
      · replace hc0 : σ 2 i = -2 := hc0
        refine jr_iload 85 dX6_value_83 rfl rfl ?_
        refine jr_iload 87 dX6_value_85 rfl rfl ?_
        refine jr_icmp_ge 249 90 dX6_value_87 rfl rfl (fun q => absurd q (nI_ge (by omega) (by omega))) (fun q87 => ?_)
        refine jr_iload 92 dX6_value_90 rfl rfl ?_
        refine jr_iconst (1) 93 dX6_value_92 rfl rfl ?_
        refine jr_iadd 94 dX6_value_93 rfl ?_
        rw [etp]
        refine jr_bipush (64) 96 dX6_value_94 rfl rfl ?_
        refine jr_icmp_ge 249 99 dX6_value_96 rfl rfl (fun q => absurd q (nI_ge (b := 64) (by omega) (by decide))) (fun q96 => ?_)
        refine jr_aload_n 0 100 dX6_value_99 rfl rfl rfl ?_
        refine gf_X6_9 103 dX6_value_100 rfl rfl rfl rfl ?_
        refine jr_iload 105 dX6_value_103 rfl rfl ?_
        refine jr_iale rfl rfl (by omega) hc0 106 dX6_value_105 rfl ?_
        refine jr_istore (L' := [_, _, _, _, _, _, _, _, _]) 108 dX6_value_106 rfl (by decide) rfl ?_
        refine jr_iload 110 dX6_value_108 rfl rfl ?_
        refine jr_bipush ((-6)) 112 dX6_value_110 rfl rfl ?_
        refine jr_icmp_lt 144 115 dX6_value_112 rfl rfl (fun q => absurd q (by decide)) (fun q112 => ?_)
        refine jr_iinc (v := nI h) (L' := [_, _, _, _, _, _, _, _, _]) 118 dX6_value_115 rfl rfl etp (by decide) rfl ?_
        refine jr_aload_n 0 119 dX6_value_118 rfl rfl rfl ?_
        refine gf_X6_18 122 dX6_value_119 rfl rfl rfl rfl ?_
        refine jr_iload 124 dX6_value_122 rfl rfl ?_
        refine jr_iload 126 dX6_value_124 rfl rfl ?_
        refine jr_if_lt 134 129 dX6_value_126 rfl rfl (fun q126 => ?_) (fun q => absurd (by decide) q)
        refine jr_aload_n 3 135 dX6_value_134 rfl rfl rfl ?_
        refine jr_iconst ((-1)) 136 dX6_value_135 rfl rfl ?_
        refine jr_iload 138 dX6_value_136 rfl rfl ?_
        refine jr_isub 139 dX6_value_138 rfl ?_
        refine jr_iald rfl (k := 1) (by decide) (by decide) 140 dX6_value_139 rfl ?_
        refine jr_iast rfl (k := h) rfl (by omega) 141 dX6_value_140 rfl ?_
        refine jr_goto 243 dX6_value_141 rfl ?_
        refine jr_iinc (v := nI (i + 1)) (L' := [_, _, _, _, _, _, _, _, _]) 246 dX6_value_243 rfl rfl (nI_1 i) (by decide) rfl ?_
        refine jr_goto 83 dX6_value_246 rfl ?_
        exact ih (i + 1) (h + 1) _ _ _ hc1 (by omega) hw2 (by omega) (nI_1 h) (fun f => by have := hk f; rw [show ev (σ 11) h (σ 4) (1 :: l) = ev (σ 11) (h + 1) (upd (σ 4) h (σ 11 1)) l from rfl] at this; rw [jr_upc_up]; exact this)
      · replace hc0 : σ 2 i = -3 := hc0
        refine jr_iload 85 dX6_value_83 rfl rfl ?_
        refine jr_iload 87 dX6_value_85 rfl rfl ?_
        refine jr_icmp_ge 249 90 dX6_value_87 rfl rfl (fun q => absurd q (nI_ge (by omega) (by omega))) (fun q87 => ?_)
        refine jr_iload 92 dX6_value_90 rfl rfl ?_
        refine jr_iconst (1) 93 dX6_value_92 rfl rfl ?_
        refine jr_iadd 94 dX6_value_93 rfl ?_
        rw [etp]
        refine jr_bipush (64) 96 dX6_value_94 rfl rfl ?_
        refine jr_icmp_ge 249 99 dX6_value_96 rfl rfl (fun q => absurd q (nI_ge (b := 64) (by omega) (by decide))) (fun q96 => ?_)
        refine jr_aload_n 0 100 dX6_value_99 rfl rfl rfl ?_
        refine gf_X6_9 103 dX6_value_100 rfl rfl rfl rfl ?_
        refine jr_iload 105 dX6_value_103 rfl rfl ?_
        refine jr_iale rfl rfl (by omega) hc0 106 dX6_value_105 rfl ?_
        refine jr_istore (L' := [_, _, _, _, _, _, _, _, _]) 108 dX6_value_106 rfl (by decide) rfl ?_
        refine jr_iload 110 dX6_value_108 rfl rfl ?_
        refine jr_bipush ((-6)) 112 dX6_value_110 rfl rfl ?_
        refine jr_icmp_lt 144 115 dX6_value_112 rfl rfl (fun q => absurd q (by decide)) (fun q112 => ?_)
        refine jr_iinc (v := nI h) (L' := [_, _, _, _, _, _, _, _, _]) 118 dX6_value_115 rfl rfl etp (by decide) rfl ?_
        refine jr_aload_n 0 119 dX6_value_118 rfl rfl rfl ?_
        refine gf_X6_18 122 dX6_value_119 rfl rfl rfl rfl ?_
        refine jr_iload 124 dX6_value_122 rfl rfl ?_
        refine jr_iload 126 dX6_value_124 rfl rfl ?_
        refine jr_if_lt 134 129 dX6_value_126 rfl rfl (fun q126 => ?_) (fun q => absurd (by decide) q)
        refine jr_aload_n 3 135 dX6_value_134 rfl rfl rfl ?_
        refine jr_iconst ((-1)) 136 dX6_value_135 rfl rfl ?_
        refine jr_iload 138 dX6_value_136 rfl rfl ?_
        refine jr_isub 139 dX6_value_138 rfl ?_
        refine jr_iald rfl (k := 2) (by decide) (by decide) 140 dX6_value_139 rfl ?_
        refine jr_iast rfl (k := h) rfl (by omega) 141 dX6_value_140 rfl ?_
        refine jr_goto 243 dX6_value_141 rfl ?_
        refine jr_iinc (v := nI (i + 1)) (L' := [_, _, _, _, _, _, _, _, _]) 246 dX6_value_243 rfl rfl (nI_1 i) (by decide) rfl ?_
        refine jr_goto 83 dX6_value_246 rfl ?_
        exact ih (i + 1) (h + 1) _ _ _ hc1 (by omega) hw2 (by omega) (nI_1 h) (fun f => by have := hk f; rw [show ev (σ 11) h (σ 4) (2 :: l) = ev (σ 11) (h + 1) (upd (σ 4) h (σ 11 2)) l from rfl] at this; rw [jr_upc_up]; exact this)
      · replace hc0 : σ 2 i = -4 := hc0
        refine jr_iload 85 dX6_value_83 rfl rfl ?_
        refine jr_iload 87 dX6_value_85 rfl rfl ?_
        refine jr_icmp_ge 249 90 dX6_value_87 rfl rfl (fun q => absurd q (nI_ge (by omega) (by omega))) (fun q87 => ?_)
        refine jr_iload 92 dX6_value_90 rfl rfl ?_
        refine jr_iconst (1) 93 dX6_value_92 rfl rfl ?_
        refine jr_iadd 94 dX6_value_93 rfl ?_
        rw [etp]
        refine jr_bipush (64) 96 dX6_value_94 rfl rfl ?_
        refine jr_icmp_ge 249 99 dX6_value_96 rfl rfl (fun q => absurd q (nI_ge (b := 64) (by omega) (by decide))) (fun q96 => ?_)
        refine jr_aload_n 0 100 dX6_value_99 rfl rfl rfl ?_
        refine gf_X6_9 103 dX6_value_100 rfl rfl rfl rfl ?_
        refine jr_iload 105 dX6_value_103 rfl rfl ?_
        refine jr_iale rfl rfl (by omega) hc0 106 dX6_value_105 rfl ?_
        refine jr_istore (L' := [_, _, _, _, _, _, _, _, _]) 108 dX6_value_106 rfl (by decide) rfl ?_
        refine jr_iload 110 dX6_value_108 rfl rfl ?_
        refine jr_bipush ((-6)) 112 dX6_value_110 rfl rfl ?_
        refine jr_icmp_lt 144 115 dX6_value_112 rfl rfl (fun q => absurd q (by decide)) (fun q112 => ?_)
        refine jr_iinc (v := nI h) (L' := [_, _, _, _, _, _, _, _, _]) 118 dX6_value_115 rfl rfl etp (by decide) rfl ?_
        refine jr_aload_n 0 119 dX6_value_118 rfl rfl rfl ?_
        refine gf_X6_18 122 dX6_value_119 rfl rfl rfl rfl ?_
        refine jr_iload 124 dX6_value_122 rfl rfl ?_
        refine jr_iload 126 dX6_value_124 rfl rfl ?_
        refine jr_if_lt 134 129 dX6_value_126 rfl rfl (fun q126 => ?_) (fun q => absurd (by decide) q)
        refine jr_aload_n 3 135 dX6_value_134 rfl rfl rfl ?_
        refine jr_iconst ((-1)) 136 dX6_value_135 rfl rfl ?_
        refine jr_iload 138 dX6_value_136 rfl rfl ?_
        refine jr_isub 139 dX6_value_138 rfl ?_
        refine jr_iald rfl (k := 3) (by decide) (by decide) 140 dX6_value_139 rfl ?_
        refine jr_iast rfl (k := h) rfl (by omega) 141 dX6_value_140 rfl ?_
        refine jr_goto 243 dX6_value_141 rfl ?_
        refine jr_iinc (v := nI (i + 1)) (L' := [_, _, _, _, _, _, _, _, _]) 246 dX6_value_243 rfl rfl (nI_1 i) (by decide) rfl ?_
        refine jr_goto 83 dX6_value_246 rfl ?_
        exact ih (i + 1) (h + 1) _ _ _ hc1 (by omega) hw2 (by omega) (nI_1 h) (fun f => by have := hk f; rw [show ev (σ 11) h (σ 4) (3 :: l) = ev (σ 11) (h + 1) (upd (σ 4) h (σ 11 3)) l from rfl] at this; rw [jr_upc_up]; exact this)
      · replace hc0 : σ 2 i = -5 := hc0
        refine jr_iload 85 dX6_value_83 rfl rfl ?_
        refine jr_iload 87 dX6_value_85 rfl rfl ?_
        refine jr_icmp_ge 249 90 dX6_value_87 rfl rfl (fun q => absurd q (nI_ge (by omega) (by omega))) (fun q87 => ?_)
        refine jr_iload 92 dX6_value_90 rfl rfl ?_
        refine jr_iconst (1) 93 dX6_value_92 rfl rfl ?_
        refine jr_iadd 94 dX6_value_93 rfl ?_
        rw [etp]
        refine jr_bipush (64) 96 dX6_value_94 rfl rfl ?_
        refine jr_icmp_ge 249 99 dX6_value_96 rfl rfl (fun q => absurd q (nI_ge (b := 64) (by omega) (by decide))) (fun q96 => ?_)
        refine jr_aload_n 0 100 dX6_value_99 rfl rfl rfl ?_
        refine gf_X6_9 103 dX6_value_100 rfl rfl rfl rfl ?_
        refine jr_iload 105 dX6_value_103 rfl rfl ?_
        refine jr_iale rfl rfl (by omega) hc0 106 dX6_value_105 rfl ?_
        refine jr_istore (L' := [_, _, _, _, _, _, _, _, _]) 108 dX6_value_106 rfl (by decide) rfl ?_
        refine jr_iload 110 dX6_value_108 rfl rfl ?_
        refine jr_bipush ((-6)) 112 dX6_value_110 rfl rfl ?_
        refine jr_icmp_lt 144 115 dX6_value_112 rfl rfl (fun q => absurd q (by decide)) (fun q112 => ?_)
        refine jr_iinc (v := nI h) (L' := [_, _, _, _, _, _, _, _, _]) 118 dX6_value_115 rfl rfl etp (by decide) rfl ?_
        refine jr_aload_n 0 119 dX6_value_118 rfl rfl rfl ?_
        refine gf_X6_18 122 dX6_value_119 rfl rfl rfl rfl ?_
        refine jr_iload 124 dX6_value_122 rfl rfl ?_
        refine jr_iload 126 dX6_value_124 rfl rfl ?_
        refine jr_if_lt 134 129 dX6_value_126 rfl rfl (fun q126 => ?_) (fun q => absurd (by decide) q)
        refine jr_aload_n 3 135 dX6_value_134 rfl rfl rfl ?_
        refine jr_iconst ((-1)) 136 dX6_value_135 rfl rfl ?_
        refine jr_iload 138 dX6_value_136 rfl rfl ?_
        refine jr_isub 139 dX6_value_138 rfl ?_
        refine jr_iald rfl (k := 4) (by decide) (by decide) 140 dX6_value_139 rfl ?_
        refine jr_iast rfl (k := h) rfl (by omega) 141 dX6_value_140 rfl ?_
        refine jr_goto 243 dX6_value_141 rfl ?_
        refine jr_iinc (v := nI (i + 1)) (L' := [_, _, _, _, _, _, _, _, _]) 246 dX6_value_243 rfl rfl (nI_1 i) (by decide) rfl ?_
        refine jr_goto 83 dX6_value_246 rfl ?_
        exact ih (i + 1) (h + 1) _ _ _ hc1 (by omega) hw2 (by omega) (nI_1 h) (fun f => by have := hk f; rw [show ev (σ 11) h (σ 4) (4 :: l) = ev (σ 11) (h + 1) (upd (σ 4) h (σ 11 4)) l from rfl] at this; rw [jr_upc_up]; exact this)
      · replace hc0 : σ 2 i = -6 := hc0
        refine jr_iload 85 dX6_value_83 rfl rfl ?_
        refine jr_iload 87 dX6_value_85 rfl rfl ?_
        refine jr_icmp_ge 249 90 dX6_value_87 rfl rfl (fun q => absurd q (nI_ge (by omega) (by omega))) (fun q87 => ?_)
        refine jr_iload 92 dX6_value_90 rfl rfl ?_
        refine jr_iconst (1) 93 dX6_value_92 rfl rfl ?_
        refine jr_iadd 94 dX6_value_93 rfl ?_
        rw [etp]
        refine jr_bipush (64) 96 dX6_value_94 rfl rfl ?_
        refine jr_icmp_ge 249 99 dX6_value_96 rfl rfl (fun q => absurd q (nI_ge (b := 64) (by omega) (by decide))) (fun q96 => ?_)
        refine jr_aload_n 0 100 dX6_value_99 rfl rfl rfl ?_
        refine gf_X6_9 103 dX6_value_100 rfl rfl rfl rfl ?_
        refine jr_iload 105 dX6_value_103 rfl rfl ?_
        refine jr_iale rfl rfl (by omega) hc0 106 dX6_value_105 rfl ?_
        refine jr_istore (L' := [_, _, _, _, _, _, _, _, _]) 108 dX6_value_106 rfl (by decide) rfl ?_
        refine jr_iload 110 dX6_value_108 rfl rfl ?_
        refine jr_bipush ((-6)) 112 dX6_value_110 rfl rfl ?_
        refine jr_icmp_lt 144 115 dX6_value_112 rfl rfl (fun q => absurd q (by decide)) (fun q112 => ?_)
        refine jr_iinc (v := nI h) (L' := [_, _, _, _, _, _, _, _, _]) 118 dX6_value_115 rfl rfl etp (by decide) rfl ?_
        refine jr_aload_n 0 119 dX6_value_118 rfl rfl rfl ?_
        refine gf_X6_18 122 dX6_value_119 rfl rfl rfl rfl ?_
        refine jr_iload 124 dX6_value_122 rfl rfl ?_
        refine jr_iload 126 dX6_value_124 rfl rfl ?_
        refine jr_if_lt 134 129 dX6_value_126 rfl rfl (fun q126 => ?_) (fun q => absurd (by decide) q)
        refine jr_aload_n 3 135 dX6_value_134 rfl rfl rfl ?_
        refine jr_iconst ((-1)) 136 dX6_value_135 rfl rfl ?_
        refine jr_iload 138 dX6_value_136 rfl rfl ?_
        refine jr_isub 139 dX6_value_138 rfl ?_
        refine jr_iald rfl (k := 5) (by decide) (by decide) 140 dX6_value_139 rfl ?_
        refine jr_iast rfl (k := h) rfl (by omega) 141 dX6_value_140 rfl ?_
        refine jr_goto 243 dX6_value_141 rfl ?_
        refine jr_iinc (v := nI (i + 1)) (L' := [_, _, _, _, _, _, _, _, _]) 246 dX6_value_243 rfl rfl (nI_1 i) (by decide) rfl ?_
        refine jr_goto 83 dX6_value_246 rfl ?_
        exact ih (i + 1) (h + 1) _ _ _ hc1 (by omega) hw2 (by omega) (nI_1 h) (fun f => by have := hk f; rw [show ev (σ 11) h (σ 4) (5 :: l) = ev (σ 11) (h + 1) (upd (σ 4) h (σ 11 5)) l from rfl] at this; rw [jr_upc_up]; exact this)
    · obtain ⟨v, rfl⟩ : ∃ v, o = 100000 + v := ⟨o - 100000, by omega⟩
      have hv : v ≤ 9999 := by omega
      replace hc0 : σ 2 i = nI v := by rw [hc0]; unfold ev_cc; rw [if_neg (by omega), if_pos (Nat.le_add_right _ _), Nat.add_sub_cancel_left]
      refine jr_iload 85 dX6_value_83 rfl rfl ?_
      refine jr_iload 87 dX6_value_85 rfl rfl ?_
      refine jr_icmp_ge 249 90 dX6_value_87 rfl rfl (fun q => absurd q (nI_ge (by omega) (by omega))) (fun q87 => ?_)
      refine jr_iload 92 dX6_value_90 rfl rfl ?_
      refine jr_iconst (1) 93 dX6_value_92 rfl rfl ?_
      refine jr_iadd 94 dX6_value_93 rfl ?_
      rw [etp]
      refine jr_bipush (64) 96 dX6_value_94 rfl rfl ?_
      refine jr_icmp_ge 249 99 dX6_value_96 rfl rfl (fun q => absurd q (nI_ge (b := 64) (by omega) (by decide))) (fun q96 => ?_)
      refine jr_aload_n 0 100 dX6_value_99 rfl rfl rfl ?_
      refine gf_X6_9 103 dX6_value_100 rfl rfl rfl rfl ?_
      refine jr_iload 105 dX6_value_103 rfl rfl ?_
      refine jr_iale rfl rfl (by omega) hc0 106 dX6_value_105 rfl ?_
      refine jr_istore (L' := [_, _, _, _, _, _, _, _, _]) 108 dX6_value_106 rfl (by decide) rfl ?_
      refine jr_iload 110 dX6_value_108 rfl rfl ?_
      refine jr_bipush ((-6)) 112 dX6_value_110 rfl rfl ?_
      refine jr_icmp_lt 144 115 dX6_value_112 rfl rfl (fun q => absurd (Int32.lt_trans q (by decide : (-6 : Int32) < 0)) (nI_pos (by omega))) (fun q112 => ?_)
      refine jr_iinc (v := nI h) (L' := [_, _, _, _, _, _, _, _, _]) 118 dX6_value_115 rfl rfl etp (by decide) rfl ?_
      refine jr_aload_n 0 119 dX6_value_118 rfl rfl rfl ?_
      refine gf_X6_18 122 dX6_value_119 rfl rfl rfl rfl ?_
      refine jr_iload 124 dX6_value_122 rfl rfl ?_
      refine jr_iload 126 dX6_value_124 rfl rfl ?_
      refine jr_if_lt 134 129 dX6_value_126 rfl rfl (fun q => absurd q (nI_pos (by omega))) (fun q126 => ?_)
      refine jr_iload 131 dX6_value_129 rfl rfl ?_
      refine jr_goto 140 dX6_value_131 rfl ?_
      refine jr_iast rfl (k := h) rfl (by omega) 141 dX6_value_140 rfl ?_
      refine jr_goto 243 dX6_value_141 rfl ?_
      refine jr_iinc (v := nI (i + 1)) (L' := [_, _, _, _, _, _, _, _, _]) 246 dX6_value_243 rfl rfl (nI_1 i) (by decide) rfl ?_
      refine jr_goto 83 dX6_value_246 rfl ?_
      exact ih (i + 1) (h + 1) _ _ _ hc1 (by omega) hw2 (by omega) (nI_1 h) (fun f => by have := hk f; rw [show ev (σ 11) h (σ 4) ((100000 + v) :: l) = ev (σ 11) (h + 1) (upd (σ 4) h (nI v)) l by rw [ev, if_neg (by omega), if_pos (Nat.le_add_right _ _), Nat.add_sub_cancel_left]] at this; rw [jr_upc_up]; exact this)
    · obtain ⟨h0, rfl⟩ : ∃ h0, h = h0 + 1 := ⟨h - 1, by omega⟩
      have e2 := tp_of etp
      subst e2
      rcases ho with rfl | rfl
      · replace hc0 : σ 2 i = -9 := hc0
        refine jr_iload 85 dX6_value_83 rfl rfl ?_
        refine jr_iload 87 dX6_value_85 rfl rfl ?_
        refine jr_icmp_ge 249 90 dX6_value_87 rfl rfl (fun q => absurd q (nI_ge (by omega) (by omega))) (fun q87 => ?_)
        refine jr_iload 92 dX6_value_90 rfl rfl ?_
        refine jr_iconst (1) 93 dX6_value_92 rfl rfl ?_
        refine jr_iadd 94 dX6_value_93 rfl ?_
        rw [nI_1]
        refine jr_bipush (64) 96 dX6_value_94 rfl rfl ?_
        refine jr_icmp_ge 249 99 dX6_value_96 rfl rfl (fun q => absurd q (nI_ge (b := 64) (by omega) (by decide))) (fun q96 => ?_)
        refine jr_aload_n 0 100 dX6_value_99 rfl rfl rfl ?_
        refine gf_X6_9 103 dX6_value_100 rfl rfl rfl rfl ?_
        refine jr_iload 105 dX6_value_103 rfl rfl ?_
        refine jr_iale rfl rfl (by omega) hc0 106 dX6_value_105 rfl ?_
        refine jr_istore (L' := [_, _, _, _, _, _, _, _, _]) 108 dX6_value_106 rfl (by decide) rfl ?_
        refine jr_iload 110 dX6_value_108 rfl rfl ?_
        refine jr_bipush ((-6)) 112 dX6_value_110 rfl rfl ?_
        refine jr_icmp_lt 144 115 dX6_value_112 rfl rfl (fun q112 => ?_) (fun q => absurd (by decide) q)
        refine jr_iload 146 dX6_value_144 rfl rfl ?_
        refine jr_if_lt 206 149 dX6_value_146 rfl rfl (fun q => absurd q (nI_pos (by omega))) (fun q146 => ?_)
        refine jr_iload 151 dX6_value_149 rfl rfl ?_
        refine jr_bipush ((-9)) 153 dX6_value_151 rfl rfl ?_
        refine jr_icmp_eq 163 156 dX6_value_153 rfl rfl (fun q153 => ?_) (fun q => absurd (by decide) q)
        refine jr_aload_n 0 164 dX6_value_163 rfl rfl rfl ?_
        refine gf_X6_18 167 dX6_value_164 rfl rfl rfl rfl ?_
        refine jr_iload 169 dX6_value_167 rfl rfl ?_
        refine jr_iload 171 dX6_value_169 rfl rfl ?_
        refine jr_bipush ((-18)) 173 dX6_value_171 rfl rfl ?_
        refine jr_icmp_ne 187 176 dX6_value_173 rfl rfl (fun q173 => ?_) (fun q => absurd q (by decide))
        refine jr_aload_n 0 188 dX6_value_187 rfl rfl rfl ?_
        refine gf_X6_18 191 dX6_value_188 rfl rfl rfl rfl ?_
        refine jr_iload 193 dX6_value_191 rfl rfl ?_
        refine jr_iald rfl (k := h0) rfl (by omega) 194 dX6_value_193 rfl ?_
        refine jr_if_ne 201 197 dX6_value_194 rfl rfl (fun q194 => ?_) (fun q194 => ?_)
        · refine jr_iconst (0) 202 dX6_value_201 rfl rfl ?_
          refine jr_iast rfl (k := h0) rfl (by omega) 203 dX6_value_202 rfl ?_
          refine jr_goto 243 dX6_value_203 rfl ?_
          refine jr_iinc (v := nI (i + 1)) (L' := [_, _, _, _, _, _, _, _, _]) 246 dX6_value_243 rfl rfl (nI_1 i) (by decide) rfl ?_
          refine jr_goto 83 dX6_value_246 rfl ?_
          exact ih (i + 1) (h0 + 1) _ _ _ hc1 (by omega) hw2 (by omega) (nI_1 h0) (fun f => by have := hk f; rw [show ev (σ 11) (h0 + 1) (σ 4) (13 :: l) = ev (σ 11) (h0 + 1) (upd (σ 4) h0 0) l by rw [show ev (σ 11) (h0 + 1) (σ 4) (13 :: l) = ev (σ 11) (h0 + 1) (upd (σ 4) h0 (if σ 4 h0 = 0 then 1 else 0)) l from rfl, if_neg q194]] at this; rw [jr_upc_up]; exact this)
        · refine jr_iconst (1) 198 dX6_value_197 rfl rfl ?_
          refine jr_goto 202 dX6_value_198 rfl ?_
          refine jr_iast rfl (k := h0) rfl (by omega) 203 dX6_value_202 rfl ?_
          refine jr_goto 243 dX6_value_203 rfl ?_
          refine jr_iinc (v := nI (i + 1)) (L' := [_, _, _, _, _, _, _, _, _]) 246 dX6_value_243 rfl rfl (nI_1 i) (by decide) rfl ?_
          refine jr_goto 83 dX6_value_246 rfl ?_
          exact ih (i + 1) (h0 + 1) _ _ _ hc1 (by omega) hw2 (by omega) (nI_1 h0) (fun f => by have := hk f; rw [show ev (σ 11) (h0 + 1) (σ 4) (13 :: l) = ev (σ 11) (h0 + 1) (upd (σ 4) h0 1) l by rw [show ev (σ 11) (h0 + 1) (σ 4) (13 :: l) = ev (σ 11) (h0 + 1) (upd (σ 4) h0 (if σ 4 h0 = 0 then 1 else 0)) l from rfl, if_pos q194]] at this; rw [jr_upc_up]; exact this)
      · replace hc0 : σ 2 i = -18 := hc0
        refine jr_iload 85 dX6_value_83 rfl rfl ?_
        refine jr_iload 87 dX6_value_85 rfl rfl ?_
        refine jr_icmp_ge 249 90 dX6_value_87 rfl rfl (fun q => absurd q (nI_ge (by omega) (by omega))) (fun q87 => ?_)
        refine jr_iload 92 dX6_value_90 rfl rfl ?_
        refine jr_iconst (1) 93 dX6_value_92 rfl rfl ?_
        refine jr_iadd 94 dX6_value_93 rfl ?_
        rw [nI_1]
        refine jr_bipush (64) 96 dX6_value_94 rfl rfl ?_
        refine jr_icmp_ge 249 99 dX6_value_96 rfl rfl (fun q => absurd q (nI_ge (b := 64) (by omega) (by decide))) (fun q96 => ?_)
        refine jr_aload_n 0 100 dX6_value_99 rfl rfl rfl ?_
        refine gf_X6_9 103 dX6_value_100 rfl rfl rfl rfl ?_
        refine jr_iload 105 dX6_value_103 rfl rfl ?_
        refine jr_iale rfl rfl (by omega) hc0 106 dX6_value_105 rfl ?_
        refine jr_istore (L' := [_, _, _, _, _, _, _, _, _]) 108 dX6_value_106 rfl (by decide) rfl ?_
        refine jr_iload 110 dX6_value_108 rfl rfl ?_
        refine jr_bipush ((-6)) 112 dX6_value_110 rfl rfl ?_
        refine jr_icmp_lt 144 115 dX6_value_112 rfl rfl (fun q112 => ?_) (fun q => absurd (by decide) q)
        refine jr_iload 146 dX6_value_144 rfl rfl ?_
        refine jr_if_lt 206 149 dX6_value_146 rfl rfl (fun q => absurd q (nI_pos (by omega))) (fun q146 => ?_)
        refine jr_iload 151 dX6_value_149 rfl rfl ?_
        refine jr_bipush ((-9)) 153 dX6_value_151 rfl rfl ?_
        refine jr_icmp_eq 163 156 dX6_value_153 rfl rfl (fun q => absurd q (by decide)) (fun q153 => ?_)
        refine jr_iload 158 dX6_value_156 rfl rfl ?_
        refine jr_bipush ((-18)) 160 dX6_value_158 rfl rfl ?_
        refine jr_icmp_ne 206 163 dX6_value_160 rfl rfl (fun q => absurd (by decide) q) (fun q160 => ?_)
        refine jr_aload_n 0 164 dX6_value_163 rfl rfl rfl ?_
        refine gf_X6_18 167 dX6_value_164 rfl rfl rfl rfl ?_
        refine jr_iload 169 dX6_value_167 rfl rfl ?_
        refine jr_iload 171 dX6_value_169 rfl rfl ?_
        refine jr_bipush ((-18)) 173 dX6_value_171 rfl rfl ?_
        refine jr_icmp_ne 187 176 dX6_value_173 rfl rfl (fun q => absurd (by decide) q) (fun q173 => ?_)
        refine jr_aload_n 0 177 dX6_value_176 rfl rfl rfl ?_
        refine gf_X6_18 180 dX6_value_177 rfl rfl rfl rfl ?_
        refine jr_iload 182 dX6_value_180 rfl rfl ?_
        refine jr_iald rfl (k := h0) rfl (by omega) 183 dX6_value_182 rfl ?_
        refine jr_ineg 184 dX6_value_183 rfl ?_
        refine jr_goto 202 dX6_value_184 rfl ?_
        refine jr_iast rfl (k := h0) rfl (by omega) 203 dX6_value_202 rfl ?_
        refine jr_goto 243 dX6_value_203 rfl ?_
        refine jr_iinc (v := nI (i + 1)) (L' := [_, _, _, _, _, _, _, _, _]) 246 dX6_value_243 rfl rfl (nI_1 i) (by decide) rfl ?_
        refine jr_goto 83 dX6_value_246 rfl ?_
        exact ih (i + 1) (h0 + 1) _ _ _ hc1 (by omega) hw2 (by omega) (nI_1 h0) (fun f => by have := hk f; rw [show ev (σ 11) (h0 + 1) (σ 4) (19 :: l) = ev (σ 11) (h0 + 1) (upd (σ 4) h0 (-(σ 4 h0))) l from rfl] at this; rw [jr_upc_up]; exact this)
    · obtain ⟨h0, rfl⟩ : ∃ h0, h = h0 + 2 := ⟨h - 2, by omega⟩
      have e2 := tp_of etp
      subst e2
      replace hw2 : ev_wf (h0 + 1) l := hw2
      rcases ho with rfl | rfl | rfl | rfl | rfl | rfl | rfl
      · replace hc0 : σ 2 i = -7 := hc0
        refine jr_iload 85 dX6_value_83 rfl rfl ?_
        refine jr_iload 87 dX6_value_85 rfl rfl ?_
        refine jr_icmp_ge 249 90 dX6_value_87 rfl rfl (fun q => absurd q (nI_ge (by omega) (by omega))) (fun q87 => ?_)
        refine jr_iload 92 dX6_value_90 rfl rfl ?_
        refine jr_iconst (1) 93 dX6_value_92 rfl rfl ?_
        refine jr_iadd 94 dX6_value_93 rfl ?_
        rw [nI_1]
        refine jr_bipush (64) 96 dX6_value_94 rfl rfl ?_
        refine jr_icmp_ge 249 99 dX6_value_96 rfl rfl (fun q => absurd q (nI_ge (b := 64) (by omega) (by decide))) (fun q96 => ?_)
        refine jr_aload_n 0 100 dX6_value_99 rfl rfl rfl ?_
        refine gf_X6_9 103 dX6_value_100 rfl rfl rfl rfl ?_
        refine jr_iload 105 dX6_value_103 rfl rfl ?_
        refine jr_iale rfl rfl (by omega) hc0 106 dX6_value_105 rfl ?_
        refine jr_istore (L' := [_, _, _, _, _, _, _, _, _]) 108 dX6_value_106 rfl (by decide) rfl ?_
        refine jr_iload 110 dX6_value_108 rfl rfl ?_
        refine jr_bipush ((-6)) 112 dX6_value_110 rfl rfl ?_
        refine jr_icmp_lt 144 115 dX6_value_112 rfl rfl (fun q112 => ?_) (fun q => absurd (by decide) q)
        refine jr_iload 146 dX6_value_144 rfl rfl ?_
        refine jr_if_lt 206 149 dX6_value_146 rfl rfl (fun q => absurd q (nI_pos (by omega))) (fun q146 => ?_)
        refine jr_iload 151 dX6_value_149 rfl rfl ?_
        refine jr_bipush ((-9)) 153 dX6_value_151 rfl rfl ?_
        refine jr_icmp_eq 163 156 dX6_value_153 rfl rfl (fun q => absurd q (by decide)) (fun q153 => ?_)
        refine jr_iload 158 dX6_value_156 rfl rfl ?_
        refine jr_bipush ((-18)) 160 dX6_value_158 rfl rfl ?_
        refine jr_icmp_ne 206 163 dX6_value_160 rfl rfl (fun q160 => ?_) (fun q => absurd q (by decide))
        refine jr_iload 208 dX6_value_206 rfl rfl ?_
        refine jr_iconst (1) 209 dX6_value_208 rfl rfl ?_
        refine jr_icmp_lt 243 212 dX6_value_209 rfl rfl (fun q => absurd q (nI_nlt (b := 1) (by omega) (by omega))) (fun q209 => ?_)
        refine jr_iinc (v := nI h0) (L' := [_, _, _, _, _, _, _, _, _]) 215 dX6_value_212 rfl rfl (pk_m1 h0) (by decide) rfl ?_
        refine jr_aload_n 0 216 dX6_value_215 rfl rfl rfl ?_
        refine gf_X6_18 219 dX6_value_216 rfl rfl rfl rfl ?_
        refine jr_iload 221 dX6_value_219 rfl rfl ?_
        refine jr_iload 223 dX6_value_221 rfl rfl ?_
        refine jr_aload_n 0 224 dX6_value_223 rfl rfl rfl ?_
        refine gf_X6_18 227 dX6_value_224 rfl rfl rfl rfl ?_
        refine jr_iload 229 dX6_value_227 rfl rfl ?_
        refine jr_iald rfl (k := h0) rfl (by omega) 230 dX6_value_229 rfl ?_
        refine jr_aload_n 0 231 dX6_value_230 rfl rfl rfl ?_
        refine gf_X6_18 234 dX6_value_231 rfl rfl rfl rfl ?_
        refine jr_iload 236 dX6_value_234 rfl rfl ?_
        refine jr_iconst (1) 237 dX6_value_236 rfl rfl ?_
        refine jr_iadd 238 dX6_value_237 rfl ?_
        refine jr_iald rfl (k := h0 + 1) (nI_1 h0) (by omega) 239 dX6_value_238 rfl ?_
        refine cs_X6_45 242 dX6_value_239 rfl rfl (Nat.le_of_ble_eq_true rfl) (wp_joined_11 ?_)
        refine jr_iast rfl (k := h0) rfl (by omega) 243 dX6_value_242 rfl ?_
        refine jr_iinc (v := nI (i + 1)) (L' := [_, _, _, _, _, _, _, _, _]) 246 dX6_value_243 rfl rfl (nI_1 i) (by decide) rfl ?_
        refine jr_goto 83 dX6_value_246 rfl ?_
        exact ih (i + 1) (h0 + 1) _ _ _ hc1 (by omega) hw2 (by omega) (nI_1 h0) (fun f => by have := hk f; rw [show ev (σ 11) (h0 + 2) (σ 4) (11 :: l) = ev (σ 11) (h0 + 1) (upd (σ 4) h0 (ev_two 11 (σ 4 h0) (σ 4 (h0 + 1)))) l from rfl] at this; rw [jr_upc_up]; exact this)
      · replace hc0 : σ 2 i = -8 := hc0
        refine jr_iload 85 dX6_value_83 rfl rfl ?_
        refine jr_iload 87 dX6_value_85 rfl rfl ?_
        refine jr_icmp_ge 249 90 dX6_value_87 rfl rfl (fun q => absurd q (nI_ge (by omega) (by omega))) (fun q87 => ?_)
        refine jr_iload 92 dX6_value_90 rfl rfl ?_
        refine jr_iconst (1) 93 dX6_value_92 rfl rfl ?_
        refine jr_iadd 94 dX6_value_93 rfl ?_
        rw [nI_1]
        refine jr_bipush (64) 96 dX6_value_94 rfl rfl ?_
        refine jr_icmp_ge 249 99 dX6_value_96 rfl rfl (fun q => absurd q (nI_ge (b := 64) (by omega) (by decide))) (fun q96 => ?_)
        refine jr_aload_n 0 100 dX6_value_99 rfl rfl rfl ?_
        refine gf_X6_9 103 dX6_value_100 rfl rfl rfl rfl ?_
        refine jr_iload 105 dX6_value_103 rfl rfl ?_
        refine jr_iale rfl rfl (by omega) hc0 106 dX6_value_105 rfl ?_
        refine jr_istore (L' := [_, _, _, _, _, _, _, _, _]) 108 dX6_value_106 rfl (by decide) rfl ?_
        refine jr_iload 110 dX6_value_108 rfl rfl ?_
        refine jr_bipush ((-6)) 112 dX6_value_110 rfl rfl ?_
        refine jr_icmp_lt 144 115 dX6_value_112 rfl rfl (fun q112 => ?_) (fun q => absurd (by decide) q)
        refine jr_iload 146 dX6_value_144 rfl rfl ?_
        refine jr_if_lt 206 149 dX6_value_146 rfl rfl (fun q => absurd q (nI_pos (by omega))) (fun q146 => ?_)
        refine jr_iload 151 dX6_value_149 rfl rfl ?_
        refine jr_bipush ((-9)) 153 dX6_value_151 rfl rfl ?_
        refine jr_icmp_eq 163 156 dX6_value_153 rfl rfl (fun q => absurd q (by decide)) (fun q153 => ?_)
        refine jr_iload 158 dX6_value_156 rfl rfl ?_
        refine jr_bipush ((-18)) 160 dX6_value_158 rfl rfl ?_
        refine jr_icmp_ne 206 163 dX6_value_160 rfl rfl (fun q160 => ?_) (fun q => absurd q (by decide))
        refine jr_iload 208 dX6_value_206 rfl rfl ?_
        refine jr_iconst (1) 209 dX6_value_208 rfl rfl ?_
        refine jr_icmp_lt 243 212 dX6_value_209 rfl rfl (fun q => absurd q (nI_nlt (b := 1) (by omega) (by omega))) (fun q209 => ?_)
        refine jr_iinc (v := nI h0) (L' := [_, _, _, _, _, _, _, _, _]) 215 dX6_value_212 rfl rfl (pk_m1 h0) (by decide) rfl ?_
        refine jr_aload_n 0 216 dX6_value_215 rfl rfl rfl ?_
        refine gf_X6_18 219 dX6_value_216 rfl rfl rfl rfl ?_
        refine jr_iload 221 dX6_value_219 rfl rfl ?_
        refine jr_iload 223 dX6_value_221 rfl rfl ?_
        refine jr_aload_n 0 224 dX6_value_223 rfl rfl rfl ?_
        refine gf_X6_18 227 dX6_value_224 rfl rfl rfl rfl ?_
        refine jr_iload 229 dX6_value_227 rfl rfl ?_
        refine jr_iald rfl (k := h0) rfl (by omega) 230 dX6_value_229 rfl ?_
        refine jr_aload_n 0 231 dX6_value_230 rfl rfl rfl ?_
        refine gf_X6_18 234 dX6_value_231 rfl rfl rfl rfl ?_
        refine jr_iload 236 dX6_value_234 rfl rfl ?_
        refine jr_iconst (1) 237 dX6_value_236 rfl rfl ?_
        refine jr_iadd 238 dX6_value_237 rfl ?_
        refine jr_iald rfl (k := h0 + 1) (nI_1 h0) (by omega) 239 dX6_value_238 rfl ?_
        refine cs_X6_45 242 dX6_value_239 rfl rfl (Nat.le_of_ble_eq_true rfl) (wp_joined_12 ?_)
        refine jr_iast rfl (k := h0) rfl (by omega) 243 dX6_value_242 rfl ?_
        refine jr_iinc (v := nI (i + 1)) (L' := [_, _, _, _, _, _, _, _, _]) 246 dX6_value_243 rfl rfl (nI_1 i) (by decide) rfl ?_
        refine jr_goto 83 dX6_value_246 rfl ?_
        exact ih (i + 1) (h0 + 1) _ _ _ hc1 (by omega) hw2 (by omega) (nI_1 h0) (fun f => by have := hk f; rw [show ev (σ 11) (h0 + 2) (σ 4) (12 :: l) = ev (σ 11) (h0 + 1) (upd (σ 4) h0 (ev_two 12 (σ 4 h0) (σ 4 (h0 + 1)))) l from rfl] at this; rw [jr_upc_up]; exact this)
      · replace hc0 : σ 2 i = -13 := hc0
        refine jr_iload 85 dX6_value_83 rfl rfl ?_
        refine jr_iload 87 dX6_value_85 rfl rfl ?_
        refine jr_icmp_ge 249 90 dX6_value_87 rfl rfl (fun q => absurd q (nI_ge (by omega) (by omega))) (fun q87 => ?_)
        refine jr_iload 92 dX6_value_90 rfl rfl ?_
        refine jr_iconst (1) 93 dX6_value_92 rfl rfl ?_
        refine jr_iadd 94 dX6_value_93 rfl ?_
        rw [nI_1]
        refine jr_bipush (64) 96 dX6_value_94 rfl rfl ?_
        refine jr_icmp_ge 249 99 dX6_value_96 rfl rfl (fun q => absurd q (nI_ge (b := 64) (by omega) (by decide))) (fun q96 => ?_)
        refine jr_aload_n 0 100 dX6_value_99 rfl rfl rfl ?_
        refine gf_X6_9 103 dX6_value_100 rfl rfl rfl rfl ?_
        refine jr_iload 105 dX6_value_103 rfl rfl ?_
        refine jr_iale rfl rfl (by omega) hc0 106 dX6_value_105 rfl ?_
        refine jr_istore (L' := [_, _, _, _, _, _, _, _, _]) 108 dX6_value_106 rfl (by decide) rfl ?_
        refine jr_iload 110 dX6_value_108 rfl rfl ?_
        refine jr_bipush ((-6)) 112 dX6_value_110 rfl rfl ?_
        refine jr_icmp_lt 144 115 dX6_value_112 rfl rfl (fun q112 => ?_) (fun q => absurd (by decide) q)
        refine jr_iload 146 dX6_value_144 rfl rfl ?_
        refine jr_if_lt 206 149 dX6_value_146 rfl rfl (fun q => absurd q (nI_pos (by omega))) (fun q146 => ?_)
        refine jr_iload 151 dX6_value_149 rfl rfl ?_
        refine jr_bipush ((-9)) 153 dX6_value_151 rfl rfl ?_
        refine jr_icmp_eq 163 156 dX6_value_153 rfl rfl (fun q => absurd q (by decide)) (fun q153 => ?_)
        refine jr_iload 158 dX6_value_156 rfl rfl ?_
        refine jr_bipush ((-18)) 160 dX6_value_158 rfl rfl ?_
        refine jr_icmp_ne 206 163 dX6_value_160 rfl rfl (fun q160 => ?_) (fun q => absurd q (by decide))
        refine jr_iload 208 dX6_value_206 rfl rfl ?_
        refine jr_iconst (1) 209 dX6_value_208 rfl rfl ?_
        refine jr_icmp_lt 243 212 dX6_value_209 rfl rfl (fun q => absurd q (nI_nlt (b := 1) (by omega) (by omega))) (fun q209 => ?_)
        refine jr_iinc (v := nI h0) (L' := [_, _, _, _, _, _, _, _, _]) 215 dX6_value_212 rfl rfl (pk_m1 h0) (by decide) rfl ?_
        refine jr_aload_n 0 216 dX6_value_215 rfl rfl rfl ?_
        refine gf_X6_18 219 dX6_value_216 rfl rfl rfl rfl ?_
        refine jr_iload 221 dX6_value_219 rfl rfl ?_
        refine jr_iload 223 dX6_value_221 rfl rfl ?_
        refine jr_aload_n 0 224 dX6_value_223 rfl rfl rfl ?_
        refine gf_X6_18 227 dX6_value_224 rfl rfl rfl rfl ?_
        refine jr_iload 229 dX6_value_227 rfl rfl ?_
        refine jr_iald rfl (k := h0) rfl (by omega) 230 dX6_value_229 rfl ?_
        refine jr_aload_n 0 231 dX6_value_230 rfl rfl rfl ?_
        refine gf_X6_18 234 dX6_value_231 rfl rfl rfl rfl ?_
        refine jr_iload 236 dX6_value_234 rfl rfl ?_
        refine jr_iconst (1) 237 dX6_value_236 rfl rfl ?_
        refine jr_iadd 238 dX6_value_237 rfl ?_
        refine jr_iald rfl (k := h0 + 1) (nI_1 h0) (by omega) 239 dX6_value_238 rfl ?_
        refine cs_X6_45 242 dX6_value_239 rfl rfl (Nat.le_of_ble_eq_true rfl) (wp_joined_14 ?_)
        refine jr_iast rfl (k := h0) rfl (by omega) 243 dX6_value_242 rfl ?_
        refine jr_iinc (v := nI (i + 1)) (L' := [_, _, _, _, _, _, _, _, _]) 246 dX6_value_243 rfl rfl (nI_1 i) (by decide) rfl ?_
        refine jr_goto 83 dX6_value_246 rfl ?_
        exact ih (i + 1) (h0 + 1) _ _ _ hc1 (by omega) hw2 (by omega) (nI_1 h0) (fun f => by have := hk f; rw [show ev (σ 11) (h0 + 2) (σ 4) (14 :: l) = ev (σ 11) (h0 + 1) (upd (σ 4) h0 (ev_two 14 (σ 4 h0) (σ 4 (h0 + 1)))) l from rfl] at this; rw [jr_upc_up]; exact this)
      · replace hc0 : σ 2 i = -14 := hc0
        refine jr_iload 85 dX6_value_83 rfl rfl ?_
        refine jr_iload 87 dX6_value_85 rfl rfl ?_
        refine jr_icmp_ge 249 90 dX6_value_87 rfl rfl (fun q => absurd q (nI_ge (by omega) (by omega))) (fun q87 => ?_)
        refine jr_iload 92 dX6_value_90 rfl rfl ?_
        refine jr_iconst (1) 93 dX6_value_92 rfl rfl ?_
        refine jr_iadd 94 dX6_value_93 rfl ?_
        rw [nI_1]
        refine jr_bipush (64) 96 dX6_value_94 rfl rfl ?_
        refine jr_icmp_ge 249 99 dX6_value_96 rfl rfl (fun q => absurd q (nI_ge (b := 64) (by omega) (by decide))) (fun q96 => ?_)
        refine jr_aload_n 0 100 dX6_value_99 rfl rfl rfl ?_
        refine gf_X6_9 103 dX6_value_100 rfl rfl rfl rfl ?_
        refine jr_iload 105 dX6_value_103 rfl rfl ?_
        refine jr_iale rfl rfl (by omega) hc0 106 dX6_value_105 rfl ?_
        refine jr_istore (L' := [_, _, _, _, _, _, _, _, _]) 108 dX6_value_106 rfl (by decide) rfl ?_
        refine jr_iload 110 dX6_value_108 rfl rfl ?_
        refine jr_bipush ((-6)) 112 dX6_value_110 rfl rfl ?_
        refine jr_icmp_lt 144 115 dX6_value_112 rfl rfl (fun q112 => ?_) (fun q => absurd (by decide) q)
        refine jr_iload 146 dX6_value_144 rfl rfl ?_
        refine jr_if_lt 206 149 dX6_value_146 rfl rfl (fun q => absurd q (nI_pos (by omega))) (fun q146 => ?_)
        refine jr_iload 151 dX6_value_149 rfl rfl ?_
        refine jr_bipush ((-9)) 153 dX6_value_151 rfl rfl ?_
        refine jr_icmp_eq 163 156 dX6_value_153 rfl rfl (fun q => absurd q (by decide)) (fun q153 => ?_)
        refine jr_iload 158 dX6_value_156 rfl rfl ?_
        refine jr_bipush ((-18)) 160 dX6_value_158 rfl rfl ?_
        refine jr_icmp_ne 206 163 dX6_value_160 rfl rfl (fun q160 => ?_) (fun q => absurd q (by decide))
        refine jr_iload 208 dX6_value_206 rfl rfl ?_
        refine jr_iconst (1) 209 dX6_value_208 rfl rfl ?_
        refine jr_icmp_lt 243 212 dX6_value_209 rfl rfl (fun q => absurd q (nI_nlt (b := 1) (by omega) (by omega))) (fun q209 => ?_)
        refine jr_iinc (v := nI h0) (L' := [_, _, _, _, _, _, _, _, _]) 215 dX6_value_212 rfl rfl (pk_m1 h0) (by decide) rfl ?_
        refine jr_aload_n 0 216 dX6_value_215 rfl rfl rfl ?_
        refine gf_X6_18 219 dX6_value_216 rfl rfl rfl rfl ?_
        refine jr_iload 221 dX6_value_219 rfl rfl ?_
        refine jr_iload 223 dX6_value_221 rfl rfl ?_
        refine jr_aload_n 0 224 dX6_value_223 rfl rfl rfl ?_
        refine gf_X6_18 227 dX6_value_224 rfl rfl rfl rfl ?_
        refine jr_iload 229 dX6_value_227 rfl rfl ?_
        refine jr_iald rfl (k := h0) rfl (by omega) 230 dX6_value_229 rfl ?_
        refine jr_aload_n 0 231 dX6_value_230 rfl rfl rfl ?_
        refine gf_X6_18 234 dX6_value_231 rfl rfl rfl rfl ?_
        refine jr_iload 236 dX6_value_234 rfl rfl ?_
        refine jr_iconst (1) 237 dX6_value_236 rfl rfl ?_
        refine jr_iadd 238 dX6_value_237 rfl ?_
        refine jr_iald rfl (k := h0 + 1) (nI_1 h0) (by omega) 239 dX6_value_238 rfl ?_
        refine cs_X6_45 242 dX6_value_239 rfl rfl (Nat.le_of_ble_eq_true rfl) (wp_joined_15 ?_)
        refine jr_iast rfl (k := h0) rfl (by omega) 243 dX6_value_242 rfl ?_
        refine jr_iinc (v := nI (i + 1)) (L' := [_, _, _, _, _, _, _, _, _]) 246 dX6_value_243 rfl rfl (nI_1 i) (by decide) rfl ?_
        refine jr_goto 83 dX6_value_246 rfl ?_
        exact ih (i + 1) (h0 + 1) _ _ _ hc1 (by omega) hw2 (by omega) (nI_1 h0) (fun f => by have := hk f; rw [show ev (σ 11) (h0 + 2) (σ 4) (15 :: l) = ev (σ 11) (h0 + 1) (upd (σ 4) h0 (ev_two 15 (σ 4 h0) (σ 4 (h0 + 1)))) l from rfl] at this; rw [jr_upc_up]; exact this)
      · replace hc0 : σ 2 i = -15 := hc0
        refine jr_iload 85 dX6_value_83 rfl rfl ?_
        refine jr_iload 87 dX6_value_85 rfl rfl ?_
        refine jr_icmp_ge 249 90 dX6_value_87 rfl rfl (fun q => absurd q (nI_ge (by omega) (by omega))) (fun q87 => ?_)
        refine jr_iload 92 dX6_value_90 rfl rfl ?_
        refine jr_iconst (1) 93 dX6_value_92 rfl rfl ?_
        refine jr_iadd 94 dX6_value_93 rfl ?_
        rw [nI_1]
        refine jr_bipush (64) 96 dX6_value_94 rfl rfl ?_
        refine jr_icmp_ge 249 99 dX6_value_96 rfl rfl (fun q => absurd q (nI_ge (b := 64) (by omega) (by decide))) (fun q96 => ?_)
        refine jr_aload_n 0 100 dX6_value_99 rfl rfl rfl ?_
        refine gf_X6_9 103 dX6_value_100 rfl rfl rfl rfl ?_
        refine jr_iload 105 dX6_value_103 rfl rfl ?_
        refine jr_iale rfl rfl (by omega) hc0 106 dX6_value_105 rfl ?_
        refine jr_istore (L' := [_, _, _, _, _, _, _, _, _]) 108 dX6_value_106 rfl (by decide) rfl ?_
        refine jr_iload 110 dX6_value_108 rfl rfl ?_
        refine jr_bipush ((-6)) 112 dX6_value_110 rfl rfl ?_
        refine jr_icmp_lt 144 115 dX6_value_112 rfl rfl (fun q112 => ?_) (fun q => absurd (by decide) q)
        refine jr_iload 146 dX6_value_144 rfl rfl ?_
        refine jr_if_lt 206 149 dX6_value_146 rfl rfl (fun q => absurd q (nI_pos (by omega))) (fun q146 => ?_)
        refine jr_iload 151 dX6_value_149 rfl rfl ?_
        refine jr_bipush ((-9)) 153 dX6_value_151 rfl rfl ?_
        refine jr_icmp_eq 163 156 dX6_value_153 rfl rfl (fun q => absurd q (by decide)) (fun q153 => ?_)
        refine jr_iload 158 dX6_value_156 rfl rfl ?_
        refine jr_bipush ((-18)) 160 dX6_value_158 rfl rfl ?_
        refine jr_icmp_ne 206 163 dX6_value_160 rfl rfl (fun q160 => ?_) (fun q => absurd q (by decide))
        refine jr_iload 208 dX6_value_206 rfl rfl ?_
        refine jr_iconst (1) 209 dX6_value_208 rfl rfl ?_
        refine jr_icmp_lt 243 212 dX6_value_209 rfl rfl (fun q => absurd q (nI_nlt (b := 1) (by omega) (by omega))) (fun q209 => ?_)
        refine jr_iinc (v := nI h0) (L' := [_, _, _, _, _, _, _, _, _]) 215 dX6_value_212 rfl rfl (pk_m1 h0) (by decide) rfl ?_
        refine jr_aload_n 0 216 dX6_value_215 rfl rfl rfl ?_
        refine gf_X6_18 219 dX6_value_216 rfl rfl rfl rfl ?_
        refine jr_iload 221 dX6_value_219 rfl rfl ?_
        refine jr_iload 223 dX6_value_221 rfl rfl ?_
        refine jr_aload_n 0 224 dX6_value_223 rfl rfl rfl ?_
        refine gf_X6_18 227 dX6_value_224 rfl rfl rfl rfl ?_
        refine jr_iload 229 dX6_value_227 rfl rfl ?_
        refine jr_iald rfl (k := h0) rfl (by omega) 230 dX6_value_229 rfl ?_
        refine jr_aload_n 0 231 dX6_value_230 rfl rfl rfl ?_
        refine gf_X6_18 234 dX6_value_231 rfl rfl rfl rfl ?_
        refine jr_iload 236 dX6_value_234 rfl rfl ?_
        refine jr_iconst (1) 237 dX6_value_236 rfl rfl ?_
        refine jr_iadd 238 dX6_value_237 rfl ?_
        refine jr_iald rfl (k := h0 + 1) (nI_1 h0) (by omega) 239 dX6_value_238 rfl ?_
        refine cs_X6_45 242 dX6_value_239 rfl rfl (Nat.le_of_ble_eq_true rfl) (wp_joined_16 ?_)
        refine jr_iast rfl (k := h0) rfl (by omega) 243 dX6_value_242 rfl ?_
        refine jr_iinc (v := nI (i + 1)) (L' := [_, _, _, _, _, _, _, _, _]) 246 dX6_value_243 rfl rfl (nI_1 i) (by decide) rfl ?_
        refine jr_goto 83 dX6_value_246 rfl ?_
        exact ih (i + 1) (h0 + 1) _ _ _ hc1 (by omega) hw2 (by omega) (nI_1 h0) (fun f => by have := hk f; rw [show ev (σ 11) (h0 + 2) (σ 4) (16 :: l) = ev (σ 11) (h0 + 1) (upd (σ 4) h0 (ev_two 16 (σ 4 h0) (σ 4 (h0 + 1)))) l from rfl] at this; rw [jr_upc_up]; exact this)
      · replace hc0 : σ 2 i = -16 := hc0
        refine jr_iload 85 dX6_value_83 rfl rfl ?_
        refine jr_iload 87 dX6_value_85 rfl rfl ?_
        refine jr_icmp_ge 249 90 dX6_value_87 rfl rfl (fun q => absurd q (nI_ge (by omega) (by omega))) (fun q87 => ?_)
        refine jr_iload 92 dX6_value_90 rfl rfl ?_
        refine jr_iconst (1) 93 dX6_value_92 rfl rfl ?_
        refine jr_iadd 94 dX6_value_93 rfl ?_
        rw [nI_1]
        refine jr_bipush (64) 96 dX6_value_94 rfl rfl ?_
        refine jr_icmp_ge 249 99 dX6_value_96 rfl rfl (fun q => absurd q (nI_ge (b := 64) (by omega) (by decide))) (fun q96 => ?_)
        refine jr_aload_n 0 100 dX6_value_99 rfl rfl rfl ?_
        refine gf_X6_9 103 dX6_value_100 rfl rfl rfl rfl ?_
        refine jr_iload 105 dX6_value_103 rfl rfl ?_
        refine jr_iale rfl rfl (by omega) hc0 106 dX6_value_105 rfl ?_
        refine jr_istore (L' := [_, _, _, _, _, _, _, _, _]) 108 dX6_value_106 rfl (by decide) rfl ?_
        refine jr_iload 110 dX6_value_108 rfl rfl ?_
        refine jr_bipush ((-6)) 112 dX6_value_110 rfl rfl ?_
        refine jr_icmp_lt 144 115 dX6_value_112 rfl rfl (fun q112 => ?_) (fun q => absurd (by decide) q)
        refine jr_iload 146 dX6_value_144 rfl rfl ?_
        refine jr_if_lt 206 149 dX6_value_146 rfl rfl (fun q => absurd q (nI_pos (by omega))) (fun q146 => ?_)
        refine jr_iload 151 dX6_value_149 rfl rfl ?_
        refine jr_bipush ((-9)) 153 dX6_value_151 rfl rfl ?_
        refine jr_icmp_eq 163 156 dX6_value_153 rfl rfl (fun q => absurd q (by decide)) (fun q153 => ?_)
        refine jr_iload 158 dX6_value_156 rfl rfl ?_
        refine jr_bipush ((-18)) 160 dX6_value_158 rfl rfl ?_
        refine jr_icmp_ne 206 163 dX6_value_160 rfl rfl (fun q160 => ?_) (fun q => absurd q (by decide))
        refine jr_iload 208 dX6_value_206 rfl rfl ?_
        refine jr_iconst (1) 209 dX6_value_208 rfl rfl ?_
        refine jr_icmp_lt 243 212 dX6_value_209 rfl rfl (fun q => absurd q (nI_nlt (b := 1) (by omega) (by omega))) (fun q209 => ?_)
        refine jr_iinc (v := nI h0) (L' := [_, _, _, _, _, _, _, _, _]) 215 dX6_value_212 rfl rfl (pk_m1 h0) (by decide) rfl ?_
        refine jr_aload_n 0 216 dX6_value_215 rfl rfl rfl ?_
        refine gf_X6_18 219 dX6_value_216 rfl rfl rfl rfl ?_
        refine jr_iload 221 dX6_value_219 rfl rfl ?_
        refine jr_iload 223 dX6_value_221 rfl rfl ?_
        refine jr_aload_n 0 224 dX6_value_223 rfl rfl rfl ?_
        refine gf_X6_18 227 dX6_value_224 rfl rfl rfl rfl ?_
        refine jr_iload 229 dX6_value_227 rfl rfl ?_
        refine jr_iald rfl (k := h0) rfl (by omega) 230 dX6_value_229 rfl ?_
        refine jr_aload_n 0 231 dX6_value_230 rfl rfl rfl ?_
        refine gf_X6_18 234 dX6_value_231 rfl rfl rfl rfl ?_
        refine jr_iload 236 dX6_value_234 rfl rfl ?_
        refine jr_iconst (1) 237 dX6_value_236 rfl rfl ?_
        refine jr_iadd 238 dX6_value_237 rfl ?_
        refine jr_iald rfl (k := h0 + 1) (nI_1 h0) (by omega) 239 dX6_value_238 rfl ?_
        refine cs_X6_45 242 dX6_value_239 rfl rfl (Nat.le_of_ble_eq_true rfl) (wp_joined_17 ?_)
        refine jr_iast rfl (k := h0) rfl (by omega) 243 dX6_value_242 rfl ?_
        refine jr_iinc (v := nI (i + 1)) (L' := [_, _, _, _, _, _, _, _, _]) 246 dX6_value_243 rfl rfl (nI_1 i) (by decide) rfl ?_
        refine jr_goto 83 dX6_value_246 rfl ?_
        exact ih (i + 1) (h0 + 1) _ _ _ hc1 (by omega) hw2 (by omega) (nI_1 h0) (fun f => by have := hk f; rw [show ev (σ 11) (h0 + 2) (σ 4) (17 :: l) = ev (σ 11) (h0 + 1) (upd (σ 4) h0 (ev_two 17 (σ 4 h0) (σ 4 (h0 + 1)))) l from rfl] at this; rw [jr_upc_up]; exact this)
      · replace hc0 : σ 2 i = -17 := hc0
        refine jr_iload 85 dX6_value_83 rfl rfl ?_
        refine jr_iload 87 dX6_value_85 rfl rfl ?_
        refine jr_icmp_ge 249 90 dX6_value_87 rfl rfl (fun q => absurd q (nI_ge (by omega) (by omega))) (fun q87 => ?_)
        refine jr_iload 92 dX6_value_90 rfl rfl ?_
        refine jr_iconst (1) 93 dX6_value_92 rfl rfl ?_
        refine jr_iadd 94 dX6_value_93 rfl ?_
        rw [nI_1]
        refine jr_bipush (64) 96 dX6_value_94 rfl rfl ?_
        refine jr_icmp_ge 249 99 dX6_value_96 rfl rfl (fun q => absurd q (nI_ge (b := 64) (by omega) (by decide))) (fun q96 => ?_)
        refine jr_aload_n 0 100 dX6_value_99 rfl rfl rfl ?_
        refine gf_X6_9 103 dX6_value_100 rfl rfl rfl rfl ?_
        refine jr_iload 105 dX6_value_103 rfl rfl ?_
        refine jr_iale rfl rfl (by omega) hc0 106 dX6_value_105 rfl ?_
        refine jr_istore (L' := [_, _, _, _, _, _, _, _, _]) 108 dX6_value_106 rfl (by decide) rfl ?_
        refine jr_iload 110 dX6_value_108 rfl rfl ?_
        refine jr_bipush ((-6)) 112 dX6_value_110 rfl rfl ?_
        refine jr_icmp_lt 144 115 dX6_value_112 rfl rfl (fun q112 => ?_) (fun q => absurd (by decide) q)
        refine jr_iload 146 dX6_value_144 rfl rfl ?_
        refine jr_if_lt 206 149 dX6_value_146 rfl rfl (fun q => absurd q (nI_pos (by omega))) (fun q146 => ?_)
        refine jr_iload 151 dX6_value_149 rfl rfl ?_
        refine jr_bipush ((-9)) 153 dX6_value_151 rfl rfl ?_
        refine jr_icmp_eq 163 156 dX6_value_153 rfl rfl (fun q => absurd q (by decide)) (fun q153 => ?_)
        refine jr_iload 158 dX6_value_156 rfl rfl ?_
        refine jr_bipush ((-18)) 160 dX6_value_158 rfl rfl ?_
        refine jr_icmp_ne 206 163 dX6_value_160 rfl rfl (fun q160 => ?_) (fun q => absurd q (by decide))
        refine jr_iload 208 dX6_value_206 rfl rfl ?_
        refine jr_iconst (1) 209 dX6_value_208 rfl rfl ?_
        refine jr_icmp_lt 243 212 dX6_value_209 rfl rfl (fun q => absurd q (nI_nlt (b := 1) (by omega) (by omega))) (fun q209 => ?_)
        refine jr_iinc (v := nI h0) (L' := [_, _, _, _, _, _, _, _, _]) 215 dX6_value_212 rfl rfl (pk_m1 h0) (by decide) rfl ?_
        refine jr_aload_n 0 216 dX6_value_215 rfl rfl rfl ?_
        refine gf_X6_18 219 dX6_value_216 rfl rfl rfl rfl ?_
        refine jr_iload 221 dX6_value_219 rfl rfl ?_
        refine jr_iload 223 dX6_value_221 rfl rfl ?_
        refine jr_aload_n 0 224 dX6_value_223 rfl rfl rfl ?_
        refine gf_X6_18 227 dX6_value_224 rfl rfl rfl rfl ?_
        refine jr_iload 229 dX6_value_227 rfl rfl ?_
        refine jr_iald rfl (k := h0) rfl (by omega) 230 dX6_value_229 rfl ?_
        refine jr_aload_n 0 231 dX6_value_230 rfl rfl rfl ?_
        refine gf_X6_18 234 dX6_value_231 rfl rfl rfl rfl ?_
        refine jr_iload 236 dX6_value_234 rfl rfl ?_
        refine jr_iconst (1) 237 dX6_value_236 rfl rfl ?_
        refine jr_iadd 238 dX6_value_237 rfl ?_
        refine jr_iald rfl (k := h0 + 1) (nI_1 h0) (by omega) 239 dX6_value_238 rfl ?_
        refine cs_X6_45 242 dX6_value_239 rfl rfl (Nat.le_of_ble_eq_true rfl) (wp_joined_18 ?_)
        refine jr_iast rfl (k := h0) rfl (by omega) 243 dX6_value_242 rfl ?_
        refine jr_iinc (v := nI (i + 1)) (L' := [_, _, _, _, _, _, _, _, _]) 246 dX6_value_243 rfl rfl (nI_1 i) (by decide) rfl ?_
        refine jr_goto 83 dX6_value_246 rfl ?_
        exact ih (i + 1) (h0 + 1) _ _ _ hc1 (by omega) hw2 (by omega) (nI_1 h0) (fun f => by have := hk f; rw [show ev (σ 11) (h0 + 2) (σ 4) (18 :: l) = ev (σ 11) (h0 + 1) (upd (σ 4) h0 (ev_two 18 (σ 4 h0) (σ 4 (h0 + 1)))) l from rfl] at this; rw [jr_upc_up]; exact this)

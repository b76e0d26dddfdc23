def nw_L : List Cond := flatC (Jvm.Cond.and given_1 narrow_1)
def nw_p : List Nat := [18, 92, 103, 116, 128, 142, 155, 169, 182, 197, 213, 232, 252, 273]
def nw_s : List Nat := [309, 391, 392, 393, 394, 395, 396, 397, 398, 399, 400, 401, 402, 403]
def nw_t (i : Nat) : Term := .string (jr_str.getD i ("", 0, "")).1 (jr_str.getD i ("", 0, "")).2.1
theorem nw_1 : ∀ i : Fin 14, nw_L[nw_p.getD i.val 0]? = some (.exactly (nw_t i.val) "java/lang/String") ∧ nw_L[nw_p.getD i.val 0 + 1]? = some (.eq (.field (nw_t i.val) "java/lang/String" "coder" "B") (.int 0)) ∧ nw_L[nw_p.getD i.val 0 + 2]? = some (.arrayOf (.field (nw_t i.val) "java/lang/String" "value" "[B") .byte) ∧ nw_L[nw_p.getD i.val 0 + 3]? = some (.eq (.length (.field (nw_t i.val) "java/lang/String" "value" "[B")) (.int (Int32.ofNat (jr_len.getD i.val 0)))) := by decide +kernel
theorem nw_2 : ∀ i : Fin 14, ∀ j : Fin 70, j.val < jr_len.getD i.val 0 → nw_L[nw_p.getD i.val 0 + 4 + j.val]? = some (.eq (.elem (.field (nw_t i.val) "java/lang/String" "value" "[B") (.int (Int32.ofNat j.val))) (.int ((jr_byt.getD i.val []).getD j.val 0))) := by decide +kernel
theorem nw_3 : ∀ i : Fin 14, ∀ j : Fin 14, j.val < i.val → nw_L[nw_p.getD i.val 0 + 4 + jr_len.getD i.val 0 + j.val]? = some (.not (.eq (nw_t j.val) (nw_t i.val))) := by decide +kernel
theorem nw_4 : ∀ i : Fin 14, lw_tbl[nw_s.getD i.val 0]? = some (.stringRef (jr_str.getD i.val ("", 0, "")).1 (jr_str.getD i.val ("", 0, "")).2.1 (jr_str.getD i.val ("", 0, "")).2.2) := by decide +kernel
theorem nw_5 : ∀ j : Fin 6, nw_L[12 + j.val]? = some (.eq (.elem (.static "GoneRed$Kind" "ABOVE" "[I") (.int (Int32.ofNat j.val))) (.int (jr_abv.getD j.val 0))) := by decide +kernel
theorem lw_facts {args : Array Value} {s : State} {A : Nat → Prop} (b : Nat) (hts : ∀ w ∈ lw_tbl, w.before args s = true) (hgv : (Jvm.Cond.and given_1 narrow_1).before args s = true) (hA : ∀ a : Nat, a < s.heap.size → ¬ A a) : ∃ ad : Nat → Nat, jz_ZT ad s ∧ jz_ZH ad A s s.heap ∧ ad 1400 = b := by
  have hs : ∀ c ∈ nw_L, c.before args s = true := flat_of_before _ hgv
  have g : ∀ (i : Nat) (c : Cond), nw_L[i]? = some c → c.before args s = true := fun i c h => hs c (List.mem_of_getElem? h)
  obtain ⟨adK, adV, hS, hev⟩ := vk_Sof (args := args) (s := s) (N := 14) (tm := nw_t) (len := jr_len) (byt := jr_byt) (A := A) (fun i hi => by
      have h : ∀ i : Fin 14, jr_len.getD i.val 0 < 2 ^ 31 := by decide +kernel
      exact h ⟨i, hi⟩) (fun i hi => g _ _ (nw_1 ⟨i, hi⟩).1) (fun i hi => g _ _ (nw_1 ⟨i, hi⟩).2.1) (fun i hi => g _ _ (nw_1 ⟨i, hi⟩).2.2.1) (fun i hi => g _ _ (nw_1 ⟨i, hi⟩).2.2.2)
    (fun i hi j hj => by
      have h70 : ∀ i : Fin 14, jr_len.getD i.val 0 ≤ 70 := by decide +kernel
      have h1 := h70 ⟨i, hi⟩
      exact g _ _ (nw_2 ⟨i, hi⟩ ⟨j, Nat.lt_of_lt_of_le hj h1⟩ hj))
    (fun i j hi hj hij => by
      rcases Nat.lt_or_gt_of_ne hij with z | z
      · exact Or.inl (g _ _ (nw_3 ⟨j, hj⟩ ⟨i, hi⟩ z))
      · exact Or.inr (g _ _ (nw_3 ⟨i, hi⟩ ⟨j, hj⟩ z))) hA
  obtain ⟨t, ht, hT⟩ := va_Tof (args := args) (s := s) (tm := .static "GoneRed$Kind" "ABOVE" "[I") (ty := .int) (N := 6) (f := fun j => .int (jr_abv.getD j 0)) (A := A) (by decide) (hs _ (List.mem_of_getElem? (i := 10) (by decide +kernel))) (va_eqt (z := 6) (hs _ (List.mem_of_getElem? (i := 11) (by decide +kernel)))) (fun j hj => va_eqt (g _ _ (nw_5 ⟨j, hj⟩))) hA
  have hZab : va_Z "GoneRed$Kind" "ABOVE" "[I" (.ref t) A s s.heap := va_Zref (hts _ (List.mem_of_getElem? (i := 617) (by decide +kernel))) (hts _ (List.mem_of_getElem? (i := 91) (by decide +kernel))) ht hA
  have hZcs : va_Z "java/lang/String" "COMPACT_STRINGS" "Z" (.int 1) A s s.heap := va_Zof (hts _ (List.mem_of_getElem? (i := 319) (by decide +kernel))) (hts _ (List.mem_of_getElem? (i := 84) (by decide +kernel))) (va_eqi (hs _ (List.mem_of_getElem? (i := 4) (by decide +kernel)))) hA
  obtain ⟨q, hZsi⟩ : ∃ q : Nat, va_Z "jdk/internal/util/Preconditions" "SIOOBE_FORMATTER" "Ljava/util/function/BiFunction;" .null A s s.heap ∨ va_Z "jdk/internal/util/Preconditions" "SIOOBE_FORMATTER" "Ljava/util/function/BiFunction;" (.ref q) A s s.heap := by
    rcases va_Zqof (args := args) (C := "jdk/internal/util/Preconditions") (n := "SIOOBE_FORMATTER") (d := "Ljava/util/function/BiFunction;") (hts _ (List.mem_of_getElem? (i := 335) (by decide +kernel))) (hts _ (List.mem_of_getElem? (i := 86) (by decide +kernel))) (hs _ (List.mem_of_getElem? (i := 5) (by decide +kernel))) hA with z | ⟨q, z⟩
    · exact ⟨0, Or.inl z⟩
    · exact ⟨q, Or.inr z⟩
  refine ⟨fun i => if i < 1100 then adK (i - 1000) else if i < 1200 then adV (i - 1100) else if i = 1200 then t else if i = 1300 then q else b, ⟨fun i hi => ?_, va_Nw.of rfl (hts _ (List.mem_of_getElem? (i := 591) (by decide +kernel)))⟩, ⟨⟨fun i hi => ?_, fun i j hi hj e => ?_⟩, hZab, hT, hZcs, hZsi⟩, rfl⟩
  · simp only
    rw [if_pos (by omega), Nat.add_sub_cancel_left]
    refine vk_R.of (A := args) (U := s) (hts _ (List.mem_of_getElem? (nw_4 ⟨i, hi⟩))) (hev i hi)
  · simp only
    rw [if_pos (by omega), Nat.add_sub_cancel_left, if_neg (by omega), if_pos (by omega), Nat.add_sub_cancel_left]
    exact hS.1 i hi
  · simp only at e
    rw [if_pos (by omega), Nat.add_sub_cancel_left, if_pos (by omega), Nat.add_sub_cancel_left] at e
    exact hS.2 i j hi hj e
theorem lw_jnX {args : Array Value} {s : State} (hts : ∀ w ∈ lw_tbl, w.before args s = true) : jn_X s := ⟨va_Nw.of rfl (hts _ (List.mem_of_getElem? (i := 104) (by decide +kernel))), va_Nw.of rfl (hts _ (List.mem_of_getElem? (i := 159) (by decide +kernel))), va_Nw.of rfl (hts _ (List.mem_of_getElem? (i := 202) (by decide +kernel))), va_Nw.of rfl (hts _ (List.mem_of_getElem? (i := 237) (by decide +kernel))), va_Nw.of rfl (hts _ (List.mem_of_getElem? (i := 293) (by decide +kernel)))⟩
theorem jc_E.blind {D : va_G} {I : ClassId} {ad : Nat → Nat} {A0 : Nat → Prop} {a sz : Nat} {ws : va_W} {av : List Value} : FrameBlind (va_Pc av (fun U => U.heap.size = sz ∧ (jn_X U ∧ jc_E ad A0 a U) ∧ va_K D vwCl [(I, .int)] U ∧ va_P D vwCl ws U.heap ∧ va_D (fun _ => True) ws)) := by
  intro a' U g mk q
  obtain ⟨q0, q1, ⟨q2, q5, q6, q7⟩, q3, q4⟩ := q
  exact ⟨q0, q1, ⟨jn_X.same (U := U.calling g mk a') rfl q2, jz_ZT.same (U := U.calling g mk a') rfl q5, jz_ZH.moved (u := U) (U := U.calling g mk a') (Vm.Alike.refl U.vm) q6, q7⟩, va_K.moved (u := U) (U := U.calling g mk a') (Vm.Alike.refl U.vm) q3, q4⟩
theorem jl_call {p : Program} {l : Launch} {e : Env} {rm : Room} {s : State} {m : MethodId} {args : Array Value} {below : List Frame} {meth : Method} {c : Code} {H : Heap} {locs : List Loc} {ls : Array Slot} {nc ns : Nat} {Q : State → Prop} {D : va_G} {I : ClassId} {ad : Nat → Nat} {A : Nat → Prop} {ws : va_W} {y : jr_MI} {idx a mc' ms' pc : Nat} {rm' : Room} {rest : List Value} {B' : va_W → Prop}
    (hx : p.tables.exec = Jvm.exec) (hb : c.code = cL_law) (hml : c.maxLocals = 4) (hown : s.vm.findClass RL = some m.cls) (hts : ∀ w ∈ jr_WL, w.before args s = true) (hX : jn_X s) (hK : va_K D vwCl [(I, .int)] s) (hZT : jz_ZT ad s) (hZH : jz_ZH ad A s s.heap) (hP : va_P D vwCl ws H) (hD : va_D A ws) (hS : va_S A s.heap H locs) (hA : ∀ q : Nat, s.heap.size ≤ q → A q) (hls : ls.size = 4)
    (ok : jn_okI RL idx y 0) (hst : (rest.map fun v => v.category).sum ≤ 8) (hdg : decode cL_law pc = .ok (.invokespecial idx, 3)) (hrc : rm'.cells = mc') (hrs : rm'.slots = ms') (hR : rm'.frames + 1 ≤ rm.frames ∧ 8 + (y.2.2.1 + 11) + rm'.locals ≤ rm.locals) (hf : nc + mc' ≤ rm.cells ∧ ns + ms' ≤ rm.slots) (hAa : A a) (hM : jn_ME D I (jc_E ad A a) y rm' mc' ms' ws [.ref a] B')
    (kk : ∀ (ws' : va_W) (H1 : Heap) (locs1 : List Loc), B' ws' → va_P D vwCl ws' H1 → va_D A ws' → va_S A s.heap H1 locs1 → W p l e rm s m args below meth c H1 locs1 (nc + mc') (ns + ms') Q (F0 m (pc + 3) ls rest)) : W p l e rm s m args below meth c H locs nc ns Q (F0 m pc ls (.ref a :: rest)) := by
  obtain ⟨o1, o2, o3, o4, o5, o6, o7⟩ := ok
  have hG : GoodIn jr_WL (jr_wsM y) := jr_goodIn o4
  have hF : ∀ q, va_A ws H.size q → A q := fun q hq => by
    rcases hq with ⟨k, e, h⟩ | h
    · exact hD.2 k (q, e) h
    · exact hA q (Nat.le_trans hS.1 h)
  have hrun := va_runI (p := p) (l := l) (e := e) (R := rm) (below := below) (meth := meth) (H := H) (locs := locs) (cells := nc) (slots := ns) (g := F0 m pc ls (.ref a :: rest)) (As := []) (rest := rest) ⟨hx, hb, hml, hown, hts⟩ (hM l H.size) ⟨callB_of 0 hts hG (by rw [← o7]; rfl) hrc hrs (hts _ o3) (hts _ o1) o5 hR, o6, hts _ o2⟩
    ⟨jc_E.blind, fun U hU hW => ⟨rfl, by rw [hU], ⟨hX.warm hW, hZT.warm hW, by rw [hU]; exact (hZH.kept hS.2.1).moved hW.alike, hAa, fun q hq => hA q (Nat.le_trans hS.1 (by rw [← hU]; exact hq))⟩, va_K.moved hW.alike hK, by rw [hU]; exact hP, hD.weaken (fun _ _ _ _ => trivial)⟩⟩ rfl rfl hls rfl (lv_room hst) hdg hf
  intro T hT X
  obtain ⟨v, st₀, t, T', L1, h0, X', hL1, e1, e2, ⟨⟨hv, ws', hB', hP', hD'⟩, hz, hk⟩, st'⟩ := hrun T hT X
  cases hv
  rw [h0] at hz hk
  have hS1 : va_S A s.heap T'.heap (locs ++ L1) := ⟨Nat.le_trans hS.1 (by rw [e1]; exact hz), fun q h1 h2 => by rw [e1, hk q (Nat.lt_of_lt_of_le h1 hS.1) (fun z => h2 (hF q z))]; exact hS.2.1 q h1 h2, fun q hq => by
    rcases List.mem_append.mp hq with h | h
    · exact hS.2.2 q h
    · exact hF _ (hL1 q h)⟩
  obtain ⟨t2, a1, b1⟩ := kk ws' T'.heap (locs ++ L1) hB' (by rw [e1]; exact hP') (hD'.weaken (fun k q _ h => hF q.1 h)) hS1 T' rfl X'
  exact ⟨t2, st' t2 a1, b1⟩
theorem lw_K {args : Array Value} {s : State} (hts : ∀ w ∈ jr_WL, w.before args s = true) : ∃ (D : va_G) (I : ClassId), va_K D vwCl [(I, .int)] s := by
  obtain ⟨I, kA, comp, hfind, hk, hkind⟩ := Cond.arrayClass_spec (hts _ jn_ac)
  obtain ⟨c0, i0, h0⟩ := u_known (C := RX1) (T := TX1) (N := 1) (n := 1) hts lay_X1 (hts _ ib_X1)
  obtain ⟨c1, i1, h1⟩ := u_known (C := RX2) (T := TX2) (N := 8) (n := 8) hts lay_X2 (hts _ ib_X2)
  obtain ⟨c2, i2, h2⟩ := u_known (C := RX3) (T := TX3) (N := 11) (n := 11) hts lay_X3 (hts _ ib_X3)
  obtain ⟨c3, i3, h3⟩ := u_known (C := RX4) (T := TX4) (N := 7) (n := 7) hts lay_X4 (hts _ ib_X4)
  obtain ⟨c4, i4, h4⟩ := u_known (C := RX5) (T := TX5) (N := 3) (n := 3) hts lay_X5 (hts _ ib_X5)
  obtain ⟨c5, i5, h5⟩ := u_known (C := RX6) (T := TX6) (N := 5) (n := 5) hts lay_X6 (hts _ ib_X6)
  obtain ⟨c6, i6, h6⟩ := u_known (C := RX7) (T := TX7) (N := 10) (n := 10) hts lay_X7 (hts _ ib_X7)
  obtain ⟨c7, i7, h7⟩ := u_known (C := RX9) (T := TX9) (N := 9) (n := 9) hts lay_X9 (hts _ ib_X9)
  obtain ⟨c8, i8, h8⟩ := u_known (C := RX10) (T := TX10) (N := 49) (n := 49) hts lay_X10 (hts _ ib_X10)
  refine ⟨(fun k => if k = 0 then c0 else if k = 1 then c1 else if k = 2 then c2 else if k = 3 then c3 else if k = 4 then c4 else if k = 5 then c5 else if k = 6 then c6 else if k = 7 then c7 else c8, fun k => if k = 0 then i0 else if k = 1 then i1 else if k = 2 then i2 else if k = 3 then i3 else if k = 4 then i4 else if k = 5 then i5 else if k = 6 then i6 else if k = 7 then i7 else i8), I, fun k q hq => ?_, fun k q hq => ?_⟩
  · have hk9 : k < 9 := (List.getElem?_eq_some_iff.mp hq).1
    rcases (by omega : k = 0 ∨ k = 1 ∨ k = 2 ∨ k = 3 ∨ k = 4 ∨ k = 5 ∨ k = 6 ∨ k = 7 ∨ k = 8) with rfl | rfl | rfl | rfl | rfl | rfl | rfl | rfl | rfl
    · cases hq
      exact h0
    · cases hq
      exact h1
    · cases hq
      exact h2
    · cases hq
      exact h3
    · cases hq
      exact h4
    · cases hq
      exact h5
    · cases hq
      exact h6
    · cases hq
      exact h7
    · cases hq
      exact h8
  · have hk1 : k < 1 := (List.getElem?_eq_some_iff.mp hq).1
    have k0 : k = 0 := by omega
    subst k0
    cases hq
    exact ⟨fun n z => ⟨fun k h => (by cases h), kA, hk, comp, hkind⟩, hfind⟩

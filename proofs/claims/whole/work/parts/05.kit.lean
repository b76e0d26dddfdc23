/-! ONE WORLD for the class and the reference. The cells by number:
  0 x 0:texts 1:reader 2:twist 3:seconds 4:now 5:thought 6:kept 7:sheets 8:hasImage
  1 texts 0:codes 1:ends 2:stack 3:written 4:held
  2 texts.codes int[960]
  3 texts.ends int[18]
  4 texts.stack int[64]
  5 reader 0:texts 1:bytes 2:size 3:token 4:number 5:begin 6:behind 7:fault
  6 reader.bytes int[160]
  7 twist 0:stopFace 1:stopWhich 2:stopAt 3:blindOne 4:blindTo 5:causeFace 6:causeAt 7:causeMuch 8:lotAt 9:lotMuch
  8 twist.lotAt int[5]
  9 seconds 0:names 1:texts 2:twist 3:warmth 4:looked 5:redFrom 6:faces
  10 names 0:values
  11 names.values int[6]
  12 seconds.warmth int[205]
  13 seconds.looked int[205]
  14 seconds.redFrom int[5]
  15 now 0:kind 1:more 2:warmth 3:seat 4:light 5:causeSecond 6:causeFace 7:causeMuch 8:faces 9:causes 10:law
  16 now.kind int[5]
  17 now.more int[5]
  18 now.warmth int[5]
  19 now.seat int[5]
  20 now.light int[8]
  21 now.causeSecond int[8]
  22 now.causeFace int[8]
  23 now.causeMuch int[8]
  24 thought 0:kind 1:more 2:warmth 3:seat 4:light 5:causeSecond 6:causeFace 7:causeMuch 8:faces 9:causes 10:law
  25 thought.kind int[5]
  26 thought.more int[5]
  27 thought.warmth int[5]
  28 thought.seat int[5]
  29 thought.light int[8]
  30 thought.causeSecond int[8]
  31 thought.causeFace int[8]
  32 thought.causeMuch int[8]
  33 kept 0:kind 1:more 2:warmth 3:seat 4:light 5:causeSecond 6:causeFace 7:causeMuch 8:faces 9:causes 10:law
  34 kept.kind int[5]
  35 kept.more int[5]
  36 kept.warmth int[5]
  37 kept.seat int[5]
  38 kept.light int[8]
  39 kept.causeSecond int[8]
  40 kept.causeFace int[8]
  41 kept.causeMuch int[8]
  42 sheets 0:sort 1:size 2:cells
  43 sheets.sort int[4]
  44 sheets.size int[4]
  45 sheets.cells int[160]
  46 m 0:light 1:faces 2:kind 3:moreOf 4:warmth 5:seat 6:causes 7:causeOf 8:tape 9:taped 10:codes 11:starts 12:texts 13:rule 14:hasImage 15:imageFaces 16:imageCauses 17:imageRule 18:imageRows 19:sheetSort 20:sheetSize 21:cells 22:law 23:at 24:begun 25:token 26:value 27:words 28:held 29:heldMany 30:opens 31:out 32:stack 33:named 34:now 35:ahead 36:looked 37:lookedAhead 38:behind 39:stopper 40:stopHow 41:stopAt 42:blind 43:unseen 44:extra 45:extraAt 46:lotMuch 47:lotAt 48:keptSeat
  47 m.light int[8]
  48 m.kind int[5]
  49 m.moreOf int[5]
  50 m.warmth int[5]
  51 m.seat int[5]
  52 m.causeOf int[24]
  53 m.tape int[160]
  54 m.codes int[1200]
  55 m.starts int[24]
  56 m.imageRows int[42]
  57 m.sheetSort int[4]
  58 m.sheetSize int[4]
  59 m.cells int[160]
  60 m.law int[70]
  61 m.words int[96]
  62 m.held int[200]
  63 m.stack int[200]
  64 m.named int[6]
  65 m.now int[5]
  66 m.ahead int[5]
  67 m.looked int[5]
  68 m.lookedAhead int[5]
  69 m.behind int[200]
  70 m.extra int[5]
  71 m.lotAt int[5]
  72 m.keptSeat int[5]
-/
abbrev jr_Sg : Type := Nat → Nat → Int32
abbrev jr_G : Type := va_G × (ClassId × (Nat → Nat))
abbrev jr_C : Type := Nat ⊕ (Nat × List (Option Nat))
def jr_shp : List jr_C := [.inr (7, [some 1, some 5, some 7, some 9, some 15, some 24, some 33, some 42, none]), .inr (5, [some 2, some 3, some 4, none, none]), .inl 960, .inl 18, .inl 64, .inr (1, [some 1, some 6, none, none, none, none, none, none]), .inl 160, .inr (6, [none, none, none, none, none, none, none, none, some 8, none]), .inl 5, .inr (3, [some 10, some 1, some 7, some 12, some 13, some 14, none]), .inr (0, [some 11]), .inl 6, .inl 205, .inl 205, .inl 5, .inr (2, [some 16, some 17, some 18, some 19, some 20, some 21, some 22, some 23, none, none, none]), .inl 5, .inl 5, .inl 5, .inl 5, .inl 8, .inl 8, .inl 8, .inl 8, .inr (2, [some 25, some 26, some 27, some 28, some 29, some 30, some 31, some 32, none, none, none]), .inl 5, .inl 5, .inl 5, .inl 5, .inl 8, .inl 8, .inl 8, .inl 8, .inr (2, [some 34, some 35, some 36, some 37, some 38, some 39, some 40, some 41, none, none, none]), .inl 5, .inl 5, .inl 5, .inl 5, .inl 8, .inl 8, .inl 8, .inl 8, .inr (4, [some 43, some 44, some 45]), .inl 4, .inl 4, .inl 160, .inr (8, [some 47, none, some 48, some 49, some 50, some 51, none, some 52, some 53, none, some 54, some 55, none, none, none, none, none, none, some 56, some 57, some 58, some 59, some 60, none, none, none, none, some 61, some 62, none, none, none, some 63, some 64, some 65, some 66, some 67, some 68, some 69, none, none, none, none, none, some 70, none, none, some 71, some 72]), .inl 8, .inl 5, .inl 5, .inl 5, .inl 5, .inl 24, .inl 160, .inl 1200, .inl 24, .inl 42, .inl 4, .inl 4, .inl 160, .inl 70, .inl 96, .inl 200, .inl 200, .inl 6, .inl 5, .inl 5, .inl 5, .inl 5, .inl 200, .inl 5, .inl 5, .inl 5]
def jr_N : Nat := 73
theorem jr_N_eq : jr_shp.length = jr_N := by decide +kernel
def jr_str : List (String × (Nat × String)) := [(RX9, (65, "warms glances * 4 + seen * 3 ; cools 3 ; looks seen or second < more ;")), (RX8, (9, "warmth")), (RX8, (11, "glances")), (RX8, (13, "light")), (RX8, (15, "second")), (RX8, (17, "seen")), (RX8, (19, "more")), (RX8, (21, "o\x72")), (RX8, (23, "and")), (RX8, (25, "not")), (RX8, (27, "warms")), (RX8, (29, "cools")), (RX8, (31, "looks")), (RX8, (33, ""))]
def jr_len : List Nat := [70, 6, 7, 5, 6, 4, 4, 2, 3, 3, 5, 5, 5, 0]
def jr_byt : List (List Int32) := [[119, 97, 114, 109, 115, 32, 103, 108, 97, 110, 99, 101, 115, 32, 42, 32, 52, 32, 43, 32, 115, 101, 101, 110, 32, 42, 32, 51, 32, 59, 32, 99, 111, 111, 108, 115, 32, 51, 32, 59, 32, 108, 111, 111, 107, 115, 32, 115, 101, 101, 110, 32, 111, 114, 32, 115, 101, 99, 111, 110, 100, 32, 60, 32, 109, 111, 114, 101, 32, 59], [119, 97, 114, 109, 116, 104], [103, 108, 97, 110, 99, 101, 115], [108, 105, 103, 104, 116], [115, 101, 99, 111, 110, 100], [115, 101, 101, 110], [109, 111, 114, 101], [111, 114], [97, 110, 100], [110, 111, 116], [119, 97, 114, 109, 115], [99, 111, 111, 108, 115], [108, 111, 111, 107, 115], []]
/-- an abstract value: a reference is a cell's number -/
def jr_v (ad : Nat → Nat) (v : Value) : Value := match v with
  | .ref i => .ref (ad i)
  | w => w
def jr_fv (ad : Nat → Nat) (x : Int32) (o : Option Nat) : Value := match o with
  | some j => .ref (ad j)
  | none => .int x
def jr_cell (G : jr_G) (f : Nat → Int32) (c : jr_C) : va_E := match c with
  | .inl n => .inl (G.2.1, (n, .inl f))
  | .inr r => .inr (r.1, r.2.mapIdx (fun k o => jr_fv G.2.2 (f k) o))
def jr_ws (G : jr_G) (σ : jr_Sg) : va_W := jr_shp.mapIdx (fun i c => (G.2.2 i, jr_cell G (σ i) c))
def jr_up (σ : jr_Sg) (i k : Nat) (v : Int32) : jr_Sg := fun a => if a = i then upd (σ i) k v else σ a
def jr_upc (σ : jr_Sg) (i : Nat) (f : Nat → Int32) : jr_Sg := fun a => if a = i then f else σ a
theorem jr_up_upc (σ : jr_Sg) (i k : Nat) (v : Int32) : jr_up σ i k v = jr_upc σ i (upd (σ i) k v) := rfl
theorem jr_ws_get {G : jr_G} {σ : jr_Sg} {i : Nat} {c : jr_C} (h : jr_shp[i]? = some c) : (jr_ws G σ)[i]? = some (G.2.2 i, jr_cell G (σ i) c) := by
  simp [jr_ws, List.getElem?_mapIdx, h]
theorem jr_ws_set {G : jr_G} {σ : jr_Sg} {i : Nat} {c : jr_C} (f : Nat → Int32) (h : jr_shp[i]? = some c) : (jr_ws G σ).set i (G.2.2 i, jr_cell G f c) = jr_ws G (jr_upc σ i f) := by
  apply List.ext_getElem?
  intro k
  have hlt : i < jr_shp.length := (List.getElem?_eq_some_iff.mp h).1
  by_cases hk : k = i
  · subst hk
    rw [List.getElem?_set_self (by simpa [jr_ws] using hlt), jr_ws_get h]
    simp [jr_upc]
  · rw [List.getElem?_set_ne (fun e => hk e.symm)]
    simp [jr_ws, List.getElem?_mapIdx, jr_upc, hk]
theorem jr_fs_set {ad : Nat → Nat} {f : Nat → Int32} {fl : List (Option Nat)} {k : Nat} (v : Int32) (h : fl[k]? = some none) : (fl.mapIdx (fun k o => jr_fv ad (f k) o)).set k (.int v) = fl.mapIdx (fun k2 o => jr_fv ad (upd f k v k2) o) := by
  apply List.ext_getElem?
  intro j
  have hlt : k < fl.length := (List.getElem?_eq_some_iff.mp h).1
  by_cases hj : j = k
  · subst hj
    rw [List.getElem?_set_self (by simpa using hlt)]
    simp [List.getElem?_mapIdx, h, jr_fv, upd]
  · rw [List.getElem?_set_ne (fun e => hj e.symm)]
    simp [List.getElem?_mapIdx, upd, hj]
def jr_A (G : jr_G) : Nat → Prop := fun q => ∃ i, i < jr_N ∧ q = G.2.2 i
def jr_D (G : jr_G) : Prop := ∀ i j : Nat, i < jr_N → j < jr_N → G.2.2 i = G.2.2 j → i = j
theorem jr_ws_some {G : jr_G} {σ : jr_Sg} {k : Nat} {q : Nat × va_E} (h : (jr_ws G σ)[k]? = some q) : k < jr_N ∧ q.1 = G.2.2 k := by
  have hlt : k < (jr_ws G σ).length := (List.getElem?_eq_some_iff.mp h).1
  have hl : k < jr_shp.length := by simpa [jr_ws] using hlt
  rw [jr_ws_get (c := jr_shp[k]) (by simp [hl])] at h
  rw [jr_N_eq] at hl
  exact ⟨hl, by rw [← Option.some.inj h]⟩
theorem jr_vaD {G : jr_G} {σ : jr_Sg} (h : jr_D G) : va_D (jr_A G) (jr_ws G σ) := by
  refine ⟨fun i j p q hi hj e => ?_, fun k q hk => ?_⟩
  · obtain ⟨h1, h2⟩ := jr_ws_some hi
    obtain ⟨h3, h4⟩ := jr_ws_some hj
    exact h i j h1 h3 (by rw [← h2, ← h4]; exact e)
  · obtain ⟨h1, h2⟩ := jr_ws_some hk
    exact ⟨k, h1, h2⟩
-- what nobody writes: the String constants, the static row, by their places in the address map
def jr_abv : List Int32 := [-1, 0, 0, 1, 2, 0]
def jr_ZH (G : jr_G) (U : State) (H : Heap) : Prop :=
  vk_S 14 jr_len jr_byt (fun i => G.2.2 (1000 + i)) (fun i => G.2.2 (1100 + i)) (jr_A G) U H ∧
  va_Z "GoneRed$Kind" "ABOVE" "[I" (.ref (G.2.2 1200)) (jr_A G) U H ∧
  va_T .int (G.2.2 1200) 6 (fun j => .int (jr_abv.getD j 0)) (jr_A G) U H ∧
  va_Z "java/lang/String" "COMPACT_STRINGS" "Z" (.int 1) (jr_A G) U H ∧
  (va_Z "jdk/internal/util/Preconditions" "SIOOBE_FORMATTER" "Ljava/util/function/BiFunction;" .null (jr_A G) U H ∨ va_Z "jdk/internal/util/Preconditions" "SIOOBE_FORMATTER" "Ljava/util/function/BiFunction;" (.ref (G.2.2 1300)) (jr_A G) U H)
def jr_ZT (G : jr_G) (U : State) : Prop :=
  (∀ i, i < 14 → vk_R (jr_str.getD i ("", 0, "")).1 (jr_str.getD i ("", 0, "")).2.1 (jr_str.getD i ("", 0, "")).2.2 (G.2.2 (1000 + i)) U) ∧
  va_Nw (.methodLinkNest RX3 56 yX9_isSeat RX9) U
def jr_F (G : jr_G) (U : State) (H : Heap) : Prop := jr_D G ∧ va_K G.1 vwCl [(G.2.1, .int)] U ∧ jr_ZT G U ∧ jr_ZH G U H
theorem jr_ZH.kept {G : jr_G} {U : State} {H H1 : Heap} (h : jr_ZH G U H) (hq : ∀ a : Nat, a < H.size → ¬ jr_A G a → H1[a]? = H[a]?) : jr_ZH G U H1 :=
  ⟨h.1.kept hq, h.2.1.kept hq, h.2.2.1.kept hq, h.2.2.2.1.kept hq, h.2.2.2.2.imp (fun q => q.kept hq) (fun q => q.kept hq)⟩
theorem jr_ZH.moved {G : jr_G} {u U : State} {H : Heap} (hvm : u.vm.Alike U.vm) (h : jr_ZH G u H) : jr_ZH G U H :=
  ⟨h.1.moved hvm, h.2.1.moved hvm, h.2.2.1.moved hvm, h.2.2.2.1.moved hvm, h.2.2.2.2.imp (fun q => q.moved hvm) (fun q => q.moved hvm)⟩
theorem jr_ZT.same {G : jr_G} {u U : State} (hv : U.vm = u.vm) (h : jr_ZT G u) : jr_ZT G U :=
  ⟨fun i hi => vk_R.same hv (h.1 i hi), va_Nw.same rfl hv.symm h.2⟩
theorem jr_ZT.warm {G : jr_G} {s U : State} (hW : s.WarmedH U.vm) (h : jr_ZT G s) : jr_ZT G U :=
  ⟨fun i hi => vk_R.warm hW (h.1 i hi), va_Nw.warmM hW h.2⟩
theorem jr_F.warm {G : jr_G} {s U : State} {H : Heap} (hW : s.WarmedH U.vm) (h : jr_F G s H) : jr_F G U H :=
  ⟨h.1, va_K.moved hW.alike h.2.1, h.2.2.1.warm hW, h.2.2.2.moved hW.alike⟩
theorem jr_F.same {G : jr_G} {u U : State} {H : Heap} (hv : U.vm = u.vm) (h : jr_F G u H) : jr_F G U H :=
  ⟨h.1, va_K.moved (by rw [hv]; exact Vm.Alike.refl _) h.2.1, h.2.2.1.same hv, h.2.2.2.moved (by rw [hv]; exact Vm.Alike.refl _)⟩
theorem jr_F.kept {G : jr_G} {U : State} {H H1 : Heap} {locs : List Loc} (h : jr_F G U H) (hS : va_S (jr_A G) H H1 locs) : jr_F G U H1 :=
  ⟨h.1, h.2.1, h.2.2.1, h.2.2.2.kept hS.2.1⟩
def jr_wsM (mi : jr_MI) : List Cond := Cond.code mi.1 mi.2.1 mi.2.2.1 mi.2.2.2 :: jr_WL
theorem jr_goodIn {mi : jr_MI} (h : Cond.code mi.1 mi.2.1 mi.2.2.1 mi.2.2.2 ∈ jr_WL) : GoodIn jr_WL (jr_wsM mi) := by
  intro w hw
  have h1 : w ∈ jr_WL := by
    rcases List.mem_cons.mp hw with e | e
    · rw [e]; exact h
    · exact e
  exact ⟨h1, good_of_word (jr_wl_good h1)⟩
def jr_room (d : Nat) : Room := { frames := d + 1, cells := 0, slots := 0, locals := 64 * (d + 1) }
-- a method's end: its answer and the contents behind it
def jr_Q (G : jr_G) (K : Option Value → jr_Sg → Prop) : Array Value → State → Outcome → State → Prop := fun _ st o t =>
  (∃ (v : Option Value) (σ : jr_Sg), o = .returned (v.map (jr_v G.2.2)) ∧ K v σ ∧ va_P G.1 vwCl (jr_ws G σ) t.heap) ∧ va_F (jr_A G) st t
def jr_M (G : jr_G) (d : Nat) (mi : jr_MI) (a : List Value) (σ : jr_Sg) (K : Option Value → jr_Sg → Prop) : Prop :=
  ∀ l : Launch, Met l mi.1 (jr_wsM mi) (jr_room d) (va_Pc (a.map (jr_v G.2.2)) (fun U => jr_F G U U.heap ∧ va_P G.1 vwCl (jr_ws G σ) U.heap)) (jr_Q G K) 0 0 (jr_A G)
-- the locals
def jr_L (ad : Nat → Nat) (ls : Array Slot) (nL : Nat) (L : List (Option Value)) : Prop := ls.size = nL ∧ lv_wf ls ∧ ∀ (k : Nat) (v : Value), L[k]? = some (some v) → ls[k]? = some (.val (jr_v ad v))
/-- THE JUDGEMENT: the method mi, at pc with locals L, stack st, contents σ, comes to its end with K -/
def jr_R (G : jr_G) (d : Nat) (mi : jr_MI) (K : Option Value → jr_Sg → Prop) (pc : Nat) (L : List (Option Value)) (st : List Value) (σ : jr_Sg) : Prop :=
  ∀ (p : Program) (l : Launch) (e : Env) (s : State) (m : MethodId) (args : Array Value) (below : List Frame) (meth : Method) (c : Code) (H : Heap) (locs : List Loc) (ls : Array Slot),
    p.tables.exec = Jvm.exec → c.code = mi.2.1 → c.maxLocals = mi.2.2.1 → meth.sig.returnType = mi.2.2.2 → s.vm.findClass mi.1.cls = some m.cls → meth.locks = false → (∀ w ∈ jr_WL, w.before args s = true) → jr_F G s s.heap → va_P G.1 vwCl (jr_ws G σ) H → va_S (jr_A G) s.heap H locs → jr_L G.2.2 ls mi.2.2.1 L →
    W p l e (jr_room d) s m args below meth c H locs 0 0 (MQ below (jr_Q G K) args s 0 0 (jr_A G)) (F0 m pc ls (st.map (jr_v G.2.2)))
/-- weaker knowledge of the locals -/
theorem jr_weak {G : jr_G} {d : Nat} {mi : jr_MI} {K : Option Value → jr_Sg → Prop} {pc : Nat} {L L' : List (Option Value)} {st : List Value} {σ : jr_Sg} (hL : ∀ (k : Nat) (v : Value), L'[k]? = some (some v) → L[k]? = some (some v)) (kk : jr_R G d mi K pc L' st σ) : jr_R G d mi K pc L st σ := by
  intro p l e s m args below meth c H locs ls hx hb hml hr hown hlk hts hF hP hS hl
  exact kk p l e s m args below meth c H locs ls hx hb hml hr hown hlk hts hF hP hS ⟨hl.1, hl.2.1, fun k v h => hl.2.2 k v (hL k v h)⟩
theorem jr_mono {G : jr_G} {d : Nat} {mi : jr_MI} {K K' : Option Value → jr_Sg → Prop} {pc : Nat} {L : List (Option Value)} {st : List Value} {σ : jr_Sg} (hK : ∀ v σ', K v σ' → K' v σ') (h : jr_R G d mi K pc L st σ) : jr_R G d mi K' pc L st σ := by
  intro p l e s m args below meth c H locs ls hx hb hml hr hown hlk hts hF hP hS hl T hT X
  obtain ⟨t, a1, o, b1, b2, ⟨⟨v, σ', q1, q2, q3⟩, q4⟩, b4⟩ := h p l e s m args below meth c H locs ls hx hb hml hr hown hlk hts hF hP hS hl T hT X
  exact ⟨t, a1, o, b1, b2, ⟨⟨v, σ', q1, hK v σ' q2, q3⟩, q4⟩, b4⟩
-- the list of pairs that the kit's rows speak of
def jr_pr (ad : Nat → Nat) : Nat → List (Option Value) → List (Nat × Value)
  | _, [] => []
  | i, none :: l => jr_pr ad (i + 1) l
  | i, some v :: l => (i, jr_v ad v) :: jr_pr ad (i + 1) l
theorem jr_pr_mem {ad : Nat → Nat} : ∀ (L : List (Option Value)) (i k : Nat) (v : Value), L[k]? = some (some v) → (i + k, jr_v ad v) ∈ jr_pr ad i L
  | [], i, k, v, h => by cases h
  | none :: l, i, 0, v, h => by cases h
  | none :: l, i, k + 1, v, h => by
    show _ ∈ jr_pr ad (i + 1) l
    have h2 := jr_pr_mem (ad := ad) l (i + 1) k v (by simpa using h)
    rw [show i + (k + 1) = i + 1 + k by omega]
    exact h2
  | some w :: l, i, 0, v, h => by
    have e : w = v := by simpa using h
    subst e
    exact List.mem_cons_self
  | some w :: l, i, k + 1, v, h => by
    show _ ∈ (i, jr_v ad w) :: jr_pr ad (i + 1) l
    have h2 := jr_pr_mem (ad := ad) l (i + 1) k v (by simpa using h)
    rw [show i + (k + 1) = i + 1 + k by omega]
    exact List.mem_cons_of_mem _ h2
theorem jr_pr_of {ad : Nat → Nat} : ∀ (L : List (Option Value)) (i : Nat) (q : Nat × Value), q ∈ jr_pr ad i L → ∃ (k : Nat) (v : Value), L[k]? = some (some v) ∧ q = (i + k, jr_v ad v)
  | [], i, q, h => by cases h
  | none :: l, i, q, h => by
    obtain ⟨k, v, h1, h2⟩ := jr_pr_of (ad := ad) l (i + 1) q h
    exact ⟨k + 1, v, by simpa using h1, by rw [h2, show i + 1 + k = i + (k + 1) by omega]⟩
  | some w :: l, i, q, h => by
    rcases List.mem_cons.mp h with e | e
    · exact ⟨0, w, rfl, e⟩
    · obtain ⟨k, v, h1, h2⟩ := jr_pr_of (ad := ad) l (i + 1) q e
      exact ⟨k + 1, v, by simpa using h1, by rw [h2, show i + 1 + k = i + (k + 1) by omega]⟩
theorem jr_L_has {ad : Nat → Nat} {ls : Array Slot} {nL : Nat} {L : List (Option Value)} (h : jr_L ad ls nL L) : lv_has ls nL (jr_pr ad 0 L) := by
  refine ⟨h.1, h.2.1, fun q hq => ?_⟩
  obtain ⟨k, v, h1, h2⟩ := jr_pr_of L 0 q hq
  rw [h2, Nat.zero_add]
  exact h.2.2 k v h1
theorem jr_v_cat (ad : Nat → Nat) (v : Value) : (jr_v ad v).category = v.category := by cases v <;> rfl
/-- a store at place i: what lay there, and a long that reached into it, are gone -/
def jr_cl (L : List (Option Value)) (i : Nat) : List (Option Value) := match i with
  | 0 => L
  | j + 1 => match L[j]? with
    | some (some (.long _)) => L.set j none
    | some (some (.double _)) => L.set j none
    | _ => L
def jr_s1 (L : List (Option Value)) (i : Nat) (v : Value) : List (Option Value) := (jr_cl L i).set i (some v)
def jr_s2 (L : List (Option Value)) (i : Nat) (v : Value) : List (Option Value) := ((jr_cl L i).set (i + 1) none).set i (some v)
theorem jr_cl_of {L : List (Option Value)} {i k : Nat} {w : Value} (h : (jr_cl L i)[k]? = some (some w)) : L[k]? = some (some w) ∧ ¬ (k + 1 = i ∧ w.category = 2) := by
  cases i with
  | zero => exact ⟨h, fun e => by omega⟩
  | succ j =>
    have key : (jr_cl L (j + 1) = L.set j none) ∨ (jr_cl L (j + 1) = L ∧ ∀ w : Value, L[j]? = some (some w) → ¬ w.category = 2) := by
      cases hj : L[j]? with
      | none => exact Or.inr ⟨by simp only [jr_cl, hj], fun w hw => by cases hw⟩
      | some o =>
        cases o with
        | none => exact Or.inr ⟨by simp only [jr_cl, hj], fun w hw => by cases hw⟩
        | some u => cases u with
          | long _ => exact Or.inl (by simp only [jr_cl, hj])
          | double _ => exact Or.inl (by simp only [jr_cl, hj])
          | _ => exact Or.inr ⟨by simp only [jr_cl, hj], fun w hw => by cases hw; simp [Value.category]⟩
    rcases key with e | ⟨e, hn⟩
    · rw [e] at h
      by_cases hk : k = j
      · subst hk
        rw [List.getElem?_set] at h
        simp at h
      · rw [List.getElem?_set_ne (fun e => hk e.symm)] at h
        exact ⟨h, fun e => hk (by omega)⟩
    · rw [e] at h
      refine ⟨h, fun e2 => ?_⟩
      have : k = j := by omega
      subst this
      exact hn w h e2.2
theorem jr_s1_has {ad : Nat → Nat} {ls' : Array Slot} {nL i : Nat} {L : List (Option Value)} {v : Value} (h : lv_has ls' nL ((i, jr_v ad v) :: (jr_pr ad 0 L).filter (fun q => !(q.1 == i) && !(q.1 + 1 == i && q.2.category == 2)))) : jr_L ad ls' nL (jr_s1 L i v) := by
  refine ⟨h.1, h.2.1, fun k w hk => ?_⟩
  by_cases hi : k = i
  · subst hi
    unfold jr_s1 at hk
    rw [List.getElem?_set] at hk
    simp at hk
    rw [← hk.2]
    exact h.2.2 _ List.mem_cons_self
  · unfold jr_s1 at hk
    rw [List.getElem?_set_ne (fun e => hi e.symm)] at hk
    obtain ⟨h1, h2⟩ := jr_cl_of hk
    have hm := jr_pr_mem (ad := ad) L 0 k w h1
    rw [Nat.zero_add] at hm
    refine h.2.2 (k, jr_v ad w) (List.mem_cons_of_mem _ (List.mem_filter.mpr ⟨hm, ?_⟩))
    simp only [Bool.and_eq_true, Bool.not_eq_true', beq_eq_false_iff_ne, Bool.and_eq_false_iff, ne_eq]
    refine ⟨hi, ?_⟩
    by_cases h3 : k + 1 = i
    · right
      rw [jr_v_cat]
      exact fun e => h2 ⟨h3, e⟩
    · left; exact h3
theorem jr_s2_has {ad : Nat → Nat} {ls' : Array Slot} {nL i : Nat} {L : List (Option Value)} {v : Value} (h : lv_has ls' nL ((i, jr_v ad v) :: (jr_pr ad 0 L).filter (fun q => !(q.1 == i) && (!(q.1 == i + 1) && !(q.1 + 1 == i && q.2.category == 2))))) : jr_L ad ls' nL (jr_s2 L i v) := by
  refine ⟨h.1, h.2.1, fun k w hk => ?_⟩
  by_cases hi : k = i
  · subst hi
    unfold jr_s2 at hk
    rw [List.getElem?_set] at hk
    simp at hk
    rw [← hk.2]
    exact h.2.2 _ List.mem_cons_self
  · unfold jr_s2 at hk
    rw [List.getElem?_set_ne (fun e => hi e.symm)] at hk
    by_cases hi2 : k = i + 1
    · subst hi2
      rw [List.getElem?_set] at hk
      simp at hk
    rw [List.getElem?_set_ne (fun e => hi2 e.symm)] at hk
    obtain ⟨h1, h2⟩ := jr_cl_of hk
    have hm := jr_pr_mem (ad := ad) L 0 k w h1
    rw [Nat.zero_add] at hm
    refine h.2.2 (k, jr_v ad w) (List.mem_cons_of_mem _ (List.mem_filter.mpr ⟨hm, ?_⟩))
    simp only [Bool.and_eq_true, Bool.not_eq_true', beq_eq_false_iff_ne, Bool.and_eq_false_iff, ne_eq]
    refine ⟨hi, hi2, ?_⟩
    by_cases h3 : k + 1 = i
    · right
      rw [jr_v_cat]
      exact fun e => h2 ⟨h3, e⟩
    · left; exact h3

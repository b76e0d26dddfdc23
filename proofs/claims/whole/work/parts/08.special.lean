theorem fl_J0_38 : Cond.fieldLink "java/lang/String" 38 "java/lang/String" "COMPACT_STRINGS" "Z" ∈ jr_WL := jr_wl 318 (by decide +kernel) (by decide +kernel)
theorem fl_J0_1053 : Cond.fieldLink "java/lang/String" 1053 "jdk/internal/util/Preconditions" "SIOOBE_FORMATTER" "Ljava/util/function/BiFunction;" ∈ jr_WL := jr_wl 334 (by decide +kernel) (by decide +kernel)
theorem fl_X0_7 : Cond.fieldLink "GoneRed$Kind" 7 "GoneRed$Kind" "ABOVE" "[I" ∈ jr_WL := jr_wl 616 (by decide +kernel) (by decide +kernel)
theorem fl_J0_9 : Cond.fieldLink "java/lang/String" 9 "java/lang/String" "value" "[B" ∈ jr_WL := jr_wl 1600 (by decide +kernel) (by decide +kernel)
theorem fl_J0_15 : Cond.fieldLink "java/lang/String" 15 "java/lang/String" "coder" "B" ∈ jr_WL := jr_wl 1601 (by decide +kernel) (by decide +kernel)
section JSPEC
variable {G : jr_G} {d : Nat} {mi : jr_MI} {K : Option Value → jr_Sg → Prop} {pc : Nat} {L : List (Option Value)} {st rest : List Value} {σ : jr_Sg}
theorem cs_X3_56 {a1 : Value} (pc' : Nat) (hdg : decode mi.2.1 pc = .ok (.invokestatic 56, 3)) (hp : pc + 3 = pc') (hm : mi.1.cls = RX3) (hst : (rest.map fun v => v.category).sum ≤ 8) (hM : jr_M G d mi_X9_isSeat [a1] σ (jr_k (fun x σ' => jr_R G (d + 1) mi K pc' L (x :: rest) σ'))) : jr_R G (d + 1) mi K pc L (a1 :: rest) σ := by
  intro p l e s m args below meth c H locs ls hx hb hml hr hown hlk hts hF hP hS hl
  have hF2 : jr_F G s H := hF.kept hS
  have o1 : Cond.static yX9_isSeat ∈ jr_WL := jr_wl 564 (by decide +kernel) (by decide +kernel)
  have o2 : Cond.initialized RX9 ∈ jr_WL := jr_wl 76 (by decide +kernel) (by decide +kernel)
  have o4 : Cond.code yX9_isSeat cX9_isSeat 1 (some .boolean) ∈ jr_WL := jr_wl 565 (by decide +kernel) (by decide +kernel)
  rw [hm] at hown
  exact jr_after hp (va_runSN (As := [jr_v G.2.2 a1]) (rest := rest.map (jr_v G.2.2)) (own := RX3) ⟨hx, hb, hml, hown, hts⟩ (jr_M_mono jr_k_to hM l) ⟨va_cnB 1 hts (jr_goodIn (mi := mi_X9_isSeat) o4) rfl rfl rfl hF.2.2.1.2 (hts _ o2) ⟨by decide +kernel, by decide +kernel, by decide +kernel⟩ (jr_room_ok (by decide)), hts _ o1, trivial⟩
    ⟨jr_blind, fun U hU hW => ⟨rfl, by rw [hU]; exact hF2.warm hW, by rw [hU]; exact hP⟩⟩ rfl rfl hl.1 rfl (lv_room (jr_cats hst)) hdg ⟨Nat.le_refl _, Nat.le_refl _⟩) hx hb hml hr (by rw [hm]; exact hown) hlk hts hF hS hl
theorem jr_above (pc' : Nat) (hdg : decode mi.2.1 pc = .ok (.getstatic 7, 3)) (hp : pc + 3 = pc') (hm : mi.1.cls = RX0) (kk : jr_R G d mi K pc' L (.ref 1200 :: st) σ) : jr_R G d mi K pc L st σ := by
  subst hp
  intro p l e s m args below meth c H locs ls hx hb hml hr hown hlk hts hF hP hS hl
  exact va_gets (own := mi.1.cls) (ref := "GoneRed$Kind") hx hb hF.2.2.2.2.1 hS hown (by rw [hm]; exact hts _ fl_X0_7) (fun _ h => h) hdg (kk p l e s m args below meth c H locs ls hx hb hml hr hown hlk hts hF hP hS hl)
theorem jr_aboveLen (pc' : Nat) (hdg : decode mi.2.1 pc = .ok (.arraylength, 1)) (hp : pc + 1 = pc') (kk : jr_R G d mi K pc' L (.int 6 :: st) σ) : jr_R G d mi K pc L (.ref 1200 :: st) σ := by
  subst hp
  intro p l e s m args below meth c H locs ls hx hb hml hr hown hlk hts hF hP hS hl
  exact va_tlen hx hb hF.2.2.2.2.2.1 hS (v := 6) rfl hdg (kk p l e s m args below meth c H locs ls hx hb hml hr hown hlk hts hF hP hS hl)
theorem jr_aboveAt {k : Nat} {j : Int32} (hj : j = nI k) (hk : k < 6) (pc' : Nat) (hdg : decode mi.2.1 pc = .ok (.iaload, 1)) (hp : pc + 1 = pc') (kk : jr_R G d mi K pc' L (.int (jr_abv.getD k 0) :: st) σ) : jr_R G d mi K pc L (.int j :: .ref 1200 :: st) σ := by
  subst hp
  subst hj
  intro p l e s m args below meth c H locs ls hx hb hml hr hown hlk hts hF hP hS hl
  exact va_ti hx hb hF.2.2.2.2.2.1 hS (vp_in_nI hk (by omega)) (by rw [nI_clamp (by omega)]; rfl) hdg (kk p l e s m args below meth c H locs ls hx hb hml hr hown hlk hts hF hP hS hl)
theorem ac_X3_46 : Cond.methodLink RX3 46 arraycopyName ∈ jr_WL := jr_wl 802 (by decide +kernel) (by decide +kernel)
theorem ac_X5_29 : Cond.methodLink RX5 29 arraycopyName ∈ jr_WL := jr_wl 1020 (by decide +kernel) (by decide +kernel)
theorem ac_nat : Cond.native arraycopyName ∈ jr_WL := jr_wl 804 (by decide +kernel) (by decide +kernel)
theorem ac_st : Cond.static arraycopyName ∈ jr_WL := jr_wl 803 (by decide +kernel) (by decide +kernel)
theorem ac_in : Cond.initialized "java/lang/System" ∈ jr_WL := jr_wl 93 (by decide +kernel) (by decide +kernel)
theorem ac_words : nativeFrameWords "java/lang/System" "arraycopy" 5 + 11 ≤ 50 := by decide +kernel
theorem jr_acopy {idx i0 i1 n0 n1 sp dp n : Nat} {jn jd js : Int32} (hlk0 : Cond.methodLink mi.1.cls idx arraycopyName ∈ jr_WL) (hsh0 : jr_shp[i0]? = some (.inl n0)) (hsh1 : jr_shp[i1]? = some (.inl n1)) (ejn : jn = nI n) (ejd : jd = nI dp) (ejs : js = nI sp) (h4 : sp + n ≤ n0) (h5 : dp + n ≤ n1) (hst : (st.map fun v => v.category).sum ≤ 8) (pc' : Nat) (hdg : decode mi.2.1 pc = .ok (.invokestatic idx, 3)) (hp : pc + 3 = pc') (kk : jr_R G d mi K pc' L st (jr_upc σ i1 (va_cpy (σ i0) (σ i1) sp dp n))) : jr_R G d mi K pc L (.int jn :: .int jd :: .ref i1 :: .int js :: .ref i0 :: st) σ := by
  subst hp
  subst ejn
  subst ejd
  subst ejs
  intro p l e s m args below meth c H locs ls hx hb hml hr hown hlk hts hF hP hS hl
  have b0 := jr_small i0 n0 hsh0
  have b1 := jr_small i1 n1 hsh1
  have c1 : (nI n).toNatClampNeg = n := nI_clamp (by omega)
  have c2 : (nI dp).toNatClampNeg = dp := nI_clamp (by omega)
  have c3 : (nI sp).toNatClampNeg = sp := nI_clamp (by omega)
  refine va_copyi hx hb (by rw [hml, hl.1]) hown (hts _ hlk0) (hts _ ac_nat) (hts _ ac_st) (hts _ ac_in) hF.2.1 hP (jr_vaD hF.1) hS i0 i1 0 0 (jr_ws_get hsh0) (jr_ws_get hsh1) rfl rfl rfl (nI_pos (by omega)) (nI_pos (by omega)) (nI_pos (by omega)) (by rw [c1, c3]; exact h4) (by rw [c1, c2]; exact h5) (fun _ _ => rfl) (by show 1 ≤ d + 1; omega) (by have := jr_cats (G := G) hst; have := ac_words; show _ ≤ 64 * (d + 1); omega) hdg (fun H1 locs1 hP1 hD1 hS1 => kk p l e s m args below meth c H1 locs1 ls hx hb hml hr hown hlk hts hF ?_ hS1 hl)
  rw [c1, c2, c3] at hP1
  have e := jr_ws_set (G := G) (σ := σ) (va_cpy (σ i0) (σ i1) sp dp n) hsh1
  rw [← e]
  exact hP1
theorem jr_ldcS {idx i : Nat} {tx : String} (hi : i < 14) (hs : jr_str.getD i ("", 0, "") = (mi.1.cls, idx, tx)) (pc' : Nat) (hdg : decode mi.2.1 pc = .ok (.ldc idx, 2)) (hp : pc + 2 = pc') (kk : jr_R G d mi K pc' L (.ref (1000 + i) :: st) σ) : jr_R G d mi K pc L st σ := by
  subst hp
  intro p l e s m args below meth c H locs ls hx hb hml hr hown hlk hts hF hP hS hl
  have h := hF.2.2.1.1 i hi
  rw [hs] at h
  exact va_ldcS hx hb hown h hdg (kk p l e s m args below meth c H locs ls hx hb hml hr hown hlk hts hF hP hS hl)
theorem jr_strF {o : Nat} {i : Nat} {n dd : String} {v : Value} (hof : ∀ (A : Nat → Prop) (U : State) (H : Heap) (adK adV : Nat → Nat), vk_S 14 jr_len jr_byt adK adV A U H → adV i = G.2.2 (1100 + i) → va_OF "java/lang/String" n dd (jr_v G.2.2 v) (adK i) A U H) (hlink : Cond.fieldLink "java/lang/String" o "java/lang/String" n dd ∈ jr_WL) (hm : mi.1.cls = RJ0) (pc' : Nat) (hdg : decode mi.2.1 pc = .ok (.getfield o, 3)) (hp : pc + 3 = pc') (kk : jr_R G d mi K pc' L (v :: st) σ) : jr_R G d mi K pc L (.ref (1000 + i) :: st) σ := by
  subst hp
  intro p l e s m args below meth c H locs ls hx hb hml hr hown hlk hts hF hP hS hl
  have h := hof _ _ _ _ _ hF.2.2.2.1 rfl
  rw [hm] at hown
  exact vk_getf (own := RJ0) (ref := "java/lang/String") (index := o) hx hb h hS hown (hts _ hlink) (fun _ h => h) hdg (kk p l e s m args below meth c H locs ls hx hb hml hr (by rw [hm]; exact hown) hlk hts hF hP hS hl)
theorem jr_strLen {i : Nat} (hi : i < 14) (pc' : Nat) (hdg : decode mi.2.1 pc = .ok (.arraylength, 1)) (hp : pc + 1 = pc') (kk : jr_R G d mi K pc' L (.int (nI (jr_len.getD i 0)) :: st) σ) : jr_R G d mi K pc L (.ref (1100 + i) :: st) σ := by
  subst hp
  intro p l e s m args below meth c H locs ls hx hb hml hr hown hlk hts hF hP hS hl
  exact va_tlen hx hb (hF.2.2.2.1.1 i hi).2.2.2 hS (v := nI (jr_len.getD i 0)) rfl hdg (kk p l e s m args below meth c H locs ls hx hb hml hr hown hlk hts hF hP hS hl)
theorem jr_strAt {i k : Nat} {j : Int32} (hi : i < 14) (hj : j = nI k) (hk : k < jr_len.getD i 0) (hlen : jr_len.getD i 0 ≤ 100) (pc' : Nat) (hdg : decode mi.2.1 pc = .ok (.baload, 1)) (hp : pc + 1 = pc') (kk : jr_R G d mi K pc' L (.int ((jr_byt.getD i []).getD k 0) :: st) σ) : jr_R G d mi K pc L (.int j :: .ref (1100 + i) :: st) σ := by
  subst hp
  subst hj
  intro p l e s m args below meth c H locs ls hx hb hml hr hown hlk hts hF hP hS hl
  exact va_tb hx hb (hF.2.2.2.1.1 i hi).2.2.2 hS (vp_in_nI hk (by omega)) (by rw [nI_clamp (by omega)]; rfl) hdg (kk p l e s m args below meth c H locs ls hx hb hml hr hown hlk hts hF hP hS hl)
theorem jr_compact (pc' : Nat) (hdg : decode mi.2.1 pc = .ok (.getstatic 38, 3)) (hp : pc + 3 = pc') (hm : mi.1.cls = RJ0) (kk : jr_R G d mi K pc' L (.int 1 :: st) σ) : jr_R G d mi K pc L st σ := by
  subst hp
  intro p l e s m args below meth c H locs ls hx hb hml hr hown hlk hts hF hP hS hl
  exact va_gets (own := mi.1.cls) (ref := "java/lang/String") hx hb hF.2.2.2.2.2.2.1 hS hown (by rw [hm]; exact hts _ fl_J0_38) (fun _ h => h) hdg (kk p l e s m args below meth c H locs ls hx hb hml hr hown hlk hts hF hP hS hl)
theorem jr_former (pc' : Nat) (hdg : decode mi.2.1 pc = .ok (.getstatic 1053, 3)) (hp : pc + 3 = pc') (hm : mi.1.cls = RJ0) (kk : ∀ v : Value, v.category = 1 → jr_R G d mi K pc' L (v :: st) σ) : jr_R G d mi K pc L st σ := by
  subst hp
  intro p l e s m args below meth c H locs ls hx hb hml hr hown hlk hts hF hP hS hl
  rcases hF.2.2.2.2.2.2.2 with h | h
  · exact va_gets (own := mi.1.cls) (ref := "jdk/internal/util/Preconditions") hx hb h hS hown (by rw [hm]; exact hts _ fl_J0_1053) (fun _ h => h) hdg (kk .null rfl p l e s m args below meth c H locs ls hx hb hml hr hown hlk hts hF hP hS hl)
  · exact va_gets (own := mi.1.cls) (ref := "jdk/internal/util/Preconditions") hx hb h hS hown (by rw [hm]; exact hts _ fl_J0_1053) (fun _ h => h) hdg (kk (.ref 1300) rfl p l e s m args below meth c H locs ls hx hb hml hr hown hlk hts hF hP hS hl)
theorem jr_callStr {y : jr_MI} {idx n i : Nat} {As : List Value} (ok : jr_okV mi.1.cls idx y n) (hcls : y.1.cls = RJ0) (hi : i < 14) (hn : As.length = n) (hst : (rest.map fun v => v.category).sum ≤ 8) (pc' : Nat) (hdg : decode mi.2.1 pc = .ok (.invokevirtual idx, 3)) (hp : pc + 3 = pc') (hs : st = As.reverse ++ .ref (1000 + i) :: rest) (hM : jr_M G d y (.ref (1000 + i) :: As) σ (fun v σ' => jr_R G (d + 1) mi K pc' L (v.toList ++ rest) σ')) : jr_R G (d + 1) mi K pc L st σ := by
  subst hs
  intro p l e s m args below meth c H locs ls hx hb hml hr hown hlk hts hF hP hS hl
  have hF2 : jr_F G s H := hF.kept hS
  obtain ⟨⟨o1, o2, o3, o4, o5⟩, o6, o7⟩ := ok
  have hG : GoodIn jr_WL (wsV mi.1.cls idx y.1.cls y.1 (jr_wsM y)) := by
    intro w hw
    rcases List.mem_append.mp hw with h | h
    · have h1 : w ∈ jr_WL := by
        simp only [List.mem_cons, List.not_mem_nil, or_false] at h
        rcases h with rfl | rfl | rfl | rfl <;> assumption
      exact ⟨h1, good_of_word (jr_wl_good h1)⟩
    · exact jr_goodIn o5 w h
  have hrecv := vk_recv hF.2.2.2.1 hi hS
  exact jr_after hp (va_runV (As := As.map (jr_v G.2.2)) (rest := rest.map (jr_v G.2.2)) (b := G.2.2 (1000 + i)) ⟨hx, hb, hml, hown, hts⟩ (hM l) (cwV n hts hG rfl rfl rfl ⟨rfl, o6⟩ (jr_room_ok o7))
    ⟨jr_blind, by rw [hcls]; exact hrecv, fun U hU hW => ⟨rfl, by rw [hU]; exact hF2.warm hW, by rw [hU]; exact hP⟩⟩ rfl (by rw [List.length_map]; exact hn) hl.1 (by simp [jr_v]) (lv_room (jr_cats hst)) hdg ⟨Nat.le_refl _, Nat.le_refl _⟩) hx hb hml hr hown hlk hts hF hS hl
end JSPEC
theorem ok_X9_67 : jr_okV RX9 67 mi_J0_length_8abf5 0 := ⟨⟨jr_wl 310 (by decide +kernel) (by decide +kernel), jr_wl 311 (by decide +kernel) (by decide +kernel), jr_wl 312 (by decide +kernel) (by decide +kernel), jr_wl 84 (by decide +kernel) (by decide +kernel), jr_wl 313 (by decide +kernel) (by decide +kernel)⟩, ⟨by decide +kernel, by decide +kernel, by decide +kernel⟩, by decide⟩
theorem cs_X9_67 {G : jr_G} {d : Nat} {mi : jr_MI} {K : Option Value → jr_Sg → Prop} {pc : Nat} {L : List (Option Value)} {rest : List Value} {σ : jr_Sg} {i : Nat} (pc' : Nat) (hdg : decode mi.2.1 pc = .ok (.invokevirtual 67, 3)) (hp : pc + 3 = pc') (hm : mi.1.cls = RX9) (hi : i < 14) (hst : (rest.map fun v => v.category).sum ≤ 8) (hM : jr_M G d mi_J0_length_8abf5 (.ref (1000 + i) :: []) σ (jr_k (fun x σ' => jr_R G (d + 1) mi K pc' L (x :: rest) σ'))) : jr_R G (d + 1) mi K pc L (.ref (1000 + i) :: rest) σ := jr_callStr (As := []) (y := mi_J0_length_8abf5) (by rw [hm]; exact ok_X9_67) rfl hi rfl hst pc' hdg hp rfl (jr_M_mono jr_k_to hM)
theorem ok_J0_335 : jr_okV RJ0 335 mi_J0_coder_7d493 0 := ⟨⟨jr_wl 314 (by decide +kernel) (by decide +kernel), jr_wl 315 (by decide +kernel) (by decide +kernel), jr_wl 316 (by decide +kernel) (by decide +kernel), jr_wl 84 (by decide +kernel) (by decide +kernel), jr_wl 317 (by decide +kernel) (by decide +kernel)⟩, ⟨by decide +kernel, by decide +kernel, by decide +kernel⟩, by decide⟩
theorem cs_J0_335 {G : jr_G} {d : Nat} {mi : jr_MI} {K : Option Value → jr_Sg → Prop} {pc : Nat} {L : List (Option Value)} {rest : List Value} {σ : jr_Sg} {i : Nat} (pc' : Nat) (hdg : decode mi.2.1 pc = .ok (.invokevirtual 335, 3)) (hp : pc + 3 = pc') (hm : mi.1.cls = RJ0) (hi : i < 14) (hst : (rest.map fun v => v.category).sum ≤ 8) (hM : jr_M G d mi_J0_coder_7d493 (.ref (1000 + i) :: []) σ (jr_k (fun x σ' => jr_R G (d + 1) mi K pc' L (x :: rest) σ'))) : jr_R G (d + 1) mi K pc L (.ref (1000 + i) :: rest) σ := jr_callStr (As := []) (y := mi_J0_coder_7d493) (by rw [hm]; exact ok_J0_335) rfl hi rfl hst pc' hdg hp rfl (jr_M_mono jr_k_to hM)
theorem ok_X9_73 : jr_okV RX9 73 mi_J0_charAt_5068e 1 := ⟨⟨jr_wl 320 (by decide +kernel) (by decide +kernel), jr_wl 321 (by decide +kernel) (by decide +kernel), jr_wl 322 (by decide +kernel) (by decide +kernel), jr_wl 84 (by decide +kernel) (by decide +kernel), jr_wl 323 (by decide +kernel) (by decide +kernel)⟩, ⟨by decide +kernel, by decide +kernel, by decide +kernel⟩, by decide⟩
theorem cs_X9_73 {G : jr_G} {d : Nat} {mi : jr_MI} {K : Option Value → jr_Sg → Prop} {pc : Nat} {L : List (Option Value)} {rest : List Value} {σ : jr_Sg} {a1 : Value} {i : Nat} (pc' : Nat) (hdg : decode mi.2.1 pc = .ok (.invokevirtual 73, 3)) (hp : pc + 3 = pc') (hm : mi.1.cls = RX9) (hi : i < 14) (hst : (rest.map fun v => v.category).sum ≤ 8) (hM : jr_M G d mi_J0_charAt_5068e (.ref (1000 + i) :: [a1]) σ (jr_k (fun x σ' => jr_R G (d + 1) mi K pc' L (x :: rest) σ'))) : jr_R G (d + 1) mi K pc L (a1 :: .ref (1000 + i) :: rest) σ := jr_callStr (As := [a1]) (y := mi_J0_charAt_5068e) (by rw [hm]; exact ok_X9_73) rfl hi rfl hst pc' hdg hp rfl (jr_M_mono jr_k_to hM)
theorem ok_J0_492 : jr_okV RJ0 492 mi_J0_isLatin1_aae02 0 := ⟨⟨jr_wl 324 (by decide +kernel) (by decide +kernel), jr_wl 325 (by decide +kernel) (by decide +kernel), jr_wl 326 (by decide +kernel) (by decide +kernel), jr_wl 84 (by decide +kernel) (by decide +kernel), jr_wl 327 (by decide +kernel) (by decide +kernel)⟩, ⟨by decide +kernel, by decide +kernel, by decide +kernel⟩, by decide⟩
theorem cs_J0_492 {G : jr_G} {d : Nat} {mi : jr_MI} {K : Option Value → jr_Sg → Prop} {pc : Nat} {L : List (Option Value)} {rest : List Value} {σ : jr_Sg} {i : Nat} (pc' : Nat) (hdg : decode mi.2.1 pc = .ok (.invokevirtual 492, 3)) (hp : pc + 3 = pc') (hm : mi.1.cls = RJ0) (hi : i < 14) (hst : (rest.map fun v => v.category).sum ≤ 8) (hM : jr_M G d mi_J0_isLatin1_aae02 (.ref (1000 + i) :: []) σ (jr_k (fun x σ' => jr_R G (d + 1) mi K pc' L (x :: rest) σ'))) : jr_R G (d + 1) mi K pc L (.ref (1000 + i) :: rest) σ := jr_callStr (As := []) (y := mi_J0_isLatin1_aae02) (by rw [hm]; exact ok_J0_492) rfl hi rfl hst pc' hdg hp rfl (jr_M_mono jr_k_to hM)
theorem ok_X2_122 : jr_okV RX2 122 mi_J0_length_8abf5 0 := ⟨⟨jr_wl 408 (by decide +kernel) (by decide +kernel), jr_wl 311 (by decide +kernel) (by decide +kernel), jr_wl 312 (by decide +kernel) (by decide +kernel), jr_wl 84 (by decide +kernel) (by decide +kernel), jr_wl 313 (by decide +kernel) (by decide +kernel)⟩, ⟨by decide +kernel, by decide +kernel, by decide +kernel⟩, by decide⟩
theorem cs_X2_122 {G : jr_G} {d : Nat} {mi : jr_MI} {K : Option Value → jr_Sg → Prop} {pc : Nat} {L : List (Option Value)} {rest : List Value} {σ : jr_Sg} {i : Nat} (pc' : Nat) (hdg : decode mi.2.1 pc = .ok (.invokevirtual 122, 3)) (hp : pc + 3 = pc') (hm : mi.1.cls = RX2) (hi : i < 14) (hst : (rest.map fun v => v.category).sum ≤ 8) (hM : jr_M G d mi_J0_length_8abf5 (.ref (1000 + i) :: []) σ (jr_k (fun x σ' => jr_R G (d + 1) mi K pc' L (x :: rest) σ'))) : jr_R G (d + 1) mi K pc L (.ref (1000 + i) :: rest) σ := jr_callStr (As := []) (y := mi_J0_length_8abf5) (by rw [hm]; exact ok_X2_122) rfl hi rfl hst pc' hdg hp rfl (jr_M_mono jr_k_to hM)
theorem ok_X2_128 : jr_okV RX2 128 mi_J0_charAt_5068e 1 := ⟨⟨jr_wl 409 (by decide +kernel) (by decide +kernel), jr_wl 321 (by decide +kernel) (by decide +kernel), jr_wl 322 (by decide +kernel) (by decide +kernel), jr_wl 84 (by decide +kernel) (by decide +kernel), jr_wl 323 (by decide +kernel) (by decide +kernel)⟩, ⟨by decide +kernel, by decide +kernel, by decide +kernel⟩, by decide⟩
theorem cs_X2_128 {G : jr_G} {d : Nat} {mi : jr_MI} {K : Option Value → jr_Sg → Prop} {pc : Nat} {L : List (Option Value)} {rest : List Value} {σ : jr_Sg} {a1 : Value} {i : Nat} (pc' : Nat) (hdg : decode mi.2.1 pc = .ok (.invokevirtual 128, 3)) (hp : pc + 3 = pc') (hm : mi.1.cls = RX2) (hi : i < 14) (hst : (rest.map fun v => v.category).sum ≤ 8) (hM : jr_M G d mi_J0_charAt_5068e (.ref (1000 + i) :: [a1]) σ (jr_k (fun x σ' => jr_R G (d + 1) mi K pc' L (x :: rest) σ'))) : jr_R G (d + 1) mi K pc L (a1 :: .ref (1000 + i) :: rest) σ := jr_callStr (As := [a1]) (y := mi_J0_charAt_5068e) (by rw [hm]; exact ok_X2_128) rfl hi rfl hst pc' hdg hp rfl (jr_M_mono jr_k_to hM)
def pu_max (a b : Int32) : Int32 := if a < b then b else a
def pu_min (a b : Int32) : Int32 := if b < a then b else a
theorem mw_max_st : Cond.static Lib.Math.max.name ∈ jr_WL := jr_wl 557 (by decide +kernel) (by decide +kernel)
theorem mw_max_in : Cond.initialized "java/lang/Math" ∈ jr_WL := jr_wl 90 (by decide +kernel) (by decide +kernel)
theorem mw_max_co : Cond.code Lib.Math.max.name Lib.Math.max.code 2 (some .int) ∈ jr_WL := jr_wl 558 (by decide +kernel) (by decide +kernel)
theorem jr_mmax {G : jr_G} {d : Nat} {mi : jr_MI} {K : Option Value → jr_Sg → Prop} {pc : Nat} {L : List (Option Value)} {st : List Value} {σ : jr_Sg} {idx : Nat} {x y : Int32} (pc' : Nat) (hdg : decode mi.2.1 pc = .ok (.invokestatic idx, 3)) (hp : pc + 3 = pc') (hlk0 : Cond.methodLink mi.1.cls idx Lib.Math.max.name ∈ jr_WL) (hst : (st.map fun v => v.category).sum ≤ 8) (kk : jr_R G d mi K pc' L (.int (pu_max x y) :: st) σ) : jr_R G d mi K pc L (.int y :: .int x :: st) σ := by
  subst hp
  intro p l e s m args below meth c H locs ls hx hb hml hr hown hlk hts hF hP hS hl
  exact va_mmax hx hb (by rw [hml, hl.1]) hown (hts _ hlk0) (hts _ mw_max_st) (hts _ mw_max_in) (hts _ mw_max_co) (by show 1 ≤ d + 1; omega) (by have := jr_cats (G := G) hst; show _ ≤ 64 * (d + 1); omega) (Nat.le_refl _) (Nat.le_refl _) hdg (kk p l e s m args below meth c H locs ls hx hb hml hr hown hlk hts hF hP hS hl)
theorem mw_min_st : Cond.static Lib.Math.min.name ∈ jr_WL := jr_wl 546 (by decide +kernel) (by decide +kernel)
theorem mw_min_in : Cond.initialized "java/lang/Math" ∈ jr_WL := jr_wl 90 (by decide +kernel) (by decide +kernel)
theorem mw_min_co : Cond.code Lib.Math.min.name Lib.Math.min.code 2 (some .int) ∈ jr_WL := jr_wl 547 (by decide +kernel) (by decide +kernel)
theorem jr_mmin {G : jr_G} {d : Nat} {mi : jr_MI} {K : Option Value → jr_Sg → Prop} {pc : Nat} {L : List (Option Value)} {st : List Value} {σ : jr_Sg} {idx : Nat} {x y : Int32} (pc' : Nat) (hdg : decode mi.2.1 pc = .ok (.invokestatic idx, 3)) (hp : pc + 3 = pc') (hlk0 : Cond.methodLink mi.1.cls idx Lib.Math.min.name ∈ jr_WL) (hst : (st.map fun v => v.category).sum ≤ 8) (kk : jr_R G d mi K pc' L (.int (pu_min x y) :: st) σ) : jr_R G d mi K pc L (.int y :: .int x :: st) σ := by
  subst hp
  intro p l e s m args below meth c H locs ls hx hb hml hr hown hlk hts hF hP hS hl
  exact va_mmin hx hb (by rw [hml, hl.1]) hown (hts _ hlk0) (hts _ mw_min_st) (hts _ mw_min_in) (hts _ mw_min_co) (by show 1 ≤ d + 1; omega) (by have := jr_cats (G := G) hst; show _ ≤ 64 * (d + 1); omega) (Nat.le_refl _) (Nat.le_refl _) hdg (kk p l e s m args below meth c H locs ls hx hb hml hr hown hlk hts hF hP hS hl)
theorem ml_X6_32 : Cond.methodLink RX6 32 Lib.Math.min.name ∈ jr_WL := jr_wl 545 (by decide +kernel) (by decide +kernel)
theorem ml_X6_38 : Cond.methodLink RX6 38 Lib.Math.max.name ∈ jr_WL := jr_wl 556 (by decide +kernel) (by decide +kernel)
theorem ml_X0_17 : Cond.methodLink RX0 17 Lib.Math.max.name ∈ jr_WL := jr_wl 618 (by decide +kernel) (by decide +kernel)
theorem ml_X7_53 : Cond.methodLink RX7 53 Lib.Math.max.name ∈ jr_WL := jr_wl 691 (by decide +kernel) (by decide +kernel)
theorem ml_X4_43 : Cond.methodLink RX4 43 Lib.Math.min.name ∈ jr_WL := jr_wl 704 (by decide +kernel) (by decide +kernel)
theorem ml_X4_124 : Cond.methodLink RX4 124 Lib.Math.max.name ∈ jr_WL := jr_wl 705 (by decide +kernel) (by decide +kernel)
theorem ml_X9_280 : Cond.methodLink RX9 280 Lib.Math.min.name ∈ jr_WL := jr_wl 910 (by decide +kernel) (by decide +kernel)
theorem jr_eqk {k : Value → jr_Sg → Prop} {x y : Int32} {σ : jr_Sg} (e : x = y) (h : k (.int y) σ) : k (.int x) σ := by rw [e]; exact h
theorem wp_coder {G : jr_G} {d : Nat} {σ : jr_Sg} {k : Value → jr_Sg → Prop} {i : Nat} (hi : i < 14) (h : k (.int 0) σ) : jr_M G d mi_J0_coder_7d493 [.ref (1000 + i)] σ (jr_k k) := by
  refine jr_enter (L := [some (.ref (1000 + i))]) (by decide) (Nat.le_of_ble_eq_true rfl) rfl ?_
  refine jr_compact 3 dJ0_coder_7d493_0 rfl rfl ?_
  refine jr_if_eq 13 6 dJ0_coder_7d493_3 rfl rfl (fun q => absurd q (by decide)) (fun q3 => ?_)
  refine jr_aload_n 0 7 dJ0_coder_7d493_6 rfl rfl rfl ?_
  refine jr_strF (v := .int 0) (fun A U H adK adV q _ => (q.1 i hi).2.1) fl_J0_15 rfl 10 dJ0_coder_7d493_7 rfl ?_
  refine jr_goto 14 dJ0_coder_7d493_10 rfl ?_
  refine jr_ireturn dJ0_coder_7d493_14 rfl rfl ?_
  exact h

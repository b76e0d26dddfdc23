/-- what the twist and the scene at b say of f's causes and lot -/
def pu_ca (b : Nat) (σ : jr_Sg) (nc f : Nat) (t : Nat) : Int32 := pu_cs (σ (b + 6)) (σ (b + 7)) (σ (b + 8)) (nI f) (nI t) nc
noncomputable def pu_cb (σ : jr_Sg) (f : Nat) (t : Nat) : Int32 := pu_cau (σ 7 0) (σ 7 1) (σ 7 2) (nI f) (nI t) (pu_if (nI f = σ 7 5 ∧ nI t = σ 7 6) (σ 7 7) 0)
noncomputable def pu_dr (σ : jr_Sg) (f : Nat) (t : Nat) : Int32 := pu_if (σ 8 f = nI t) (σ 7 9) 0
theorem playSecond_tail_15 {G : jr_G} {d : Nat} {σ : jr_Sg} {k : jr_Sg → Prop} {T : Nat → Nat → List Nat} {n lw nf nc f t : Nat} {kd se : Nat → Nat} (hsc : sc_ok 15 σ nf nc kd se) (hf : f < nf) (ht : t < 40) (hT : ti_C T n σ) (hlw : lw < n) (hlaw : σ 15 10 = nI lw) {wm l li sn : Int32} {σ1 : jr_Sg} {x8 x9 x10 x11 x12 : Option Value} (he : jr_eqx [4, 11] σ σ1) (n0 : σ1 11 0 = wm) (n2 : σ1 11 2 = li) (n3 : σ1 11 3 = nI t) (n4 : σ1 11 4 = sn)
    (hk : ∀ σ' : jr_Sg, jr_eqx [4, 11, 12, 13] σ σ' → σ' 12 = upd (σ 12) (5 * t + f + 5) (pu_min 400 ((pu_max 0 (pu_min 400 (wm + (pu_wso (σ 7 0) (σ 7 1) (σ 7 2) (nI f) (nI t) (pu_warms (kd f) (σ 17 f) (pu_within (ev_t T lw 0 (pu_nm wm l li (nI t) sn (σ 17 f))) 0 99) sn) (σ 17 f) + pu_ca 15 σ nc f t + pu_cb σ f t) - pu_cso (σ 7 0) (σ 7 1) (σ 7 2) (nI f) (nI t) (pu_cools (kd f) (σ 17 f) (pu_within (ev_t T lw 1 (pu_nm wm l li (nI t) sn (σ 17 f))) 0 99) wm)))) + pu_dr σ f t)) → σ' 13 = upd (σ 13) (5 * t + f + 5) l → k σ') :
    jr_R G (d + 3) mi_X4_playSecond (jr_kv k) 118 [some (.ref 9), some (.ref 15), some (.int (nI f)), some (.int (nI t)), some (.int (nI (5 * t + f))), some (.int (nI (5 * t + f + 5))), some (.int wm), some (.int sn), x8, x9, x10, x11, x12] [.int l] σ1 := by
  obtain ⟨hnf, h5, hnc, h8, hall⟩ := hsc
  obtain ⟨hk6, hs8, hkd, hse⟩ := hall f hf
  have e16 : σ1 16 f = nI (kd f) := by rw [he 16 (by decide)]; exact hkd
  have e17 : σ1 17 f = σ 17 f := by rw [he 17 (by decide)]
  have elaw : σ1 15 10 = nI lw := by rw [he 15 (by decide)]; exact hlaw
  have hT1 : ti_C T n σ1 := ti_C_of hT (he 1 (by decide)) (he 2 (by decide)) (he 3 (by decide))
  refine jr_istore (L' := [_, _, _, _, _, _, _, _, _, _, _, _, _]) 120 dX4_playSecond_118 rfl (by decide) rfl ?_
  refine jr_aload_n 0 121 dX4_playSecond_120 rfl rfl rfl ?_
  refine gf_X4_12 124 dX4_playSecond_121 rfl rfl rfl rfl ?_
  refine jr_iload 126 dX4_playSecond_124 rfl rfl ?_
  refine jr_aload_n 1 127 dX4_playSecond_126 rfl rfl rfl ?_
  refine gf_X4_81 130 dX4_playSecond_127 rfl rfl rfl rfl ?_
  refine jr_iload_n 2 131 dX4_playSecond_130 rfl rfl rfl ?_
  refine jr_iale rfl rfl (by omega) e17 132 dX4_playSecond_131 rfl ?_
  refine cs_X4_84 135 dX4_playSecond_132 rfl rfl rfl (Nat.le_of_ble_eq_true rfl) (wp_tellLooks ?_)
  refine jr_aload_n 1 136 dX4_playSecond_135 rfl rfl rfl ?_
  refine gf_X4_88 139 dX4_playSecond_136 rfl rfl rfl rfl ?_
  refine jr_iload_n 2 140 dX4_playSecond_139 rfl rfl rfl ?_
  refine jr_iale rfl rfl (by omega) e16 141 dX4_playSecond_140 rfl ?_
  refine jr_aload_n 1 142 dX4_playSecond_141 rfl rfl rfl ?_
  refine gf_X4_81 145 dX4_playSecond_142 rfl rfl rfl rfl ?_
  refine jr_iload_n 2 146 dX4_playSecond_145 rfl rfl rfl ?_
  refine jr_iale rfl rfl (by omega) e17 147 dX4_playSecond_146 rfl ?_
  refine jr_aload_n 0 148 dX4_playSecond_147 rfl rfl rfl ?_
  refine gf_X4_32 151 dX4_playSecond_148 rfl rfl rfl rfl ?_
  refine jr_aload_n 1 152 dX4_playSecond_151 rfl rfl rfl ?_
  refine gf_X4_91 155 dX4_playSecond_152 rfl rfl rfl rfl ?_
  refine jr_topi (y := nI lw) elaw ?_
  refine jr_iconst (0) 156 dX4_playSecond_155 rfl rfl ?_
  refine jr_aload_n 0 157 dX4_playSecond_156 rfl rfl rfl ?_
  refine gf_X4_12 160 dX4_playSecond_157 rfl rfl rfl rfl ?_
  refine gf_X4_96 163 dX4_playSecond_160 rfl rfl rfl rfl ?_
  refine cs_X4_99 166 dX4_playSecond_163 rfl rfl rfl (Nat.le_of_ble_eq_true rfl) (wp_boundedN (t := lw) (p := 0) (nm := pu_nm wm l li (nI t) sn (σ 17 f)) (ti_C_of hT1 rfl rfl rfl) hlw (by omega) (six n0 rfl n2 n3 n4 rfl) (fun f1 => ?_))
  refine jr_iload 168 dX4_playSecond_166 rfl rfl ?_
  refine cs_X4_103 171 dX4_playSecond_168 rfl rfl (Nat.le_of_ble_eq_true rfl) (wp_kwarms hk6 ?_)
  refine jr_istore (L' := [_, _, _, _, _, _, _, _, _, _, _, _, _]) 173 dX4_playSecond_171 rfl (by decide) rfl ?_
  refine jr_aload_n 1 174 dX4_playSecond_173 rfl rfl rfl ?_
  refine gf_X4_88 177 dX4_playSecond_174 rfl rfl rfl rfl ?_
  refine jr_iload_n 2 178 dX4_playSecond_177 rfl rfl rfl ?_
  refine jr_iale rfl rfl (by omega) e16 179 dX4_playSecond_178 rfl ?_
  refine jr_aload_n 1 180 dX4_playSecond_179 rfl rfl rfl ?_
  refine gf_X4_81 183 dX4_playSecond_180 rfl rfl rfl rfl ?_
  refine jr_iload_n 2 184 dX4_playSecond_183 rfl rfl rfl ?_
  refine jr_iale rfl rfl (by omega) e17 185 dX4_playSecond_184 rfl ?_
  refine jr_aload_n 0 186 dX4_playSecond_185 rfl rfl rfl ?_
  refine gf_X4_32 189 dX4_playSecond_186 rfl rfl rfl rfl ?_
  refine jr_aload_n 1 190 dX4_playSecond_189 rfl rfl rfl ?_
  refine gf_X4_91 193 dX4_playSecond_190 rfl rfl rfl rfl ?_
  refine jr_topi (y := nI lw) elaw ?_
  refine jr_iconst (1) 194 dX4_playSecond_193 rfl rfl ?_
  refine jr_aload_n 0 195 dX4_playSecond_194 rfl rfl rfl ?_
  refine gf_X4_12 198 dX4_playSecond_195 rfl rfl rfl rfl ?_
  refine gf_X4_96 201 dX4_playSecond_198 rfl rfl rfl rfl ?_
  refine cs_X4_99 204 dX4_playSecond_201 rfl rfl rfl (Nat.le_of_ble_eq_true rfl) (wp_boundedN (t := lw) (p := 1) (nm := pu_nm wm l li (nI t) sn (σ 17 f)) (ti_C_of hT1 rfl rfl rfl) hlw (by omega) (six n0 rfl n2 n3 n4 rfl) (fun f2 => ?_))
  refine jr_iload 206 dX4_playSecond_204 rfl rfl ?_
  refine cs_X4_109 209 dX4_playSecond_206 rfl rfl (Nat.le_of_ble_eq_true rfl) (wp_kcools hk6 ?_)
  refine jr_istore (L' := [_, _, _, _, _, _, _, _, _, _, _, _, _]) 211 dX4_playSecond_209 rfl (by decide) rfl ?_
  refine jr_aload_n 0 212 dX4_playSecond_211 rfl rfl rfl ?_
  refine gf_X4_36 215 dX4_playSecond_212 rfl rfl rfl rfl ?_
  refine jr_iload_n 2 216 dX4_playSecond_215 rfl rfl rfl ?_
  refine jr_iload_n 3 217 dX4_playSecond_216 rfl rfl rfl ?_
  refine jr_iload 219 dX4_playSecond_217 rfl rfl ?_
  refine jr_aload_n 1 220 dX4_playSecond_219 rfl rfl rfl ?_
  refine gf_X4_81 223 dX4_playSecond_220 rfl rfl rfl rfl ?_
  refine jr_iload_n 2 224 dX4_playSecond_223 rfl rfl rfl ?_
  refine jr_iale rfl rfl (by omega) e17 225 dX4_playSecond_224 rfl ?_
  refine cs_X4_113 228 dX4_playSecond_225 rfl rfl rfl (Nat.le_of_ble_eq_true rfl) (wp_warmsSo ?_)
  refine jr_topi (y := pu_wso (σ 7 0) (σ 7 1) (σ 7 2) (nI f) (nI t) (pu_warms (kd f) (σ 17 f) (pu_within (ev_t T lw 0 (pu_nm wm l li (nI t) sn (σ 17 f))) 0 99) sn) (σ 17 f)) (by show pu_wso (σ1 7 0) (σ1 7 1) (σ1 7 2) (nI f) (nI t) _ _ = _; rw [he 7 (by decide)]) ?_
  refine jr_aload_n 1 229 dX4_playSecond_228 rfl rfl rfl ?_
  refine jr_iload_n 2 230 dX4_playSecond_229 rfl rfl rfl ?_
  refine jr_iload_n 3 231 dX4_playSecond_230 rfl rfl rfl ?_
  refine cs_X4_116 234 dX4_playSecond_231 rfl rfl rfl (Nat.le_of_ble_eq_true rfl) (wp_scaused_15 (nc := nc) (by show σ1 15 9 = _; rw [he 15 (by decide)]; exact hnc) h8 ?_)
  refine jr_topi (y := pu_ca 15 σ nc f t) (by show pu_cs (σ1 21) (σ1 22) (σ1 23) _ _ _ = _; rw [he 21 (by decide), he 22 (by decide), he 23 (by decide)]; rfl) ?_
  refine jr_iadd 235 dX4_playSecond_234 rfl ?_
  refine jr_aload_n 0 236 dX4_playSecond_235 rfl rfl rfl ?_
  refine gf_X4_36 239 dX4_playSecond_236 rfl rfl rfl rfl ?_
  refine jr_iload_n 2 240 dX4_playSecond_239 rfl rfl rfl ?_
  refine jr_iload_n 3 241 dX4_playSecond_240 rfl rfl rfl ?_
  refine cs_X4_119 244 dX4_playSecond_241 rfl rfl rfl (Nat.le_of_ble_eq_true rfl) (wp_tcaused ?_)
  refine jr_topi (y := pu_cb σ f t) (by show pu_cau (σ1 7 0) (σ1 7 1) (σ1 7 2) _ _ (pu_if (nI f = σ1 7 5 ∧ nI t = σ1 7 6) (σ1 7 7) 0) = _; rw [he 7 (by decide)]; rfl) ?_
  refine jr_iadd 245 dX4_playSecond_244 rfl ?_
  refine jr_istore (L' := [_, _, _, _, _, _, _, _, _, _, _, _, _]) 247 dX4_playSecond_245 rfl (by decide) rfl ?_
  refine jr_iconst (0) 248 dX4_playSecond_247 rfl rfl ?_
  refine jr_sipush (400) 251 dX4_playSecond_248 rfl rfl ?_
  refine jr_iload 253 dX4_playSecond_251 rfl rfl ?_
  refine jr_iload 255 dX4_playSecond_253 rfl rfl ?_
  refine jr_iadd 256 dX4_playSecond_255 rfl ?_
  refine jr_aload_n 0 257 dX4_playSecond_256 rfl rfl rfl ?_
  refine gf_X4_36 260 dX4_playSecond_257 rfl rfl rfl rfl ?_
  refine jr_iload_n 2 261 dX4_playSecond_260 rfl rfl rfl ?_
  refine jr_iload_n 3 262 dX4_playSecond_261 rfl rfl rfl ?_
  refine jr_iload 264 dX4_playSecond_262 rfl rfl ?_
  refine cs_X4_120 267 dX4_playSecond_264 rfl rfl rfl (Nat.le_of_ble_eq_true rfl) (wp_coolsSo ?_)
  refine jr_topi (y := pu_cso (σ 7 0) (σ 7 1) (σ 7 2) (nI f) (nI t) (pu_cools (kd f) (σ 17 f) (pu_within (ev_t T lw 1 (pu_nm wm l li (nI t) sn (σ 17 f))) 0 99) wm)) (by show pu_cso (σ1 7 0) (σ1 7 1) (σ1 7 2) (nI f) (nI t) _ = _; rw [he 7 (by decide)]) ?_
  refine jr_isub 268 dX4_playSecond_267 rfl ?_
  refine jr_mmin 271 dX4_playSecond_268 rfl ml_X4_43 (Nat.le_of_ble_eq_true rfl) ?_
  refine jr_mmax 274 dX4_playSecond_271 rfl ml_X4_124 (Nat.le_of_ble_eq_true rfl) ?_
  refine jr_istore (L' := [_, _, _, _, _, _, _, _, _, _, _, _, _]) 276 dX4_playSecond_274 rfl (by decide) rfl ?_
  refine jr_aload_n 0 277 dX4_playSecond_276 rfl rfl rfl ?_
  refine gf_X4_18 280 dX4_playSecond_277 rfl rfl rfl rfl ?_
  refine jr_iload 282 dX4_playSecond_280 rfl rfl ?_
  refine jr_sipush (400) 285 dX4_playSecond_282 rfl rfl ?_
  refine jr_iload 287 dX4_playSecond_285 rfl rfl ?_
  refine jr_aload_n 0 288 dX4_playSecond_287 rfl rfl rfl ?_
  refine gf_X4_36 291 dX4_playSecond_288 rfl rfl rfl rfl ?_
  refine jr_iload_n 2 292 dX4_playSecond_291 rfl rfl rfl ?_
  refine jr_iload_n 3 293 dX4_playSecond_292 rfl rfl rfl ?_
  refine cs_X4_127 296 dX4_playSecond_293 rfl rfl rfl (Nat.le_of_ble_eq_true rfl) (wp_drawnTo (by omega) ?_)
  refine jr_topi (y := pu_dr σ f t) (by show pu_if (σ1 8 f = nI t) (σ1 7 9) 0 = _; rw [he 7 (by decide), he 8 (by decide)]; rfl) ?_
  refine jr_iadd 297 dX4_playSecond_296 rfl ?_
  refine jr_mmin 300 dX4_playSecond_297 rfl ml_X4_43 (Nat.le_of_ble_eq_true rfl) ?_
  refine jr_iast rfl rfl (by omega) 301 dX4_playSecond_300 rfl ?_
  refine jr_aload_n 0 302 dX4_playSecond_301 rfl rfl rfl ?_
  refine gf_X4_22 305 dX4_playSecond_302 rfl rfl rfl rfl ?_
  refine jr_iload 307 dX4_playSecond_305 rfl rfl ?_
  refine jr_iload 309 dX4_playSecond_307 rfl rfl ?_
  refine jr_iast rfl rfl (by omega) 310 dX4_playSecond_309 rfl ?_
  refine jr_return dX4_playSecond_310 rfl ?_
  refine hk _ ?_ ?_ ?_
  · repeat (first | exact jr_eqx_w he (by simp) | refine jr_eqx_tr ?_ (jr_eqx_up _ _ _ (by decide)) | refine jr_eqx_tr ?_ (jr_eqx_upc _ _ (by decide)))
  · show upd (σ1 12) _ _ = _
    rw [he 12 (by decide)]
  · show upd (σ1 13) _ _ = _
    rw [he 13 (by decide)]
theorem wp_playSecond_15 {G : jr_G} {d : Nat} {σ : jr_Sg} {k : jr_Sg → Prop} {T : Nat → Nat → List Nat} {n lw nf nc f t : Nat} {kd se : Nat → Nat} (hsc : sc_ok 15 σ nf nc kd se) (hf : f < nf) (ht : t < 40) (hT : ti_C T n σ) (hlw : lw < n) (hlaw : σ 15 10 = nI lw) (hk : ∀ σ' : jr_Sg, jr_eqx [4, 11, 12, 13] σ σ' → σ' 12 = upd (σ 12) (5 * t + f + 5) (sm_step (ev_t T lw) nf (σ 17) (kd f) (σ 14 f) (σ 20 (se f)) f (pu_bl σ f) (σ 7 0) (σ 7 1) (σ 7 2) (pu_ca 15 σ nc f) (pu_cb σ f) (pu_dr σ f) t (σ 12 (5 * t + f), σ 13 (5 * t + f))).1 → σ' 13 = upd (σ 13) (5 * t + f + 5) (sm_step (ev_t T lw) nf (σ 17) (kd f) (σ 14 f) (σ 20 (se f)) f (pu_bl σ f) (σ 7 0) (σ 7 1) (σ 7 2) (pu_ca 15 σ nc f) (pu_cb σ f) (pu_dr σ f) t (σ 12 (5 * t + f), σ 13 (5 * t + f))).2 → k σ') : jr_M G (d + 3) mi_X4_playSecond [.ref 9, .ref 15, .int (nI f), .int (nI t)] σ (jr_kv k) := by
  have hsc0 := hsc
  obtain ⟨hnf, h5, hnc, h8, hall⟩ := hsc
  have hix : nI t * nI 5 + nI f = nI (5 * t + f) := by rw [pk_mul, nI_add]; congr 1; omega
  refine jr_enter (L := [some (.ref 9), some (.ref 15), some (.int (nI f)), some (.int (nI t)), none, none, none, none, none, none, none, none, none]) (by decide) (Nat.le_of_ble_eq_true rfl) rfl ?_
  refine jr_iload_n 3 1 dX4_playSecond_0 rfl rfl rfl ?_
  refine jr_iconst (nI 5) 2 dX4_playSecond_1 rfl rfl ?_
  refine jr_imul 3 dX4_playSecond_2 rfl ?_
  refine jr_iload_n 2 4 dX4_playSecond_3 rfl rfl rfl ?_
  refine jr_iadd 5 dX4_playSecond_4 rfl ?_
  rw [hix]
  refine jr_istore (L' := [_, _, _, _, _, _, _, _, _, _, _, _, _]) 7 dX4_playSecond_5 rfl (by decide) rfl ?_
  refine jr_iload 9 dX4_playSecond_7 rfl rfl ?_
  refine jr_iconst (nI 5) 10 dX4_playSecond_9 rfl rfl ?_
  refine jr_iadd 11 dX4_playSecond_10 rfl ?_
  rw [nI_add]
  refine jr_istore (L' := [_, _, _, _, _, _, _, _, _, _, _, _, _]) 13 dX4_playSecond_11 rfl (by decide) rfl ?_
  refine jr_aload_n 1 14 dX4_playSecond_13 rfl rfl rfl ?_
  refine jr_iload_n 2 15 dX4_playSecond_14 rfl rfl rfl ?_
  refine cs_X4_53 18 dX4_playSecond_15 rfl rfl rfl (Nat.le_of_ble_eq_true rfl) (wp_hasT_15 hnf h5 hf ?_)
  refine jr_if_eq 36 21 dX4_playSecond_18 rfl rfl (fun q => absurd q (by decide)) (fun q18 => ?_)
  refine jr_iload 23 dX4_playSecond_21 rfl rfl ?_
  refine jr_if_lt 36 26 dX4_playSecond_23 rfl rfl (fun z => absurd z (nI_pos (by omega))) (fun q23 => ?_)
  refine jr_iload 28 dX4_playSecond_26 rfl rfl ?_
  refine jr_aload_n 0 29 dX4_playSecond_28 rfl rfl rfl ?_
  refine gf_X4_18 32 dX4_playSecond_29 rfl rfl rfl rfl ?_
  refine jr_alen rfl 33 dX4_playSecond_32 rfl ?_
  refine jr_icmp_lt 37 36 dX4_playSecond_33 rfl rfl (fun q33 => ?_) (fun z => absurd (nI_lt (by omega) (by decide)) z)
  refine jr_aload_n 0 38 dX4_playSecond_37 rfl rfl rfl ?_
  refine gf_X4_18 41 dX4_playSecond_38 rfl rfl rfl rfl ?_
  refine jr_iload 43 dX4_playSecond_41 rfl rfl ?_
  refine jr_iald rfl rfl (by omega) 44 dX4_playSecond_43 rfl ?_
  refine jr_istore (L' := [_, _, _, _, _, _, _, _, _, _, _, _, _]) 46 dX4_playSecond_44 rfl (by decide) rfl ?_
  refine jr_iload 48 dX4_playSecond_46 rfl rfl ?_
  refine jr_aload_n 0 49 dX4_playSecond_48 rfl rfl rfl ?_
  refine gf_X4_25 52 dX4_playSecond_49 rfl rfl rfl rfl ?_
  refine jr_iload_n 2 53 dX4_playSecond_52 rfl rfl rfl ?_
  refine jr_iald rfl rfl (by omega) 54 dX4_playSecond_53 rfl ?_
  refine jr_icmp_lt 61 57 dX4_playSecond_54 rfl rfl (fun q54 => ?_) (fun q54 => ?_)
  · refine jr_iconst (nI 0) 62 dX4_playSecond_61 rfl rfl ?_
    refine jr_istore (L' := [_, _, _, _, _, _, _, _, _, _, _, _, _]) 64 dX4_playSecond_62 rfl (by decide) rfl ?_
    refine jr_aload_n 0 65 dX4_playSecond_64 rfl rfl rfl ?_
    refine gf_X4_12 68 dX4_playSecond_65 rfl rfl rfl rfl ?_
    refine jr_iload 70 dX4_playSecond_68 rfl rfl ?_
    refine jr_aload_n 1 71 dX4_playSecond_70 rfl rfl rfl ?_
    refine jr_iload_n 2 72 dX4_playSecond_71 rfl rfl rfl ?_
    refine cs_X4_64 75 dX4_playSecond_72 rfl rfl rfl (Nat.le_of_ble_eq_true rfl) (wp_lightOf_15 hsc0 hf ?_)
    refine jr_iload_n 3 76 dX4_playSecond_75 rfl rfl rfl ?_
    refine jr_iload 78 dX4_playSecond_76 rfl rfl ?_
    refine jr_if_eq 85 81 dX4_playSecond_78 rfl rfl (fun q78 => ?_) (fun q => absurd (by decide) q)
    refine jr_iconst (nI 0) 86 dX4_playSecond_85 rfl rfl ?_
    refine cs_X4_67 89 dX4_playSecond_86 rfl rfl rfl (Nat.le_of_ble_eq_true rfl) (wp_tell ?_)
    refine jr_aload_n 0 90 dX4_playSecond_89 rfl rfl rfl ?_
    refine gf_X4_36 93 dX4_playSecond_90 rfl rfl rfl rfl ?_
    refine jr_iload_n 2 94 dX4_playSecond_93 rfl rfl rfl ?_
    refine jr_iload_n 3 95 dX4_playSecond_94 rfl rfl rfl ?_
    refine cs_X4_71 98 dX4_playSecond_95 rfl rfl rfl (Nat.le_of_ble_eq_true rfl) (wp_hides (fun (qh : pu_do (σ 7 0) (σ 7 1) (σ 7 2) (nI f) 0 (nI t) 10) => ?_) (fun (qh : ¬ pu_do (σ 7 0) (σ 7 1) (σ 7 2) (nI f) 0 (nI t) 10) => ?_))
    · refine jr_if_eq 105 101 dX4_playSecond_98 rfl rfl (fun q => absurd q (by decide)) (fun q98 => ?_)
      refine jr_iconst (nI 0) 102 dX4_playSecond_101 rfl rfl ?_
      refine jr_goto 118 dX4_playSecond_102 rfl ?_
      exact playSecond_tail_15 (l := 0) (li := σ 20 (se f)) (sn := 0) hsc0 hf ht hT hlw hlaw (jr_eqx_tr (jr_eqx_tr (jr_eqx_tr (jr_eqx_up σ 0 _ (by decide)) (jr_eqx_up _ 2 _ (by decide))) (jr_eqx_up _ 3 _ (by decide))) (jr_eqx_up _ 4 _ (by decide))) rfl rfl rfl rfl (fun σ' g1 g2 g3 => hk σ' g1 (by rw [g2]; unfold sm_step; dsimp only; rw [if_neg (Int32.not_le.mpr q54), pu_if_t qh]) (by rw [g3]; unfold sm_step; dsimp only; rw [pu_if_t qh]))
    · refine jr_if_eq 105 101 dX4_playSecond_98 rfl rfl (fun q98 => ?_) (fun q => absurd (by decide) q)
      refine jr_aload_n 0 106 dX4_playSecond_105 rfl rfl rfl ?_
      refine jr_aload_n 1 107 dX4_playSecond_106 rfl rfl rfl ?_
      refine jr_iload_n 2 108 dX4_playSecond_107 rfl rfl rfl ?_
      refine jr_aload_n 0 109 dX4_playSecond_108 rfl rfl rfl ?_
      refine gf_X4_22 112 dX4_playSecond_109 rfl rfl rfl rfl ?_
      refine jr_iload 114 dX4_playSecond_112 rfl rfl ?_
      refine jr_iald rfl rfl (by omega) 115 dX4_playSecond_114 rfl ?_
      refine cs_X4_77 118 dX4_playSecond_115 rfl rfl rfl (Nat.le_of_ble_eq_true rfl) (wp_lookersAt_15 (n := n) (T := T) (lw := lw) hnf h5 hf (ti_C_of hT rfl rfl rfl) hlw hlaw rfl rfl rfl rfl (fun σ1 hl1 hl2 hl3 hl4 hl5 => ?_))
      refine jr_topi (y := sm_cnt (fun m => ev_t T lw 2 (pu_nm (σ 12 (5 * t + f)) (σ 13 (5 * t + f)) (σ 20 (se f)) (nI t) 0 m)) (σ 17) f (pu_bl σ f) nf) rfl ?_
      exact playSecond_tail_15 (li := σ 20 (se f)) (sn := 0) hsc0 hf ht hT hlw hlaw (jr_eqx_tr (jr_eqx_tr (jr_eqx_tr (jr_eqx_tr (jr_eqx_up σ 0 _ (by decide)) (jr_eqx_up _ 2 _ (by decide))) (jr_eqx_up _ 3 _ (by decide))) (jr_eqx_up _ 4 _ (by decide))) hl1) hl2 hl3 hl4 hl5 (fun σ' g1 g2 g3 => hk σ' g1 (by rw [g2]; unfold sm_step; dsimp only; rw [if_neg (Int32.not_le.mpr q54), pu_if_f qh]) (by rw [g3]; unfold sm_step; dsimp only; rw [pu_if_f qh]; rw [if_neg (Int32.not_le.mpr q54)]))
  · refine jr_iconst (nI 1) 58 dX4_playSecond_57 rfl rfl ?_
    refine jr_goto 62 dX4_playSecond_58 rfl ?_
    refine jr_istore (L' := [_, _, _, _, _, _, _, _, _, _, _, _, _]) 64 dX4_playSecond_62 rfl (by decide) rfl ?_
    refine jr_aload_n 0 65 dX4_playSecond_64 rfl rfl rfl ?_
    refine gf_X4_12 68 dX4_playSecond_65 rfl rfl rfl rfl ?_
    refine jr_iload 70 dX4_playSecond_68 rfl rfl ?_
    refine jr_aload_n 1 71 dX4_playSecond_70 rfl rfl rfl ?_
    refine jr_iload_n 2 72 dX4_playSecond_71 rfl rfl rfl ?_
    refine cs_X4_64 75 dX4_playSecond_72 rfl rfl rfl (Nat.le_of_ble_eq_true rfl) (wp_lightOf_15 hsc0 hf ?_)
    refine jr_iload_n 3 76 dX4_playSecond_75 rfl rfl rfl ?_
    refine jr_iload 78 dX4_playSecond_76 rfl rfl ?_
    refine jr_if_eq 85 81 dX4_playSecond_78 rfl rfl (fun q => absurd q (by decide)) (fun q78 => ?_)
    refine jr_iconst (nI 1) 82 dX4_playSecond_81 rfl rfl ?_
    refine jr_goto 86 dX4_playSecond_82 rfl ?_
    refine cs_X4_67 89 dX4_playSecond_86 rfl rfl rfl (Nat.le_of_ble_eq_true rfl) (wp_tell ?_)
    refine jr_aload_n 0 90 dX4_playSecond_89 rfl rfl rfl ?_
    refine gf_X4_36 93 dX4_playSecond_90 rfl rfl rfl rfl ?_
    refine jr_iload_n 2 94 dX4_playSecond_93 rfl rfl rfl ?_
    refine jr_iload_n 3 95 dX4_playSecond_94 rfl rfl rfl ?_
    refine cs_X4_71 98 dX4_playSecond_95 rfl rfl rfl (Nat.le_of_ble_eq_true rfl) (wp_hides (fun (qh : pu_do (σ 7 0) (σ 7 1) (σ 7 2) (nI f) 0 (nI t) 10) => ?_) (fun (qh : ¬ pu_do (σ 7 0) (σ 7 1) (σ 7 2) (nI f) 0 (nI t) 10) => ?_))
    · refine jr_if_eq 105 101 dX4_playSecond_98 rfl rfl (fun q => absurd q (by decide)) (fun q98 => ?_)
      refine jr_iconst (nI 0) 102 dX4_playSecond_101 rfl rfl ?_
      refine jr_goto 118 dX4_playSecond_102 rfl ?_
      exact playSecond_tail_15 (l := 0) (li := σ 20 (se f)) (sn := 1) hsc0 hf ht hT hlw hlaw (jr_eqx_tr (jr_eqx_tr (jr_eqx_tr (jr_eqx_up σ 0 _ (by decide)) (jr_eqx_up _ 2 _ (by decide))) (jr_eqx_up _ 3 _ (by decide))) (jr_eqx_up _ 4 _ (by decide))) rfl rfl rfl rfl (fun σ' g1 g2 g3 => hk σ' g1 (by rw [g2]; unfold sm_step; dsimp only; rw [if_pos (Int32.not_lt.mp q54), pu_if_t qh]) (by rw [g3]; unfold sm_step; dsimp only; rw [pu_if_t qh]))
    · refine jr_if_eq 105 101 dX4_playSecond_98 rfl rfl (fun q98 => ?_) (fun q => absurd (by decide) q)
      refine jr_aload_n 0 106 dX4_playSecond_105 rfl rfl rfl ?_
      refine jr_aload_n 1 107 dX4_playSecond_106 rfl rfl rfl ?_
      refine jr_iload_n 2 108 dX4_playSecond_107 rfl rfl rfl ?_
      refine jr_aload_n 0 109 dX4_playSecond_108 rfl rfl rfl ?_
      refine gf_X4_22 112 dX4_playSecond_109 rfl rfl rfl rfl ?_
      refine jr_iload 114 dX4_playSecond_112 rfl rfl ?_
      refine jr_iald rfl rfl (by omega) 115 dX4_playSecond_114 rfl ?_
      refine cs_X4_77 118 dX4_playSecond_115 rfl rfl rfl (Nat.le_of_ble_eq_true rfl) (wp_lookersAt_15 (n := n) (T := T) (lw := lw) hnf h5 hf (ti_C_of hT rfl rfl rfl) hlw hlaw rfl rfl rfl rfl (fun σ1 hl1 hl2 hl3 hl4 hl5 => ?_))
      refine jr_topi (y := sm_cnt (fun m => ev_t T lw 2 (pu_nm (σ 12 (5 * t + f)) (σ 13 (5 * t + f)) (σ 20 (se f)) (nI t) 1 m)) (σ 17) f (pu_bl σ f) nf) rfl ?_
      exact playSecond_tail_15 (li := σ 20 (se f)) (sn := 1) hsc0 hf ht hT hlw hlaw (jr_eqx_tr (jr_eqx_tr (jr_eqx_tr (jr_eqx_tr (jr_eqx_up σ 0 _ (by decide)) (jr_eqx_up _ 2 _ (by decide))) (jr_eqx_up _ 3 _ (by decide))) (jr_eqx_up _ 4 _ (by decide))) hl1) hl2 hl3 hl4 hl5 (fun σ' g1 g2 g3 => hk σ' g1 (by rw [g2]; unfold sm_step; dsimp only; rw [if_pos (Int32.not_lt.mp q54), pu_if_f qh]) (by rw [g3]; unfold sm_step; dsimp only; rw [pu_if_f qh]; rw [if_pos (Int32.not_lt.mp q54)]))
theorem playSecond_tail_24 {G : jr_G} {d : Nat} {σ : jr_Sg} {k : jr_Sg → Prop} {T : Nat → Nat → List Nat} {n lw nf nc f t : Nat} {kd se : Nat → Nat} (hsc : sc_ok 24 σ nf nc kd se) (hf : f < nf) (ht : t < 40) (hT : ti_C T n σ) (hlw : lw < n) (hlaw : σ 24 10 = nI lw) {wm l li sn : Int32} {σ1 : jr_Sg} {x8 x9 x10 x11 x12 : Option Value} (he : jr_eqx [4, 11] σ σ1) (n0 : σ1 11 0 = wm) (n2 : σ1 11 2 = li) (n3 : σ1 11 3 = nI t) (n4 : σ1 11 4 = sn)
    (hk : ∀ σ' : jr_Sg, jr_eqx [4, 11, 12, 13] σ σ' → σ' 12 = upd (σ 12) (5 * t + f + 5) (pu_min 400 ((pu_max 0 (pu_min 400 (wm + (pu_wso (σ 7 0) (σ 7 1) (σ 7 2) (nI f) (nI t) (pu_warms (kd f) (σ 26 f) (pu_within (ev_t T lw 0 (pu_nm wm l li (nI t) sn (σ 26 f))) 0 99) sn) (σ 26 f) + pu_ca 24 σ nc f t + pu_cb σ f t) - pu_cso (σ 7 0) (σ 7 1) (σ 7 2) (nI f) (nI t) (pu_cools (kd f) (σ 26 f) (pu_within (ev_t T lw 1 (pu_nm wm l li (nI t) sn (σ 26 f))) 0 99) wm)))) + pu_dr σ f t)) → σ' 13 = upd (σ 13) (5 * t + f + 5) l → k σ') :
    jr_R G (d + 3) mi_X4_playSecond (jr_kv k) 118 [some (.ref 9), some (.ref 24), some (.int (nI f)), some (.int (nI t)), some (.int (nI (5 * t + f))), some (.int (nI (5 * t + f + 5))), some (.int wm), some (.int sn), x8, x9, x10, x11, x12] [.int l] σ1 := by
  obtain ⟨hnf, h5, hnc, h8, hall⟩ := hsc
  obtain ⟨hk6, hs8, hkd, hse⟩ := hall f hf
  have e25 : σ1 25 f = nI (kd f) := by rw [he 25 (by decide)]; exact hkd
  have e26 : σ1 26 f = σ 26 f := by rw [he 26 (by decide)]
  have elaw : σ1 24 10 = nI lw := by rw [he 24 (by decide)]; exact hlaw
  have hT1 : ti_C T n σ1 := ti_C_of hT (he 1 (by decide)) (he 2 (by decide)) (he 3 (by decide))
  refine jr_istore (L' := [_, _, _, _, _, _, _, _, _, _, _, _, _]) 120 dX4_playSecond_118 rfl (by decide) rfl ?_
  refine jr_aload_n 0 121 dX4_playSecond_120 rfl rfl rfl ?_
  refine gf_X4_12 124 dX4_playSecond_121 rfl rfl rfl rfl ?_
  refine jr_iload 126 dX4_playSecond_124 rfl rfl ?_
  refine jr_aload_n 1 127 dX4_playSecond_126 rfl rfl rfl ?_
  refine gf_X4_81 130 dX4_playSecond_127 rfl rfl rfl rfl ?_
  refine jr_iload_n 2 131 dX4_playSecond_130 rfl rfl rfl ?_
  refine jr_iale rfl rfl (by omega) e26 132 dX4_playSecond_131 rfl ?_
  refine cs_X4_84 135 dX4_playSecond_132 rfl rfl rfl (Nat.le_of_ble_eq_true rfl) (wp_tellLooks ?_)
  refine jr_aload_n 1 136 dX4_playSecond_135 rfl rfl rfl ?_
  refine gf_X4_88 139 dX4_playSecond_136 rfl rfl rfl rfl ?_
  refine jr_iload_n 2 140 dX4_playSecond_139 rfl rfl rfl ?_
  refine jr_iale rfl rfl (by omega) e25 141 dX4_playSecond_140 rfl ?_
  refine jr_aload_n 1 142 dX4_playSecond_141 rfl rfl rfl ?_
  refine gf_X4_81 145 dX4_playSecond_142 rfl rfl rfl rfl ?_
  refine jr_iload_n 2 146 dX4_playSecond_145 rfl rfl rfl ?_
  refine jr_iale rfl rfl (by omega) e26 147 dX4_playSecond_146 rfl ?_
  refine jr_aload_n 0 148 dX4_playSecond_147 rfl rfl rfl ?_
  refine gf_X4_32 151 dX4_playSecond_148 rfl rfl rfl rfl ?_
  refine jr_aload_n 1 152 dX4_playSecond_151 rfl rfl rfl ?_
  refine gf_X4_91 155 dX4_playSecond_152 rfl rfl rfl rfl ?_
  refine jr_topi (y := nI lw) elaw ?_
  refine jr_iconst (0) 156 dX4_playSecond_155 rfl rfl ?_
  refine jr_aload_n 0 157 dX4_playSecond_156 rfl rfl rfl ?_
  refine gf_X4_12 160 dX4_playSecond_157 rfl rfl rfl rfl ?_
  refine gf_X4_96 163 dX4_playSecond_160 rfl rfl rfl rfl ?_
  refine cs_X4_99 166 dX4_playSecond_163 rfl rfl rfl (Nat.le_of_ble_eq_true rfl) (wp_boundedN (t := lw) (p := 0) (nm := pu_nm wm l li (nI t) sn (σ 26 f)) (ti_C_of hT1 rfl rfl rfl) hlw (by omega) (six n0 rfl n2 n3 n4 rfl) (fun f1 => ?_))
  refine jr_iload 168 dX4_playSecond_166 rfl rfl ?_
  refine cs_X4_103 171 dX4_playSecond_168 rfl rfl (Nat.le_of_ble_eq_true rfl) (wp_kwarms hk6 ?_)
  refine jr_istore (L' := [_, _, _, _, _, _, _, _, _, _, _, _, _]) 173 dX4_playSecond_171 rfl (by decide) rfl ?_
  refine jr_aload_n 1 174 dX4_playSecond_173 rfl rfl rfl ?_
  refine gf_X4_88 177 dX4_playSecond_174 rfl rfl rfl rfl ?_
  refine jr_iload_n 2 178 dX4_playSecond_177 rfl rfl rfl ?_
  refine jr_iale rfl rfl (by omega) e25 179 dX4_playSecond_178 rfl ?_
  refine jr_aload_n 1 180 dX4_playSecond_179 rfl rfl rfl ?_
  refine gf_X4_81 183 dX4_playSecond_180 rfl rfl rfl rfl ?_
  refine jr_iload_n 2 184 dX4_playSecond_183 rfl rfl rfl ?_
  refine jr_iale rfl rfl (by omega) e26 185 dX4_playSecond_184 rfl ?_
  refine jr_aload_n 0 186 dX4_playSecond_185 rfl rfl rfl ?_
  refine gf_X4_32 189 dX4_playSecond_186 rfl rfl rfl rfl ?_
  refine jr_aload_n 1 190 dX4_playSecond_189 rfl rfl rfl ?_
  refine gf_X4_91 193 dX4_playSecond_190 rfl rfl rfl rfl ?_
  refine jr_topi (y := nI lw) elaw ?_
  refine jr_iconst (1) 194 dX4_playSecond_193 rfl rfl ?_
  refine jr_aload_n 0 195 dX4_playSecond_194 rfl rfl rfl ?_
  refine gf_X4_12 198 dX4_playSecond_195 rfl rfl rfl rfl ?_
  refine gf_X4_96 201 dX4_playSecond_198 rfl rfl rfl rfl ?_
  refine cs_X4_99 204 dX4_playSecond_201 rfl rfl rfl (Nat.le_of_ble_eq_true rfl) (wp_boundedN (t := lw) (p := 1) (nm := pu_nm wm l li (nI t) sn (σ 26 f)) (ti_C_of hT1 rfl rfl rfl) hlw (by omega) (six n0 rfl n2 n3 n4 rfl) (fun f2 => ?_))
  refine jr_iload 206 dX4_playSecond_204 rfl rfl ?_
  refine cs_X4_109 209 dX4_playSecond_206 rfl rfl (Nat.le_of_ble_eq_true rfl) (wp_kcools hk6 ?_)
  refine jr_istore (L' := [_, _, _, _, _, _, _, _, _, _, _, _, _]) 211 dX4_playSecond_209 rfl (by decide) rfl ?_
  refine jr_aload_n 0 212 dX4_playSecond_211 rfl rfl rfl ?_
  refine gf_X4_36 215 dX4_playSecond_212 rfl rfl rfl rfl ?_
  refine jr_iload_n 2 216 dX4_playSecond_215 rfl rfl rfl ?_
  refine jr_iload_n 3 217 dX4_playSecond_216 rfl rfl rfl ?_
  refine jr_iload 219 dX4_playSecond_217 rfl rfl ?_
  refine jr_aload_n 1 220 dX4_playSecond_219 rfl rfl rfl ?_
  refine gf_X4_81 223 dX4_playSecond_220 rfl rfl rfl rfl ?_
  refine jr_iload_n 2 224 dX4_playSecond_223 rfl rfl rfl ?_
  refine jr_iale rfl rfl (by omega) e26 225 dX4_playSecond_224 rfl ?_
  refine cs_X4_113 228 dX4_playSecond_225 rfl rfl rfl (Nat.le_of_ble_eq_true rfl) (wp_warmsSo ?_)
  refine jr_topi (y := pu_wso (σ 7 0) (σ 7 1) (σ 7 2) (nI f) (nI t) (pu_warms (kd f) (σ 26 f) (pu_within (ev_t T lw 0 (pu_nm wm l li (nI t) sn (σ 26 f))) 0 99) sn) (σ 26 f)) (by show pu_wso (σ1 7 0) (σ1 7 1) (σ1 7 2) (nI f) (nI t) _ _ = _; rw [he 7 (by decide)]) ?_
  refine jr_aload_n 1 229 dX4_playSecond_228 rfl rfl rfl ?_
  refine jr_iload_n 2 230 dX4_playSecond_229 rfl rfl rfl ?_
  refine jr_iload_n 3 231 dX4_playSecond_230 rfl rfl rfl ?_
  refine cs_X4_116 234 dX4_playSecond_231 rfl rfl rfl (Nat.le_of_ble_eq_true rfl) (wp_scaused_24 (nc := nc) (by show σ1 24 9 = _; rw [he 24 (by decide)]; exact hnc) h8 ?_)
  refine jr_topi (y := pu_ca 24 σ nc f t) (by show pu_cs (σ1 30) (σ1 31) (σ1 32) _ _ _ = _; rw [he 30 (by decide), he 31 (by decide), he 32 (by decide)]; rfl) ?_
  refine jr_iadd 235 dX4_playSecond_234 rfl ?_
  refine jr_aload_n 0 236 dX4_playSecond_235 rfl rfl rfl ?_
  refine gf_X4_36 239 dX4_playSecond_236 rfl rfl rfl rfl ?_
  refine jr_iload_n 2 240 dX4_playSecond_239 rfl rfl rfl ?_
  refine jr_iload_n 3 241 dX4_playSecond_240 rfl rfl rfl ?_
  refine cs_X4_119 244 dX4_playSecond_241 rfl rfl rfl (Nat.le_of_ble_eq_true rfl) (wp_tcaused ?_)
  refine jr_topi (y := pu_cb σ f t) (by show pu_cau (σ1 7 0) (σ1 7 1) (σ1 7 2) _ _ (pu_if (nI f = σ1 7 5 ∧ nI t = σ1 7 6) (σ1 7 7) 0) = _; rw [he 7 (by decide)]; rfl) ?_
  refine jr_iadd 245 dX4_playSecond_244 rfl ?_
  refine jr_istore (L' := [_, _, _, _, _, _, _, _, _, _, _, _, _]) 247 dX4_playSecond_245 rfl (by decide) rfl ?_
  refine jr_iconst (0) 248 dX4_playSecond_247 rfl rfl ?_
  refine jr_sipush (400) 251 dX4_playSecond_248 rfl rfl ?_
  refine jr_iload 253 dX4_playSecond_251 rfl rfl ?_
  refine jr_iload 255 dX4_playSecond_253 rfl rfl ?_
  refine jr_iadd 256 dX4_playSecond_255 rfl ?_
  refine jr_aload_n 0 257 dX4_playSecond_256 rfl rfl rfl ?_
  refine gf_X4_36 260 dX4_playSecond_257 rfl rfl rfl rfl ?_
  refine jr_iload_n 2 261 dX4_playSecond_260 rfl rfl rfl ?_
  refine jr_iload_n 3 262 dX4_playSecond_261 rfl rfl rfl ?_
  refine jr_iload 264 dX4_playSecond_262 rfl rfl ?_
  refine cs_X4_120 267 dX4_playSecond_264 rfl rfl rfl (Nat.le_of_ble_eq_true rfl) (wp_coolsSo ?_)
  refine jr_topi (y := pu_cso (σ 7 0) (σ 7 1) (σ 7 2) (nI f) (nI t) (pu_cools (kd f) (σ 26 f) (pu_within (ev_t T lw 1 (pu_nm wm l li (nI t) sn (σ 26 f))) 0 99) wm)) (by show pu_cso (σ1 7 0) (σ1 7 1) (σ1 7 2) (nI f) (nI t) _ = _; rw [he 7 (by decide)]) ?_
  refine jr_isub 268 dX4_playSecond_267 rfl ?_
  refine jr_mmin 271 dX4_playSecond_268 rfl ml_X4_43 (Nat.le_of_ble_eq_true rfl) ?_
  refine jr_mmax 274 dX4_playSecond_271 rfl ml_X4_124 (Nat.le_of_ble_eq_true rfl) ?_
  refine jr_istore (L' := [_, _, _, _, _, _, _, _, _, _, _, _, _]) 276 dX4_playSecond_274 rfl (by decide) rfl ?_
  refine jr_aload_n 0 277 dX4_playSecond_276 rfl rfl rfl ?_
  refine gf_X4_18 280 dX4_playSecond_277 rfl rfl rfl rfl ?_
  refine jr_iload 282 dX4_playSecond_280 rfl rfl ?_
  refine jr_sipush (400) 285 dX4_playSecond_282 rfl rfl ?_
  refine jr_iload 287 dX4_playSecond_285 rfl rfl ?_
  refine jr_aload_n 0 288 dX4_playSecond_287 rfl rfl rfl ?_
  refine gf_X4_36 291 dX4_playSecond_288 rfl rfl rfl rfl ?_
  refine jr_iload_n 2 292 dX4_playSecond_291 rfl rfl rfl ?_
  refine jr_iload_n 3 293 dX4_playSecond_292 rfl rfl rfl ?_
  refine cs_X4_127 296 dX4_playSecond_293 rfl rfl rfl (Nat.le_of_ble_eq_true rfl) (wp_drawnTo (by omega) ?_)
  refine jr_topi (y := pu_dr σ f t) (by show pu_if (σ1 8 f = nI t) (σ1 7 9) 0 = _; rw [he 7 (by decide), he 8 (by decide)]; rfl) ?_
  refine jr_iadd 297 dX4_playSecond_296 rfl ?_
  refine jr_mmin 300 dX4_playSecond_297 rfl ml_X4_43 (Nat.le_of_ble_eq_true rfl) ?_
  refine jr_iast rfl rfl (by omega) 301 dX4_playSecond_300 rfl ?_
  refine jr_aload_n 0 302 dX4_playSecond_301 rfl rfl rfl ?_
  refine gf_X4_22 305 dX4_playSecond_302 rfl rfl rfl rfl ?_
  refine jr_iload 307 dX4_playSecond_305 rfl rfl ?_
  refine jr_iload 309 dX4_playSecond_307 rfl rfl ?_
  refine jr_iast rfl rfl (by omega) 310 dX4_playSecond_309 rfl ?_
  refine jr_return dX4_playSecond_310 rfl ?_
  refine hk _ ?_ ?_ ?_
  · repeat (first | exact jr_eqx_w he (by simp) | refine jr_eqx_tr ?_ (jr_eqx_up _ _ _ (by decide)) | refine jr_eqx_tr ?_ (jr_eqx_upc _ _ (by decide)))
  · show upd (σ1 12) _ _ = _
    rw [he 12 (by decide)]
  · show upd (σ1 13) _ _ = _
    rw [he 13 (by decide)]
theorem wp_playSecond_24 {G : jr_G} {d : Nat} {σ : jr_Sg} {k : jr_Sg → Prop} {T : Nat → Nat → List Nat} {n lw nf nc f t : Nat} {kd se : Nat → Nat} (hsc : sc_ok 24 σ nf nc kd se) (hf : f < nf) (ht : t < 40) (hT : ti_C T n σ) (hlw : lw < n) (hlaw : σ 24 10 = nI lw) (hk : ∀ σ' : jr_Sg, jr_eqx [4, 11, 12, 13] σ σ' → σ' 12 = upd (σ 12) (5 * t + f + 5) (sm_step (ev_t T lw) nf (σ 26) (kd f) (σ 14 f) (σ 29 (se f)) f (pu_bl σ f) (σ 7 0) (σ 7 1) (σ 7 2) (pu_ca 24 σ nc f) (pu_cb σ f) (pu_dr σ f) t (σ 12 (5 * t + f), σ 13 (5 * t + f))).1 → σ' 13 = upd (σ 13) (5 * t + f + 5) (sm_step (ev_t T lw) nf (σ 26) (kd f) (σ 14 f) (σ 29 (se f)) f (pu_bl σ f) (σ 7 0) (σ 7 1) (σ 7 2) (pu_ca 24 σ nc f) (pu_cb σ f) (pu_dr σ f) t (σ 12 (5 * t + f), σ 13 (5 * t + f))).2 → k σ') : jr_M G (d + 3) mi_X4_playSecond [.ref 9, .ref 24, .int (nI f), .int (nI t)] σ (jr_kv k) := by
  have hsc0 := hsc
  obtain ⟨hnf, h5, hnc, h8, hall⟩ := hsc
  have hix : nI t * nI 5 + nI f = nI (5 * t + f) := by rw [pk_mul, nI_add]; congr 1; omega
  refine jr_enter (L := [some (.ref 9), some (.ref 24), some (.int (nI f)), some (.int (nI t)), none, none, none, none, none, none, none, none, none]) (by decide) (Nat.le_of_ble_eq_true rfl) rfl ?_
  refine jr_iload_n 3 1 dX4_playSecond_0 rfl rfl rfl ?_
  refine jr_iconst (nI 5) 2 dX4_playSecond_1 rfl rfl ?_
  refine jr_imul 3 dX4_playSecond_2 rfl ?_
  refine jr_iload_n 2 4 dX4_playSecond_3 rfl rfl rfl ?_
  refine jr_iadd 5 dX4_playSecond_4 rfl ?_
  rw [hix]
  refine jr_istore (L' := [_, _, _, _, _, _, _, _, _, _, _, _, _]) 7 dX4_playSecond_5 rfl (by decide) rfl ?_
  refine jr_iload 9 dX4_playSecond_7 rfl rfl ?_
  refine jr_iconst (nI 5) 10 dX4_playSecond_9 rfl rfl ?_
  refine jr_iadd 11 dX4_playSecond_10 rfl ?_
  rw [nI_add]
  refine jr_istore (L' := [_, _, _, _, _, _, _, _, _, _, _, _, _]) 13 dX4_playSecond_11 rfl (by decide) rfl ?_
  refine jr_aload_n 1 14 dX4_playSecond_13 rfl rfl rfl ?_
  refine jr_iload_n 2 15 dX4_playSecond_14 rfl rfl rfl ?_
  refine cs_X4_53 18 dX4_playSecond_15 rfl rfl rfl (Nat.le_of_ble_eq_true rfl) (wp_hasT_24 hnf h5 hf ?_)
  refine jr_if_eq 36 21 dX4_playSecond_18 rfl rfl (fun q => absurd q (by decide)) (fun q18 => ?_)
  refine jr_iload 23 dX4_playSecond_21 rfl rfl ?_
  refine jr_if_lt 36 26 dX4_playSecond_23 rfl rfl (fun z => absurd z (nI_pos (by omega))) (fun q23 => ?_)
  refine jr_iload 28 dX4_playSecond_26 rfl rfl ?_
  refine jr_aload_n 0 29 dX4_playSecond_28 rfl rfl rfl ?_
  refine gf_X4_18 32 dX4_playSecond_29 rfl rfl rfl rfl ?_
  refine jr_alen rfl 33 dX4_playSecond_32 rfl ?_
  refine jr_icmp_lt 37 36 dX4_playSecond_33 rfl rfl (fun q33 => ?_) (fun z => absurd (nI_lt (by omega) (by decide)) z)
  refine jr_aload_n 0 38 dX4_playSecond_37 rfl rfl rfl ?_
  refine gf_X4_18 41 dX4_playSecond_38 rfl rfl rfl rfl ?_
  refine jr_iload 43 dX4_playSecond_41 rfl rfl ?_
  refine jr_iald rfl rfl (by omega) 44 dX4_playSecond_43 rfl ?_
  refine jr_istore (L' := [_, _, _, _, _, _, _, _, _, _, _, _, _]) 46 dX4_playSecond_44 rfl (by decide) rfl ?_
  refine jr_iload 48 dX4_playSecond_46 rfl rfl ?_
  refine jr_aload_n 0 49 dX4_playSecond_48 rfl rfl rfl ?_
  refine gf_X4_25 52 dX4_playSecond_49 rfl rfl rfl rfl ?_
  refine jr_iload_n 2 53 dX4_playSecond_52 rfl rfl rfl ?_
  refine jr_iald rfl rfl (by omega) 54 dX4_playSecond_53 rfl ?_
  refine jr_icmp_lt 61 57 dX4_playSecond_54 rfl rfl (fun q54 => ?_) (fun q54 => ?_)
  · refine jr_iconst (nI 0) 62 dX4_playSecond_61 rfl rfl ?_
    refine jr_istore (L' := [_, _, _, _, _, _, _, _, _, _, _, _, _]) 64 dX4_playSecond_62 rfl (by decide) rfl ?_
    refine jr_aload_n 0 65 dX4_playSecond_64 rfl rfl rfl ?_
    refine gf_X4_12 68 dX4_playSecond_65 rfl rfl rfl rfl ?_
    refine jr_iload 70 dX4_playSecond_68 rfl rfl ?_
    refine jr_aload_n 1 71 dX4_playSecond_70 rfl rfl rfl ?_
    refine jr_iload_n 2 72 dX4_playSecond_71 rfl rfl rfl ?_
    refine cs_X4_64 75 dX4_playSecond_72 rfl rfl rfl (Nat.le_of_ble_eq_true rfl) (wp_lightOf_24 hsc0 hf ?_)
    refine jr_iload_n 3 76 dX4_playSecond_75 rfl rfl rfl ?_
    refine jr_iload 78 dX4_playSecond_76 rfl rfl ?_
    refine jr_if_eq 85 81 dX4_playSecond_78 rfl rfl (fun q78 => ?_) (fun q => absurd (by decide) q)
    refine jr_iconst (nI 0) 86 dX4_playSecond_85 rfl rfl ?_
    refine cs_X4_67 89 dX4_playSecond_86 rfl rfl rfl (Nat.le_of_ble_eq_true rfl) (wp_tell ?_)
    refine jr_aload_n 0 90 dX4_playSecond_89 rfl rfl rfl ?_
    refine gf_X4_36 93 dX4_playSecond_90 rfl rfl rfl rfl ?_
    refine jr_iload_n 2 94 dX4_playSecond_93 rfl rfl rfl ?_
    refine jr_iload_n 3 95 dX4_playSecond_94 rfl rfl rfl ?_
    refine cs_X4_71 98 dX4_playSecond_95 rfl rfl rfl (Nat.le_of_ble_eq_true rfl) (wp_hides (fun (qh : pu_do (σ 7 0) (σ 7 1) (σ 7 2) (nI f) 0 (nI t) 10) => ?_) (fun (qh : ¬ pu_do (σ 7 0) (σ 7 1) (σ 7 2) (nI f) 0 (nI t) 10) => ?_))
    · refine jr_if_eq 105 101 dX4_playSecond_98 rfl rfl (fun q => absurd q (by decide)) (fun q98 => ?_)
      refine jr_iconst (nI 0) 102 dX4_playSecond_101 rfl rfl ?_
      refine jr_goto 118 dX4_playSecond_102 rfl ?_
      exact playSecond_tail_24 (l := 0) (li := σ 29 (se f)) (sn := 0) hsc0 hf ht hT hlw hlaw (jr_eqx_tr (jr_eqx_tr (jr_eqx_tr (jr_eqx_up σ 0 _ (by decide)) (jr_eqx_up _ 2 _ (by decide))) (jr_eqx_up _ 3 _ (by decide))) (jr_eqx_up _ 4 _ (by decide))) rfl rfl rfl rfl (fun σ' g1 g2 g3 => hk σ' g1 (by rw [g2]; unfold sm_step; dsimp only; rw [if_neg (Int32.not_le.mpr q54), pu_if_t qh]) (by rw [g3]; unfold sm_step; dsimp only; rw [pu_if_t qh]))
    · refine jr_if_eq 105 101 dX4_playSecond_98 rfl rfl (fun q98 => ?_) (fun q => absurd (by decide) q)
      refine jr_aload_n 0 106 dX4_playSecond_105 rfl rfl rfl ?_
      refine jr_aload_n 1 107 dX4_playSecond_106 rfl rfl rfl ?_
      refine jr_iload_n 2 108 dX4_playSecond_107 rfl rfl rfl ?_
      refine jr_aload_n 0 109 dX4_playSecond_108 rfl rfl rfl ?_
      refine gf_X4_22 112 dX4_playSecond_109 rfl rfl rfl rfl ?_
      refine jr_iload 114 dX4_playSecond_112 rfl rfl ?_
      refine jr_iald rfl rfl (by omega) 115 dX4_playSecond_114 rfl ?_
      refine cs_X4_77 118 dX4_playSecond_115 rfl rfl rfl (Nat.le_of_ble_eq_true rfl) (wp_lookersAt_24 (n := n) (T := T) (lw := lw) hnf h5 hf (ti_C_of hT rfl rfl rfl) hlw hlaw rfl rfl rfl rfl (fun σ1 hl1 hl2 hl3 hl4 hl5 => ?_))
      refine jr_topi (y := sm_cnt (fun m => ev_t T lw 2 (pu_nm (σ 12 (5 * t + f)) (σ 13 (5 * t + f)) (σ 29 (se f)) (nI t) 0 m)) (σ 26) f (pu_bl σ f) nf) rfl ?_
      exact playSecond_tail_24 (li := σ 29 (se f)) (sn := 0) hsc0 hf ht hT hlw hlaw (jr_eqx_tr (jr_eqx_tr (jr_eqx_tr (jr_eqx_tr (jr_eqx_up σ 0 _ (by decide)) (jr_eqx_up _ 2 _ (by decide))) (jr_eqx_up _ 3 _ (by decide))) (jr_eqx_up _ 4 _ (by decide))) hl1) hl2 hl3 hl4 hl5 (fun σ' g1 g2 g3 => hk σ' g1 (by rw [g2]; unfold sm_step; dsimp only; rw [if_neg (Int32.not_le.mpr q54), pu_if_f qh]) (by rw [g3]; unfold sm_step; dsimp only; rw [pu_if_f qh]; rw [if_neg (Int32.not_le.mpr q54)]))
  · refine jr_iconst (nI 1) 58 dX4_playSecond_57 rfl rfl ?_
    refine jr_goto 62 dX4_playSecond_58 rfl ?_
    refine jr_istore (L' := [_, _, _, _, _, _, _, _, _, _, _, _, _]) 64 dX4_playSecond_62 rfl (by decide) rfl ?_
    refine jr_aload_n 0 65 dX4_playSecond_64 rfl rfl rfl ?_
    refine gf_X4_12 68 dX4_playSecond_65 rfl rfl rfl rfl ?_
    refine jr_iload 70 dX4_playSecond_68 rfl rfl ?_
    refine jr_aload_n 1 71 dX4_playSecond_70 rfl rfl rfl ?_
    refine jr_iload_n 2 72 dX4_playSecond_71 rfl rfl rfl ?_
    refine cs_X4_64 75 dX4_playSecond_72 rfl rfl rfl (Nat.le_of_ble_eq_true rfl) (wp_lightOf_24 hsc0 hf ?_)
    refine jr_iload_n 3 76 dX4_playSecond_75 rfl rfl rfl ?_
    refine jr_iload 78 dX4_playSecond_76 rfl rfl ?_
    refine jr_if_eq 85 81 dX4_playSecond_78 rfl rfl (fun q => absurd q (by decide)) (fun q78 => ?_)
    refine jr_iconst (nI 1) 82 dX4_playSecond_81 rfl rfl ?_
    refine jr_goto 86 dX4_playSecond_82 rfl ?_
    refine cs_X4_67 89 dX4_playSecond_86 rfl rfl rfl (Nat.le_of_ble_eq_true rfl) (wp_tell ?_)
    refine jr_aload_n 0 90 dX4_playSecond_89 rfl rfl rfl ?_
    refine gf_X4_36 93 dX4_playSecond_90 rfl rfl rfl rfl ?_
    refine jr_iload_n 2 94 dX4_playSecond_93 rfl rfl rfl ?_
    refine jr_iload_n 3 95 dX4_playSecond_94 rfl rfl rfl ?_
    refine cs_X4_71 98 dX4_playSecond_95 rfl rfl rfl (Nat.le_of_ble_eq_true rfl) (wp_hides (fun (qh : pu_do (σ 7 0) (σ 7 1) (σ 7 2) (nI f) 0 (nI t) 10) => ?_) (fun (qh : ¬ pu_do (σ 7 0) (σ 7 1) (σ 7 2) (nI f) 0 (nI t) 10) => ?_))
    · refine jr_if_eq 105 101 dX4_playSecond_98 rfl rfl (fun q => absurd q (by decide)) (fun q98 => ?_)
      refine jr_iconst (nI 0) 102 dX4_playSecond_101 rfl rfl ?_
      refine jr_goto 118 dX4_playSecond_102 rfl ?_
      exact playSecond_tail_24 (l := 0) (li := σ 29 (se f)) (sn := 1) hsc0 hf ht hT hlw hlaw (jr_eqx_tr (jr_eqx_tr (jr_eqx_tr (jr_eqx_up σ 0 _ (by decide)) (jr_eqx_up _ 2 _ (by decide))) (jr_eqx_up _ 3 _ (by decide))) (jr_eqx_up _ 4 _ (by decide))) rfl rfl rfl rfl (fun σ' g1 g2 g3 => hk σ' g1 (by rw [g2]; unfold sm_step; dsimp only; rw [if_pos (Int32.not_lt.mp q54), pu_if_t qh]) (by rw [g3]; unfold sm_step; dsimp only; rw [pu_if_t qh]))
    · refine jr_if_eq 105 101 dX4_playSecond_98 rfl rfl (fun q98 => ?_) (fun q => absurd (by decide) q)
      refine jr_aload_n 0 106 dX4_playSecond_105 rfl rfl rfl ?_
      refine jr_aload_n 1 107 dX4_playSecond_106 rfl rfl rfl ?_
      refine jr_iload_n 2 108 dX4_playSecond_107 rfl rfl rfl ?_
      refine jr_aload_n 0 109 dX4_playSecond_108 rfl rfl rfl ?_
      refine gf_X4_22 112 dX4_playSecond_109 rfl rfl rfl rfl ?_
      refine jr_iload 114 dX4_playSecond_112 rfl rfl ?_
      refine jr_iald rfl rfl (by omega) 115 dX4_playSecond_114 rfl ?_
      refine cs_X4_77 118 dX4_playSecond_115 rfl rfl rfl (Nat.le_of_ble_eq_true rfl) (wp_lookersAt_24 (n := n) (T := T) (lw := lw) hnf h5 hf (ti_C_of hT rfl rfl rfl) hlw hlaw rfl rfl rfl rfl (fun σ1 hl1 hl2 hl3 hl4 hl5 => ?_))
      refine jr_topi (y := sm_cnt (fun m => ev_t T lw 2 (pu_nm (σ 12 (5 * t + f)) (σ 13 (5 * t + f)) (σ 29 (se f)) (nI t) 1 m)) (σ 26) f (pu_bl σ f) nf) rfl ?_
      exact playSecond_tail_24 (li := σ 29 (se f)) (sn := 1) hsc0 hf ht hT hlw hlaw (jr_eqx_tr (jr_eqx_tr (jr_eqx_tr (jr_eqx_tr (jr_eqx_up σ 0 _ (by decide)) (jr_eqx_up _ 2 _ (by decide))) (jr_eqx_up _ 3 _ (by decide))) (jr_eqx_up _ 4 _ (by decide))) hl1) hl2 hl3 hl4 hl5 (fun σ' g1 g2 g3 => hk σ' g1 (by rw [g2]; unfold sm_step; dsimp only; rw [if_pos (Int32.not_lt.mp q54), pu_if_f qh]) (by rw [g3]; unfold sm_step; dsimp only; rw [pu_if_f qh]; rw [if_pos (Int32.not_lt.mp q54)]))
